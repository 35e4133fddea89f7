/-! Natural: compared, added, taken away -/
def cmpN (v w : Nat) : Int32 := if v < w then -1 else if v = w then 0 else 1
theorem cmpN_lt {v w : Nat} (h : v < w) : cmpN v w = -1 := if_pos h
theorem cmpN_eq {v w : Nat} (h : v = w) : cmpN v w = 0 := by unfold cmpN; rw [if_neg (by omega), if_pos h]
theorem cmpN_gt {v w : Nat} (h : w < v) : cmpN v w = 1 := by unfold cmpN; rw [if_neg (by omega), if_neg (by omega)]
theorem RN_lt {g : Gh} {a b N M n m : Nat} {d e : Nat → Nat} (ha : RN g a N n d) (hb : RN g b M m e) (hbn : m = 0 ∨ e (m - 1) ≠ 0) (h : n < m) : val d n < val e m := by
  have h1 := val_lt ha.2.2.2.2 n
  rcases hbn with q | q
  · omega
  · obtain ⟨k, rfl⟩ : ∃ k, m = k + 1 := ⟨m - 1, by omega⟩
    have h2 := val_low (n := k) q
    have h3 := pw_ge (show n ≤ k by omega)
    omega
theorem d_Na_compareWith_0 : decode b_Na_compareWith 0 = .ok (.aload_n 0, 1) := by decide +kernel
theorem d_Na_compareWith_1 : decode b_Na_compareWith 1 = .ok (.getfield 13, 3) := by decide +kernel
theorem d_Na_compareWith_4 : decode b_Na_compareWith 4 = .ok (.aload_n 1, 1) := by decide +kernel
theorem d_Na_compareWith_5 : decode b_Na_compareWith 5 = .ok (.getfield 13, 3) := by decide +kernel
theorem d_Na_compareWith_8 : decode b_Na_compareWith 8 = .ok (.if_icmp .eq 20, 3) := by decide +kernel
theorem d_Na_compareWith_11 : decode b_Na_compareWith 11 = .ok (.aload_n 0, 1) := by decide +kernel
theorem d_Na_compareWith_12 : decode b_Na_compareWith 12 = .ok (.getfield 13, 3) := by decide +kernel
theorem d_Na_compareWith_15 : decode b_Na_compareWith 15 = .ok (.aload_n 1, 1) := by decide +kernel
theorem d_Na_compareWith_16 : decode b_Na_compareWith 16 = .ok (.getfield 13, 3) := by decide +kernel
theorem d_Na_compareWith_19 : decode b_Na_compareWith 19 = .ok (.if_icmp .ge 7, 3) := by decide +kernel
theorem d_Na_compareWith_22 : decode b_Na_compareWith 22 = .ok (.iconst (-1), 1) := by decide +kernel
theorem d_Na_compareWith_23 : decode b_Na_compareWith 23 = .ok (.goto 4, 3) := by decide +kernel
theorem d_Na_compareWith_26 : decode b_Na_compareWith 26 = .ok (.iconst 1, 1) := by decide +kernel
theorem d_Na_compareWith_27 : decode b_Na_compareWith 27 = .ok (.ireturn, 1) := by decide +kernel
theorem d_Na_compareWith_28 : decode b_Na_compareWith 28 = .ok (.aload_n 0, 1) := by decide +kernel
theorem d_Na_compareWith_29 : decode b_Na_compareWith 29 = .ok (.getfield 13, 3) := by decide +kernel
theorem d_Na_compareWith_32 : decode b_Na_compareWith 32 = .ok (.iconst 1, 1) := by decide +kernel
theorem d_Na_compareWith_33 : decode b_Na_compareWith 33 = .ok (.isub, 1) := by decide +kernel
theorem d_Na_compareWith_34 : decode b_Na_compareWith 34 = .ok (.istore_n 2, 1) := by decide +kernel
theorem d_Na_compareWith_35 : decode b_Na_compareWith 35 = .ok (.iload_n 2, 1) := by decide +kernel
theorem d_Na_compareWith_36 : decode b_Na_compareWith 36 = .ok (.ifCond .lt 43, 3) := by decide +kernel
theorem d_Na_compareWith_39 : decode b_Na_compareWith 39 = .ok (.aload_n 0, 1) := by decide +kernel
theorem d_Na_compareWith_40 : decode b_Na_compareWith 40 = .ok (.iload_n 2, 1) := by decide +kernel
theorem d_Na_compareWith_41 : decode b_Na_compareWith 41 = .ok (.invokevirtual 26, 3) := by decide +kernel
theorem d_Na_compareWith_44 : decode b_Na_compareWith 44 = .ok (.aload_n 1, 1) := by decide +kernel
theorem d_Na_compareWith_45 : decode b_Na_compareWith 45 = .ok (.iload_n 2, 1) := by decide +kernel
theorem d_Na_compareWith_46 : decode b_Na_compareWith 46 = .ok (.invokevirtual 26, 3) := by decide +kernel
theorem d_Na_compareWith_49 : decode b_Na_compareWith 49 = .ok (.lcmp, 1) := by decide +kernel
theorem d_Na_compareWith_50 : decode b_Na_compareWith 50 = .ok (.ifCond .eq 23, 3) := by decide +kernel
theorem d_Na_compareWith_53 : decode b_Na_compareWith 53 = .ok (.aload_n 0, 1) := by decide +kernel
theorem d_Na_compareWith_54 : decode b_Na_compareWith 54 = .ok (.iload_n 2, 1) := by decide +kernel
theorem d_Na_compareWith_55 : decode b_Na_compareWith 55 = .ok (.invokevirtual 26, 3) := by decide +kernel
theorem d_Na_compareWith_58 : decode b_Na_compareWith 58 = .ok (.aload_n 1, 1) := by decide +kernel
theorem d_Na_compareWith_59 : decode b_Na_compareWith 59 = .ok (.iload_n 2, 1) := by decide +kernel
theorem d_Na_compareWith_60 : decode b_Na_compareWith 60 = .ok (.invokevirtual 26, 3) := by decide +kernel
theorem d_Na_compareWith_63 : decode b_Na_compareWith 63 = .ok (.lcmp, 1) := by decide +kernel
theorem d_Na_compareWith_64 : decode b_Na_compareWith 64 = .ok (.ifCond .ge 7, 3) := by decide +kernel
theorem d_Na_compareWith_67 : decode b_Na_compareWith 67 = .ok (.iconst (-1), 1) := by decide +kernel
theorem d_Na_compareWith_68 : decode b_Na_compareWith 68 = .ok (.goto 4, 3) := by decide +kernel
theorem d_Na_compareWith_71 : decode b_Na_compareWith 71 = .ok (.iconst 1, 1) := by decide +kernel
theorem d_Na_compareWith_72 : decode b_Na_compareWith 72 = .ok (.ireturn, 1) := by decide +kernel
theorem d_Na_compareWith_73 : decode b_Na_compareWith 73 = .ok (.iinc 2 (-1), 3) := by decide +kernel
theorem d_Na_compareWith_76 : decode b_Na_compareWith 76 = .ok (.goto (-41), 3) := by decide +kernel
theorem d_Na_compareWith_79 : decode b_Na_compareWith 79 = .ok (.iconst 0, 1) := by decide +kernel
theorem d_Na_compareWith_80 : decode b_Na_compareWith 80 = .ok (.ireturn, 1) := by decide +kernel
theorem d_Na_add_0 : decode b_Na_add 0 = .ok (.aload_n 0, 1) := by decide +kernel
theorem d_Na_add_1 : decode b_Na_add 1 = .ok (.aload_n 0, 1) := by decide +kernel
theorem d_Na_add_2 : decode b_Na_add 2 = .ok (.getfield 13, 3) := by decide +kernel
theorem d_Na_add_5 : decode b_Na_add 5 = .ok (.aload_n 1, 1) := by decide +kernel
theorem d_Na_add_6 : decode b_Na_add 6 = .ok (.getfield 13, 3) := by decide +kernel
theorem d_Na_add_9 : decode b_Na_add 9 = .ok (.invokestatic 23, 3) := by decide +kernel
theorem d_Na_add_12 : decode b_Na_add 12 = .ok (.iconst 1, 1) := by decide +kernel
theorem d_Na_add_13 : decode b_Na_add 13 = .ok (.iadd, 1) := by decide +kernel
theorem d_Na_add_14 : decode b_Na_add 14 = .ok (.invokevirtual 37, 3) := by decide +kernel
theorem d_Na_add_17 : decode b_Na_add 17 = .ok (.lconst 0, 1) := by decide +kernel
theorem d_Na_add_18 : decode b_Na_add 18 = .ok (.lstore_n 2, 1) := by decide +kernel
theorem d_Na_add_19 : decode b_Na_add 19 = .ok (.iconst 0, 1) := by decide +kernel
theorem d_Na_add_20 : decode b_Na_add 20 = .ok (.istore 4, 2) := by decide +kernel
theorem d_Na_add_22 : decode b_Na_add 22 = .ok (.iload 4, 2) := by decide +kernel
theorem d_Na_add_24 : decode b_Na_add 24 = .ok (.aload_n 0, 1) := by decide +kernel
theorem d_Na_add_25 : decode b_Na_add 25 = .ok (.getfield 13, 3) := by decide +kernel
theorem d_Na_add_28 : decode b_Na_add 28 = .ok (.if_icmp .ge 44, 3) := by decide +kernel
theorem d_Na_add_31 : decode b_Na_add 31 = .ok (.aload_n 0, 1) := by decide +kernel
theorem d_Na_add_32 : decode b_Na_add 32 = .ok (.iload 4, 2) := by decide +kernel
theorem d_Na_add_34 : decode b_Na_add 34 = .ok (.invokevirtual 26, 3) := by decide +kernel
theorem d_Na_add_37 : decode b_Na_add 37 = .ok (.aload_n 1, 1) := by decide +kernel
theorem d_Na_add_38 : decode b_Na_add 38 = .ok (.iload 4, 2) := by decide +kernel
theorem d_Na_add_40 : decode b_Na_add 40 = .ok (.invokevirtual 26, 3) := by decide +kernel
theorem d_Na_add_43 : decode b_Na_add 43 = .ok (.ladd, 1) := by decide +kernel
theorem d_Na_add_44 : decode b_Na_add 44 = .ok (.lload_n 2, 1) := by decide +kernel
theorem d_Na_add_45 : decode b_Na_add 45 = .ok (.ladd, 1) := by decide +kernel
theorem d_Na_add_46 : decode b_Na_add 46 = .ok (.lstore 5, 2) := by decide +kernel
theorem d_Na_add_48 : decode b_Na_add 48 = .ok (.aload_n 0, 1) := by decide +kernel
theorem d_Na_add_49 : decode b_Na_add 49 = .ok (.iload 4, 2) := by decide +kernel
theorem d_Na_add_51 : decode b_Na_add 51 = .ok (.lload 5, 2) := by decide +kernel
theorem d_Na_add_53 : decode b_Na_add 53 = .ok (.ldc2_w 41, 3) := by decide +kernel
theorem d_Na_add_56 : decode b_Na_add 56 = .ok (.land, 1) := by decide +kernel
theorem d_Na_add_57 : decode b_Na_add 57 = .ok (.invokevirtual 30, 3) := by decide +kernel
theorem d_Na_add_60 : decode b_Na_add 60 = .ok (.lload 5, 2) := by decide +kernel
theorem d_Na_add_62 : decode b_Na_add 62 = .ok (.bipush 32, 2) := by decide +kernel
theorem d_Na_add_64 : decode b_Na_add 64 = .ok (.lushr, 1) := by decide +kernel
theorem d_Na_add_65 : decode b_Na_add 65 = .ok (.lstore_n 2, 1) := by decide +kernel
theorem d_Na_add_66 : decode b_Na_add 66 = .ok (.iinc 4 1, 3) := by decide +kernel
theorem d_Na_add_69 : decode b_Na_add 69 = .ok (.goto (-47), 3) := by decide +kernel
theorem d_Na_add_72 : decode b_Na_add 72 = .ok (.aload_n 0, 1) := by decide +kernel
theorem d_Na_add_73 : decode b_Na_add 73 = .ok (.invokevirtual 43, 3) := by decide +kernel
theorem d_Na_add_76 : decode b_Na_add 76 = .ok (.return_, 1) := by decide +kernel
theorem d_Na_subtract_0 : decode b_Na_subtract 0 = .ok (.lconst 0, 1) := by decide +kernel
theorem d_Na_subtract_1 : decode b_Na_subtract 1 = .ok (.lstore_n 2, 1) := by decide +kernel
theorem d_Na_subtract_2 : decode b_Na_subtract 2 = .ok (.iconst 0, 1) := by decide +kernel
theorem d_Na_subtract_3 : decode b_Na_subtract 3 = .ok (.istore 4, 2) := by decide +kernel
theorem d_Na_subtract_5 : decode b_Na_subtract 5 = .ok (.iload 4, 2) := by decide +kernel
theorem d_Na_subtract_7 : decode b_Na_subtract 7 = .ok (.aload_n 0, 1) := by decide +kernel
theorem d_Na_subtract_8 : decode b_Na_subtract 8 = .ok (.getfield 13, 3) := by decide +kernel
theorem d_Na_subtract_11 : decode b_Na_subtract 11 = .ok (.if_icmp .ge 51, 3) := by decide +kernel
theorem d_Na_subtract_14 : decode b_Na_subtract 14 = .ok (.aload_n 0, 1) := by decide +kernel
theorem d_Na_subtract_15 : decode b_Na_subtract 15 = .ok (.iload 4, 2) := by decide +kernel
theorem d_Na_subtract_17 : decode b_Na_subtract 17 = .ok (.invokevirtual 26, 3) := by decide +kernel
theorem d_Na_subtract_20 : decode b_Na_subtract 20 = .ok (.aload_n 1, 1) := by decide +kernel
theorem d_Na_subtract_21 : decode b_Na_subtract 21 = .ok (.iload 4, 2) := by decide +kernel
theorem d_Na_subtract_23 : decode b_Na_subtract 23 = .ok (.invokevirtual 26, 3) := by decide +kernel
theorem d_Na_subtract_26 : decode b_Na_subtract 26 = .ok (.lsub, 1) := by decide +kernel
theorem d_Na_subtract_27 : decode b_Na_subtract 27 = .ok (.lload_n 2, 1) := by decide +kernel
theorem d_Na_subtract_28 : decode b_Na_subtract 28 = .ok (.lsub, 1) := by decide +kernel
theorem d_Na_subtract_29 : decode b_Na_subtract 29 = .ok (.lstore 5, 2) := by decide +kernel
theorem d_Na_subtract_31 : decode b_Na_subtract 31 = .ok (.aload_n 0, 1) := by decide +kernel
theorem d_Na_subtract_32 : decode b_Na_subtract 32 = .ok (.iload 4, 2) := by decide +kernel
theorem d_Na_subtract_34 : decode b_Na_subtract 34 = .ok (.lload 5, 2) := by decide +kernel
theorem d_Na_subtract_36 : decode b_Na_subtract 36 = .ok (.ldc2_w 41, 3) := by decide +kernel
theorem d_Na_subtract_39 : decode b_Na_subtract 39 = .ok (.land, 1) := by decide +kernel
theorem d_Na_subtract_40 : decode b_Na_subtract 40 = .ok (.invokevirtual 30, 3) := by decide +kernel
theorem d_Na_subtract_43 : decode b_Na_subtract 43 = .ok (.lload 5, 2) := by decide +kernel
theorem d_Na_subtract_45 : decode b_Na_subtract 45 = .ok (.lconst 0, 1) := by decide +kernel
theorem d_Na_subtract_46 : decode b_Na_subtract 46 = .ok (.lcmp, 1) := by decide +kernel
theorem d_Na_subtract_47 : decode b_Na_subtract 47 = .ok (.ifCond .ge 7, 3) := by decide +kernel
theorem d_Na_subtract_50 : decode b_Na_subtract 50 = .ok (.lconst 1, 1) := by decide +kernel
theorem d_Na_subtract_51 : decode b_Na_subtract 51 = .ok (.goto 4, 3) := by decide +kernel
theorem d_Na_subtract_54 : decode b_Na_subtract 54 = .ok (.lconst 0, 1) := by decide +kernel
theorem d_Na_subtract_55 : decode b_Na_subtract 55 = .ok (.lstore_n 2, 1) := by decide +kernel
theorem d_Na_subtract_56 : decode b_Na_subtract 56 = .ok (.iinc 4 1, 3) := by decide +kernel
theorem d_Na_subtract_59 : decode b_Na_subtract 59 = .ok (.goto (-54), 3) := by decide +kernel
theorem d_Na_subtract_62 : decode b_Na_subtract 62 = .ok (.aload_n 0, 1) := by decide +kernel
theorem d_Na_subtract_63 : decode b_Na_subtract 63 = .ok (.invokevirtual 43, 3) := by decide +kernel
theorem d_Na_subtract_66 : decode b_Na_subtract 66 = .ok (.return_, 1) := by decide +kernel
theorem c_Na_compareWith (l : Launch) {g : Gh} (nx : Nat) {a b N M v w : Nat} (ha : NA g a N v) (hb : NA g b M w) : Ct l m_Na_compareWith 0 0 [.ref a, .ref b] g nx (pP (some (.int (cmpN v w))) g nx) := by
  obtain ⟨n, d, ha, hav, han⟩ := ha
  obtain ⟨a1, a2, a3, a4, a5⟩ := id ha
  obtain ⟨m, e, hb, hbv, hbn⟩ := hb
  obtain ⟨b1, b2, b3, b4, b5⟩ := id hb
  refine Ct.of (by decide) (Nat.le_of_ble_eq_true rfl) (fun E hE hQ => ?_)
  refine z_aload_n hE d_Na_compareWith_0 rfl ?_
  refine z_get hE d_Na_compareWith_1 fl_Na_13 (by assumption) rfl ?_
  refine z_aload_n hE d_Na_compareWith_4 rfl ?_
  refine z_get hE d_Na_compareWith_5 fl_Na_13 (by assumption) rfl ?_
  refine z_icmp_eq (tgt := 28) hE d_Na_compareWith_8 (by decide) (fun c_8 => ?_) (fun c_8 => ?_)
  · have hnm : n = m := (nI_EQ (by omega) (by omega)).mp c_8
    subst hnm
    refine z_aload_n hE d_Na_compareWith_28 rfl ?_
    refine z_get hE d_Na_compareWith_29 fl_Na_13 (by assumption) rfl ?_
    refine z_iconst (v := 1) hE d_Na_compareWith_32 (by decide) ?_
    refine z_isub hE d_Na_compareWith_33 (rfl) ?_
    refine z_istore_n hE d_Na_compareWith_34 rfl (by decide) ?_
    have loop : ∀ (i : Nat) (x : Int32), i ≤ n → x.toInt = (i : Int) - 1 → (∀ j, i ≤ j → j < n → d j = e j) → zJ E g nx 0 0 35 [(0, .ref a), (1, .ref b), (2, .int x)] [] := by
      intro i
      induction i with
      | zero =>
        intro x hi hxx he
        refine z_iload_n hE d_Na_compareWith_35 rfl ?_
        refine z_if_lt (tgt := 79) hE d_Na_compareWith_36 (by decide) (fun c_36 => ?_) (fun c_36 => ?_)
        · refine z_iconst (v := 0) hE d_Na_compareWith_79 (by decide) ?_
          refine z_iret hE hQ d_Na_compareWith_80 rfl (Nat.le_refl _) (Nat.le_refl _) ⟨?_, rfl, rfl⟩
          rw [cmpN_eq]
          rw [← hav, ← hbv]
          exact val_ext n (fun j hj => he j (by omega) hj)
        · exact absurd (i_lt0.mpr (by omega)) c_36
      | succ i ih =>
        intro x hi hxx he
        have hda : dz n d x.toInt = d i := by rw [show x.toInt = (i : Int) by omega, dz_in (by omega)]
        have hdb : dz n e x.toInt = e i := by rw [show x.toInt = (i : Int) by omega, dz_in (by omega)]
        have h5a := a5 i
        have h5b := b5 i
        have hsame : ∀ k, i + 1 + k ≤ n → ∃ T, val d (i + 1 + k) = val d (i + 1) + T ∧ val e (i + 1 + k) = val e (i + 1) + T := by
          intro k
          induction k with
          | zero => intro _; exact ⟨0, rfl, rfl⟩
          | succ k ihk =>
            intro hk
            obtain ⟨T, t1, t2⟩ := ihk (by omega)
            refine ⟨T + d (i + 1 + k) * 4294967296 ^ (i + 1 + k), ?_, ?_⟩
            · rw [show i + 1 + (k + 1) = (i + 1 + k) + 1 by omega, val_s, t1]; omega
            · rw [show i + 1 + (k + 1) = (i + 1 + k) + 1 by omega, val_s, t2, he (i + 1 + k) (by omega) (by omega)]; omega
        obtain ⟨T, t1, t2⟩ := hsame (n - (i + 1)) (by omega)
        rw [show i + 1 + (n - (i + 1)) = n by omega, val_s] at t1 t2
        rw [hav] at t1
        rw [hbv] at t2
        have va := val_lt a5 i
        have vb := val_lt b5 i
        refine z_iload_n hE d_Na_compareWith_35 rfl ?_
        refine z_if_lt (tgt := 79) hE d_Na_compareWith_36 (by decide) (fun c_36 => ?_) (fun c_36 => ?_)
        · exact absurd (i_lt0.mp c_36) (by omega)
        · refine z_aload_n hE d_Na_compareWith_39 rfl ?_
          refine z_iload_n hE d_Na_compareWith_40 rfl ?_
          refine z_callV hE d_Na_compareWith_41 cl_Na_26 (c_Na_at l nx ha x) (by assumption) cb_Na rfl (Nat.le_of_ble_eq_true rfl) ⟨by decide, by decide⟩ ⟨by omega, by omega⟩ (fun r_41 g_41 nx_41 hp_41 => ?_) rfl
          obtain ⟨rfl, rfl, rfl⟩ := hp_41
          try dsimp only [Option.toList, List.nil_append, List.cons_append]
          rw [hda]
          refine z_aload_n hE d_Na_compareWith_44 rfl ?_
          refine z_iload_n hE d_Na_compareWith_45 rfl ?_
          refine z_callV hE d_Na_compareWith_46 cl_Na_26 (c_Na_at l nx hb x) (by assumption) cb_Na rfl (Nat.le_of_ble_eq_true rfl) ⟨by decide, by decide⟩ ⟨by omega, by omega⟩ (fun r_46 g_46 nx_46 hp_46 => ?_) rfl
          obtain ⟨rfl, rfl, rfl⟩ := hp_46
          try dsimp only [Option.toList, List.nil_append, List.cons_append]
          rw [hdb]
          refine z_lcmp hE d_Na_compareWith_49 ?_
          refine z_if_eq (tgt := 73) hE d_Na_compareWith_50 (by decide) (fun c_50 => ?_) (fun c_50 => ?_)
          · rw [lg_cmp_eq, pk_lEQ (by omega) (by omega)] at c_50
            refine z_iinc hE d_Na_compareWith_73 rfl (rfl) (by decide) ?_
            refine z_goto (tgt := 35) hE d_Na_compareWith_76 (by decide) ?_
            refine z_sub (lv' := [(0, .ref a), (1, .ref b), (2, .int (x + Int32.ofInt (-1)))]) rfl (ih _ (by omega) ?_ ?_)
            · have hxi : x = nI i := by rw [← Int32.toInt_inj, nI_ti (by omega)]; omega
              rw [hxi]
              cases i with
              | zero => rfl
              | succ i =>
                show (nI (i + 1) + (-1)).toInt = _
                rw [pk_m1, nI_ti (by omega)]; omega
            · intro j h1 h2
              by_cases hji : j = i
              · rw [hji]; exact c_50
              · exact he j (by omega) h2
          · rw [lg_cmp_eq, pk_lEQ (by omega) (by omega)] at c_50
            refine z_aload_n hE d_Na_compareWith_53 rfl ?_
            refine z_iload_n hE d_Na_compareWith_54 rfl ?_
            refine z_callV hE d_Na_compareWith_55 cl_Na_26 (c_Na_at l nx ha x) (by assumption) cb_Na rfl (Nat.le_of_ble_eq_true rfl) ⟨by decide, by decide⟩ ⟨by omega, by omega⟩ (fun r_55 g_55 nx_55 hp_55 => ?_) rfl
            obtain ⟨rfl, rfl, rfl⟩ := hp_55
            try dsimp only [Option.toList, List.nil_append, List.cons_append]
            rw [hda]
            refine z_aload_n hE d_Na_compareWith_58 rfl ?_
            refine z_iload_n hE d_Na_compareWith_59 rfl ?_
            refine z_callV hE d_Na_compareWith_60 cl_Na_26 (c_Na_at l nx hb x) (by assumption) cb_Na rfl (Nat.le_of_ble_eq_true rfl) ⟨by decide, by decide⟩ ⟨by omega, by omega⟩ (fun r_60 g_60 nx_60 hp_60 => ?_) rfl
            obtain ⟨rfl, rfl, rfl⟩ := hp_60
            try dsimp only [Option.toList, List.nil_append, List.cons_append]
            rw [hdb]
            refine z_lcmp hE d_Na_compareWith_63 ?_
            refine z_if_ge (tgt := 71) hE d_Na_compareWith_64 (by decide) (fun c_64 => ?_) (fun c_64 => ?_)
            · rw [lg_cmp_ge, pk_lLE (by omega) (by omega)] at c_64
              refine z_iconst (v := 1) hE d_Na_compareWith_71 (by decide) ?_
              refine z_iret hE hQ d_Na_compareWith_72 rfl (Nat.le_refl _) (Nat.le_refl _) ⟨?_, rfl, rfl⟩
              rw [cmpN_gt]
              have := Nat.mul_le_mul_right (4294967296 ^ i) (show e i + 1 ≤ d i by omega)
              rw [Nat.add_mul, Nat.one_mul] at this
              omega
            · rw [lg_cmp_ge, pk_lLE (by omega) (by omega)] at c_64
              refine z_iconst (v := (-1)) hE d_Na_compareWith_67 (by decide) ?_
              refine z_goto (tgt := 72) hE d_Na_compareWith_68 (by decide) ?_
              refine z_iret hE hQ d_Na_compareWith_72 rfl (Nat.le_refl _) (Nat.le_refl _) ⟨?_, rfl, rfl⟩
              rw [cmpN_lt]
              have := Nat.mul_le_mul_right (4294967296 ^ i) (show d i + 1 ≤ e i by omega)
              rw [Nat.add_mul, Nat.one_mul] at this
              omega
    refine z_sub (lv' := [(0, .ref a), (1, .ref b), (2, .int (nI n - 1))]) rfl (loop n _ (Nat.le_refl _) ?_ (fun j h1 h2 => by omega))
    cases n with
    | zero => rfl
    | succ n => rw [nI_pred, nI_ti (by omega)]; omega
  · rw [nI_EQ (by omega) (by omega)] at c_8
    refine z_aload_n hE d_Na_compareWith_11 rfl ?_
    refine z_get hE d_Na_compareWith_12 fl_Na_13 (by assumption) rfl ?_
    refine z_aload_n hE d_Na_compareWith_15 rfl ?_
    refine z_get hE d_Na_compareWith_16 fl_Na_13 (by assumption) rfl ?_
    refine z_icmp_ge (tgt := 26) hE d_Na_compareWith_19 (by decide) (fun c_19 => ?_) (fun c_19 => ?_)
    · rw [nI_LE (by omega) (by omega)] at c_19
      refine z_iconst (v := 1) hE d_Na_compareWith_26 (by decide) ?_
      refine z_iret hE hQ d_Na_compareWith_27 rfl (Nat.le_refl _) (Nat.le_refl _) ⟨?_, rfl, rfl⟩
      rw [cmpN_gt]
      rw [← hav, ← hbv]
      exact RN_lt hb ha han (by omega)
    · rw [nI_LE (by omega) (by omega)] at c_19
      refine z_iconst (v := (-1)) hE d_Na_compareWith_22 (by decide) ?_
      refine z_goto (tgt := 27) hE d_Na_compareWith_23 (by decide) ?_
      refine z_iret hE hQ d_Na_compareWith_27 rfl (Nat.le_refl _) (Nat.le_refl _) ⟨?_, rfl, rfl⟩
      rw [cmpN_lt]
      rw [← hav, ← hbv]
      exact RN_lt ha hb hbn (by omega)
theorem c_Na_add (l : Launch) {g : Gh} (nx : Nat) {a b M v w : Nat} (ha : NA g a 20 v) (hb : NA g b M w) (hab : b ≠ a) (hv : v < 4294967296 ^ 19) (hw : w < 4294967296 ^ 19) : Ct l m_Na_add 0 0 [.ref a, .ref b] g nx (pNA g a 20 (v + w) nx) := by
  obtain ⟨n, d, ha, hav, han⟩ := ha
  obtain ⟨a1, a2, a3, a4, a5⟩ := id ha
  obtain ⟨m, e, hb, hbv, hbn⟩ := hb
  obtain ⟨b1, b2, b3, b4, b5⟩ := id hb
  have hn : n ≤ 19 := (norm_len a5 han).mp (by rw [hav]; exact hv)
  have hm : m ≤ 19 := (norm_len b5 hbn).mp (by rw [hbv]; exact hw)
  refine Ct.of (by decide) (Nat.le_of_ble_eq_true rfl) (fun E hE hQ => ?_)
  refine z_aload_n hE d_Na_add_0 rfl ?_
  refine z_aload_n hE d_Na_add_1 rfl ?_
  refine z_get hE d_Na_add_2 fl_Na_13 (by assumption) rfl ?_
  refine z_aload_n hE d_Na_add_5 rfl ?_
  refine z_get hE d_Na_add_6 fl_Na_13 (by assumption) rfl ?_
  refine z_mmax (v := nI (max n m)) hE d_Na_add_9 cl_Na_23 (by decide) (Nat.le_of_ble_eq_true rfl) (by omega) (by omega) (i_max (by omega) (by omega)) ?_
  refine z_iconst (v := 1) hE d_Na_add_12 (by decide) ?_
  refine z_iadd (v := nI (max n m + 1)) hE d_Na_add_13 (nI_1 _) ?_
  refine z_callV hE d_Na_add_14 cl_Na_37 (c_Na_widen l nx ha (max n m + 1) (by omega)) (by assumption) cb_Na rfl (Nat.le_of_ble_eq_true rfl) ⟨by decide, by decide⟩ ⟨by omega, by omega⟩ (fun r_14 g_14 nx_14 hp_14 => ?_) rfl
  obtain ⟨rfl, rfl, rfl⟩ := hp_14
  try dsimp only [Option.toList, List.nil_append, List.cons_append]
  rw [Nat.min_eq_left (show max n m + 1 ≤ 20 by omega), Nat.max_eq_right (show n ≤ max n m + 1 by omega)]
  generalize hs : max n m + 1 = s
  generalize hd0 : (fun j => if n ≤ j ∧ j < s then 0 else d j) = d0
  have hd0l : ∀ j, d0 j < 4294967296 := fun j => by rw [← hd0]; dsimp only; split; omega; exact a5 j
  have hd0v : val d0 s = v := by
    rw [← hav, val_zeros (show n ≤ s by omega) (fun j h1 h2 => by rw [← hd0]; exact if_pos ⟨h1, h2⟩)]
    exact val_ext n (fun j hj => by rw [← hd0]; exact if_neg (by omega))
  have he0v : val (dzf m e) s = w := by rw [val_dzf (by omega), hbv]
  refine z_lconst (v := lN 0) hE d_Na_add_17 (by decide) ?_
  refine z_lstore_n hE d_Na_add_18 rfl (by decide) ?_
  refine z_iconst (v := nI 0) hE d_Na_add_19 (by decide) ?_
  refine z_istore hE d_Na_add_20 (by decide) ?_
  have loop : ∀ (u i c : Nat) (d' : Nat → Nat), i + u = s → c ≤ 1 → (∀ j, d' j < 4294967296) → (∀ j, i ≤ j → d' j = d0 j) → val d' i + c * 4294967296 ^ i = val d0 i + val (dzf m e) i → zJ E (gN g a 20 s d') nx 0 0 22 [(0, .ref a), (1, .ref b), (2, .long (lN c)), (4, .int (nI i))] [] := by
    intro u
    induction u with
    | zero =>
      intro i c d' hi hc hd' hk hval
      have hR : RN (gN g a 20 s d') a 20 s d' := RN_gN (by omega) (by omega) hd'
      obtain ⟨q1, q2, -⟩ := id hR
      have hi' : i = s := by omega
      subst hi'
      refine z_iload hE d_Na_add_22 rfl ?_
      refine z_aload_n hE d_Na_add_24 rfl ?_
      refine z_get hE d_Na_add_25 fl_Na_13 (by assumption) rfl ?_
      refine z_icmp_ge (tgt := 72) hE d_Na_add_28 (by decide) (fun c_28 => ?_) (fun c_28 => ?_)
      · refine z_aload_n hE d_Na_add_72 rfl ?_
        refine z_callV hE d_Na_add_73 cl_Na_43 (c_Na_trim l nx hR) (by assumption) cb_Na rfl (Nat.le_of_ble_eq_true rfl) ⟨by decide, by decide⟩ ⟨by omega, by omega⟩ (fun r_73 g_73 nx_73 hp_73 => ?_) rfl
        obtain ⟨rfl, rfl, rfl⟩ := hp_73
        try dsimp only [Option.toList, List.nil_append, List.cons_append]
        rw [gN_gN]
        refine z_vret hE hQ d_Na_add_76 rfl (Nat.le_refl _) (Nat.le_refl _) ⟨rfl, rfl, ?_, gO_N⟩
        have hn2 := NA_trim (g := g) (a := a) (N := 20) (n := i) (by omega) (by omega) hd'
        have h1 := val_lt a5 n
        have h2 := val_lt b5 m
        have h3 := pw_ge (show n ≤ max n m by omega)
        have h4 := pw_ge (show m ≤ max n m by omega)
        have h5 := Bs (max n m)
        rw [hs] at h5
        have hc0 : c = 0 := by
          rcases (show c = 0 ∨ c = 1 by omega) with q | q
          · exact q
          · subst q; omega
        subst hc0
        have e1 : val d' i = v + w := by omega
        rw [e1] at hn2
        exact hn2
      · exact absurd ((nI_LE (by omega) (by omega)).mpr (by omega)) c_28
    | succ u ih =>
      intro i c d' hi hc hd' hk hval
      have hR : RN (gN g a 20 s d') a 20 s d' := RN_gN (by omega) (by omega) hd'
      have hRb : RN (gN g a 20 s d') b M m e := RN_o ha hb hab
      obtain ⟨q1, q2, -⟩ := id hR
      obtain ⟨r1, r2, -⟩ := id hRb
      refine z_iload hE d_Na_add_22 rfl ?_
      refine z_aload_n hE d_Na_add_24 rfl ?_
      refine z_get hE d_Na_add_25 fl_Na_13 (by assumption) rfl ?_
      refine z_icmp_ge (tgt := 72) hE d_Na_add_28 (by decide) (fun c_28 => ?_) (fun c_28 => ?_)
      · exact absurd ((nI_LE (by omega) (by omega)).mp c_28) (by omega)
      · refine z_aload_n hE d_Na_add_31 rfl ?_
        refine z_iload hE d_Na_add_32 rfl ?_
        refine z_callV hE d_Na_add_34 cl_Na_26 (c_Na_at l nx hR (nI i)) (by assumption) cb_Na rfl (Nat.le_of_ble_eq_true rfl) ⟨by decide, by decide⟩ ⟨by omega, by omega⟩ (fun r_34 g_34 nx_34 hp_34 => ?_) rfl
        obtain ⟨rfl, rfl, rfl⟩ := hp_34
        try dsimp only [Option.toList, List.nil_append, List.cons_append]
        rw [dz_n (by omega), dzf_in (by omega)]
        refine z_aload_n hE d_Na_add_37 rfl ?_
        refine z_iload hE d_Na_add_38 rfl ?_
        refine z_callV hE d_Na_add_40 cl_Na_26 (c_Na_at l nx hRb (nI i)) (by assumption) cb_Na rfl (Nat.le_of_ble_eq_true rfl) ⟨by decide, by decide⟩ ⟨by omega, by omega⟩ (fun r_40 g_40 nx_40 hp_40 => ?_) rfl
        obtain ⟨rfl, rfl, rfl⟩ := hp_40
        try dsimp only [Option.toList, List.nil_append, List.cons_append]
        rw [dz_n (by omega)]
        have x1 := hd' i
        have x2 := dzf_lt (n := m) b5 i
        generalize hx : dzf m e i = x at x2
        refine z_ladd (v := lN (d' i + x)) hE d_Na_add_43 (lN_add _ _) ?_
        refine z_lload_n hE d_Na_add_44 rfl ?_
        refine z_ladd (v := lN (d' i + x + c)) hE d_Na_add_45 (lN_add _ _) ?_
        refine z_lstore hE d_Na_add_46 (by decide) ?_
        refine z_aload_n hE d_Na_add_48 rfl ?_
        refine z_iload hE d_Na_add_49 rfl ?_
        refine z_lload hE d_Na_add_51 rfl ?_
        refine z_ldc2 hE d_Na_add_53 cn_Na_41 ?_
        refine z_land (v := lN ((d' i + x + c) % 4294967296)) hE d_Na_add_56 (l_mask (by omega)) ?_
        refine z_callV hE d_Na_add_57 cl_Na_30 (c_Na_store l nx hR (k := i) (by omega) ((d' i + x + c) % 4294967296)) (by assumption) cb_Na rfl (Nat.le_of_ble_eq_true rfl) ⟨by decide, by decide⟩ ⟨by omega, by omega⟩ (fun r_57 g_57 nx_57 hp_57 => ?_) rfl
        obtain ⟨rfl, rfl, rfl⟩ := hp_57
        try dsimp only [Option.toList, List.nil_append, List.cons_append]
        rw [gN_gN]
        refine z_lload hE d_Na_add_60 rfl ?_
        refine z_bipush (v := 32) hE d_Na_add_62 (by decide) ?_
        refine z_lushr (v := lN ((d' i + x + c) / 4294967296)) hE d_Na_add_64 (l_shr (by omega)) ?_
        refine z_lstore_n hE d_Na_add_65 rfl (by decide) ?_
        refine z_iinc (v := nI (i + 1)) hE d_Na_add_66 rfl (nI_1 i) (by decide) ?_
        refine z_goto (tgt := 22) hE d_Na_add_69 (by decide) ?_
        refine z_sub (lv' := [(0, .ref a), (1, .ref b), (2, .long (lN ((d' i + x + c) / 4294967296))), (4, .int (nI (i + 1)))]) rfl (ih (i + 1) _ _ (by omega) (by omega) (upN_lt hd' (by omega)) (fun j hj => ?_) ?_)
        · rw [upN_n (by omega)]; exact hk j (by omega)
        · rw [val_upN, Bs, val_s, val_s, hx, ← hk i (Nat.le_refl _)]
          have h1 := dm_mul (d' i + x + c) (4294967296 ^ i)
          rw [Nat.add_mul, Nat.add_mul] at h1
          omega
  exact z_sub (lv' := [(0, .ref a), (1, .ref b), (2, .long (lN 0)), (4, .int (nI 0))]) rfl (loop s 0 0 d0 (by omega) (by omega) hd0l (fun _ _ => rfl) rfl)

