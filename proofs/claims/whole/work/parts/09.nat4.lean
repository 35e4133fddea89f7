/-! Natural: taken away, multiplied, by an int -/
theorem lN_m (n : Nat) : lN n = lN (n % 18446744073709551616) := wb_mod n
theorem l_sub (a : Nat) {b : Nat} (hb : b ≤ 18446744073709551616) : lN a - lN b = lN (a + (18446744073709551616 - b)) := by
  apply wb_inj
  rw [Int64.toBitVec_sub, wb_tb, wb_tb, wb_tb]
  apply BitVec.eq_of_toNat_eq
  rw [BitVec.toNat_sub, BitVec.toNat_ofNat, BitVec.toNat_ofNat, BitVec.toNat_ofNat]
  show (18446744073709551616 - b % 18446744073709551616 + a % 18446744073709551616) % 18446744073709551616 = _ % 18446744073709551616
  omega
theorem lN_TI (n : Nat) : (lN n).toInt = if n % 18446744073709551616 < 9223372036854775808 then ((n % 18446744073709551616 : Nat) : Int) else ((n % 18446744073709551616 : Nat) : Int) - 18446744073709551616 := by
  rw [lN_m]
  exact lN_ti (by omega)
theorem lN_nn (n : Nat) : (lN 0 ≤ lN n) ↔ n % 18446744073709551616 < 9223372036854775808 := by
  rw [Int64.le_iff_toInt_le, lN_TI, lN_TI]
  split <;> split <;> omega
theorem l_maskA (n : Nat) : lN n &&& 4294967295 = lN (n % 4294967296) := by
  rw [lN_m, l_mask (by omega)]
  congr 1
  omega
theorem d_Na_multiplyByInt_0 : decode b_Na_multiplyByInt 0 = .ok (.aload_n 0, 1) := by decide +kernel
theorem d_Na_multiplyByInt_1 : decode b_Na_multiplyByInt 1 = .ok (.aload_n 0, 1) := by decide +kernel
theorem d_Na_multiplyByInt_2 : decode b_Na_multiplyByInt 2 = .ok (.getfield 13, 3) := by decide +kernel
theorem d_Na_multiplyByInt_5 : decode b_Na_multiplyByInt 5 = .ok (.iconst 1, 1) := by decide +kernel
theorem d_Na_multiplyByInt_6 : decode b_Na_multiplyByInt 6 = .ok (.iadd, 1) := by decide +kernel
theorem d_Na_multiplyByInt_7 : decode b_Na_multiplyByInt 7 = .ok (.invokevirtual 37, 3) := by decide +kernel
theorem d_Na_multiplyByInt_10 : decode b_Na_multiplyByInt 10 = .ok (.lconst 0, 1) := by decide +kernel
theorem d_Na_multiplyByInt_11 : decode b_Na_multiplyByInt 11 = .ok (.lstore_n 2, 1) := by decide +kernel
theorem d_Na_multiplyByInt_12 : decode b_Na_multiplyByInt 12 = .ok (.iconst 0, 1) := by decide +kernel
theorem d_Na_multiplyByInt_13 : decode b_Na_multiplyByInt 13 = .ok (.istore 4, 2) := by decide +kernel
theorem d_Na_multiplyByInt_15 : decode b_Na_multiplyByInt 15 = .ok (.iload 4, 2) := by decide +kernel
theorem d_Na_multiplyByInt_17 : decode b_Na_multiplyByInt 17 = .ok (.aload_n 0, 1) := by decide +kernel
theorem d_Na_multiplyByInt_18 : decode b_Na_multiplyByInt 18 = .ok (.getfield 13, 3) := by decide +kernel
theorem d_Na_multiplyByInt_21 : decode b_Na_multiplyByInt 21 = .ok (.if_icmp .ge 40, 3) := by decide +kernel
theorem d_Na_multiplyByInt_24 : decode b_Na_multiplyByInt 24 = .ok (.aload_n 0, 1) := by decide +kernel
theorem d_Na_multiplyByInt_25 : decode b_Na_multiplyByInt 25 = .ok (.iload 4, 2) := by decide +kernel
theorem d_Na_multiplyByInt_27 : decode b_Na_multiplyByInt 27 = .ok (.invokevirtual 26, 3) := by decide +kernel
theorem d_Na_multiplyByInt_30 : decode b_Na_multiplyByInt 30 = .ok (.iload_n 1, 1) := by decide +kernel
theorem d_Na_multiplyByInt_31 : decode b_Na_multiplyByInt 31 = .ok (.i2l, 1) := by decide +kernel
theorem d_Na_multiplyByInt_32 : decode b_Na_multiplyByInt 32 = .ok (.lmul, 1) := by decide +kernel
theorem d_Na_multiplyByInt_33 : decode b_Na_multiplyByInt 33 = .ok (.lload_n 2, 1) := by decide +kernel
theorem d_Na_multiplyByInt_34 : decode b_Na_multiplyByInt 34 = .ok (.ladd, 1) := by decide +kernel
theorem d_Na_multiplyByInt_35 : decode b_Na_multiplyByInt 35 = .ok (.lstore 5, 2) := by decide +kernel
theorem d_Na_multiplyByInt_37 : decode b_Na_multiplyByInt 37 = .ok (.aload_n 0, 1) := by decide +kernel
theorem d_Na_multiplyByInt_38 : decode b_Na_multiplyByInt 38 = .ok (.iload 4, 2) := by decide +kernel
theorem d_Na_multiplyByInt_40 : decode b_Na_multiplyByInt 40 = .ok (.lload 5, 2) := by decide +kernel
theorem d_Na_multiplyByInt_42 : decode b_Na_multiplyByInt 42 = .ok (.ldc2_w 41, 3) := by decide +kernel
theorem d_Na_multiplyByInt_45 : decode b_Na_multiplyByInt 45 = .ok (.land, 1) := by decide +kernel
theorem d_Na_multiplyByInt_46 : decode b_Na_multiplyByInt 46 = .ok (.invokevirtual 30, 3) := by decide +kernel
theorem d_Na_multiplyByInt_49 : decode b_Na_multiplyByInt 49 = .ok (.lload 5, 2) := by decide +kernel
theorem d_Na_multiplyByInt_51 : decode b_Na_multiplyByInt 51 = .ok (.bipush 32, 2) := by decide +kernel
theorem d_Na_multiplyByInt_53 : decode b_Na_multiplyByInt 53 = .ok (.lushr, 1) := by decide +kernel
theorem d_Na_multiplyByInt_54 : decode b_Na_multiplyByInt 54 = .ok (.lstore_n 2, 1) := by decide +kernel
theorem d_Na_multiplyByInt_55 : decode b_Na_multiplyByInt 55 = .ok (.iinc 4 1, 3) := by decide +kernel
theorem d_Na_multiplyByInt_58 : decode b_Na_multiplyByInt 58 = .ok (.goto (-43), 3) := by decide +kernel
theorem d_Na_multiplyByInt_61 : decode b_Na_multiplyByInt 61 = .ok (.aload_n 0, 1) := by decide +kernel
theorem d_Na_multiplyByInt_62 : decode b_Na_multiplyByInt 62 = .ok (.invokevirtual 43, 3) := by decide +kernel
theorem d_Na_multiplyByInt_65 : decode b_Na_multiplyByInt 65 = .ok (.return_, 1) := by decide +kernel
theorem d_Na_divideByInt_0 : decode b_Na_divideByInt 0 = .ok (.iload_n 1, 1) := by decide +kernel
theorem d_Na_divideByInt_1 : decode b_Na_divideByInt 1 = .ok (.ifCond .gt 4, 3) := by decide +kernel
theorem d_Na_divideByInt_4 : decode b_Na_divideByInt 4 = .ok (.return_, 1) := by decide +kernel
theorem d_Na_divideByInt_5 : decode b_Na_divideByInt 5 = .ok (.lconst 0, 1) := by decide +kernel
theorem d_Na_divideByInt_6 : decode b_Na_divideByInt 6 = .ok (.lstore_n 2, 1) := by decide +kernel
theorem d_Na_divideByInt_7 : decode b_Na_divideByInt 7 = .ok (.aload_n 0, 1) := by decide +kernel
theorem d_Na_divideByInt_8 : decode b_Na_divideByInt 8 = .ok (.getfield 13, 3) := by decide +kernel
theorem d_Na_divideByInt_11 : decode b_Na_divideByInt 11 = .ok (.iconst 1, 1) := by decide +kernel
theorem d_Na_divideByInt_12 : decode b_Na_divideByInt 12 = .ok (.isub, 1) := by decide +kernel
theorem d_Na_divideByInt_13 : decode b_Na_divideByInt 13 = .ok (.istore 4, 2) := by decide +kernel
theorem d_Na_divideByInt_15 : decode b_Na_divideByInt 15 = .ok (.iload 4, 2) := by decide +kernel
theorem d_Na_divideByInt_17 : decode b_Na_divideByInt 17 = .ok (.ifCond .lt 39, 3) := by decide +kernel
theorem d_Na_divideByInt_20 : decode b_Na_divideByInt 20 = .ok (.lload_n 2, 1) := by decide +kernel
theorem d_Na_divideByInt_21 : decode b_Na_divideByInt 21 = .ok (.bipush 32, 2) := by decide +kernel
theorem d_Na_divideByInt_23 : decode b_Na_divideByInt 23 = .ok (.lshl, 1) := by decide +kernel
theorem d_Na_divideByInt_24 : decode b_Na_divideByInt 24 = .ok (.aload_n 0, 1) := by decide +kernel
theorem d_Na_divideByInt_25 : decode b_Na_divideByInt 25 = .ok (.iload 4, 2) := by decide +kernel
theorem d_Na_divideByInt_27 : decode b_Na_divideByInt 27 = .ok (.invokevirtual 26, 3) := by decide +kernel
theorem d_Na_divideByInt_30 : decode b_Na_divideByInt 30 = .ok (.lor, 1) := by decide +kernel
theorem d_Na_divideByInt_31 : decode b_Na_divideByInt 31 = .ok (.lstore 5, 2) := by decide +kernel
theorem d_Na_divideByInt_33 : decode b_Na_divideByInt 33 = .ok (.aload_n 0, 1) := by decide +kernel
theorem d_Na_divideByInt_34 : decode b_Na_divideByInt 34 = .ok (.iload 4, 2) := by decide +kernel
theorem d_Na_divideByInt_36 : decode b_Na_divideByInt 36 = .ok (.lload 5, 2) := by decide +kernel
theorem d_Na_divideByInt_38 : decode b_Na_divideByInt 38 = .ok (.iload_n 1, 1) := by decide +kernel
theorem d_Na_divideByInt_39 : decode b_Na_divideByInt 39 = .ok (.i2l, 1) := by decide +kernel
theorem d_Na_divideByInt_40 : decode b_Na_divideByInt 40 = .ok (.ldiv, 1) := by decide +kernel
theorem d_Na_divideByInt_41 : decode b_Na_divideByInt 41 = .ok (.invokevirtual 30, 3) := by decide +kernel
theorem d_Na_divideByInt_44 : decode b_Na_divideByInt 44 = .ok (.lload 5, 2) := by decide +kernel
theorem d_Na_divideByInt_46 : decode b_Na_divideByInt 46 = .ok (.iload_n 1, 1) := by decide +kernel
theorem d_Na_divideByInt_47 : decode b_Na_divideByInt 47 = .ok (.i2l, 1) := by decide +kernel
theorem d_Na_divideByInt_48 : decode b_Na_divideByInt 48 = .ok (.lrem, 1) := by decide +kernel
theorem d_Na_divideByInt_49 : decode b_Na_divideByInt 49 = .ok (.lstore_n 2, 1) := by decide +kernel
theorem d_Na_divideByInt_50 : decode b_Na_divideByInt 50 = .ok (.iinc 4 (-1), 3) := by decide +kernel
theorem d_Na_divideByInt_53 : decode b_Na_divideByInt 53 = .ok (.goto (-38), 3) := by decide +kernel
theorem d_Na_divideByInt_56 : decode b_Na_divideByInt 56 = .ok (.aload_n 0, 1) := by decide +kernel
theorem d_Na_divideByInt_57 : decode b_Na_divideByInt 57 = .ok (.invokevirtual 43, 3) := by decide +kernel
theorem d_Na_divideByInt_60 : decode b_Na_divideByInt 60 = .ok (.return_, 1) := by decide +kernel
theorem c_Na_subtract (l : Launch) {g : Gh} (nx : Nat) {a b N M v w : Nat} (ha : NA g a N v) (hb : NA g b M w) (hab : b ≠ a) (hvw : w ≤ v) : Ct l m_Na_subtract 0 0 [.ref a, .ref b] g nx (pNA g a N (v - w) nx) := by
  obtain ⟨n, d, ha, hav, han⟩ := ha
  obtain ⟨a1, a2, a3, a4, a5⟩ := id ha
  obtain ⟨m, e, hb, hbv, hbn⟩ := hb
  obtain ⟨b1, b2, b3, b4, b5⟩ := id hb
  have hmn : m ≤ n := (norm_len b5 hbn).mp (by rw [hbv]; have := val_lt a5 n; omega)
  have he0v : val (dzf m e) n = w := by rw [val_dzf (by omega), hbv]
  refine Ct.of (by decide) (Nat.le_of_ble_eq_true rfl) (fun E hE hQ => ?_)
  refine z_lconst (v := lN 0) hE d_Na_subtract_0 (by decide) ?_
  refine z_lstore_n hE d_Na_subtract_1 rfl (by decide) ?_
  refine z_iconst (v := nI 0) hE d_Na_subtract_2 (by decide) ?_
  refine z_istore hE d_Na_subtract_3 (by decide) ?_
  have loop : ∀ (u i c : Nat) (d' : Nat → Nat), i + u = n → c ≤ 1 → (∀ j, d' j < 4294967296) → (∀ j, i ≤ j → d' j = d j) → val d' i + val (dzf m e) i = val d i + c * 4294967296 ^ i → zJ E (gN g a N n d') nx 0 0 5 [(0, .ref a), (1, .ref b), (2, .long (lN c)), (4, .int (nI i))] [] := by
    intro u
    induction u with
    | zero =>
      intro i c d' hi hc hd' hk hval
      have hR : RN (gN g a N n d') a N n d' := RN_gN (by omega) (by omega) hd'
      obtain ⟨q1, q2, -⟩ := id hR
      have hi' : i = n := by omega
      subst hi'
      refine z_iload hE d_Na_subtract_5 rfl ?_
      refine z_aload_n hE d_Na_subtract_7 rfl ?_
      refine z_get hE d_Na_subtract_8 fl_Na_13 (by assumption) rfl ?_
      refine z_icmp_ge (tgt := 62) hE d_Na_subtract_11 (by decide) (fun c_11 => ?_) (fun c_11 => ?_)
      · refine z_aload_n hE d_Na_subtract_62 rfl ?_
        refine z_callV hE d_Na_subtract_63 cl_Na_43 (c_Na_trim l nx hR) (by assumption) cb_Na rfl (Nat.le_of_ble_eq_true rfl) ⟨by decide, by decide⟩ ⟨by omega, by omega⟩ (fun r_63 g_63 nx_63 hp_63 => ?_) rfl
        obtain ⟨rfl, rfl, rfl⟩ := hp_63
        try dsimp only [Option.toList, List.nil_append, List.cons_append]
        rw [gN_gN]
        refine z_vret hE hQ d_Na_subtract_66 rfl (Nat.le_refl _) (Nat.le_refl _) ⟨rfl, rfl, ?_, gO_N⟩
        have hn2 := NA_trim (g := g) (a := a) (N := N) (n := i) (by omega) (by omega) hd'
        have h1 := val_lt hd' i
        have hc0 : c = 0 := by
          rcases (show c = 0 ∨ c = 1 by omega) with q | q
          · exact q
          · subst q; omega
        subst hc0
        have e1 : val d' i = v - w := by omega
        rw [e1] at hn2
        exact hn2
      · exact absurd ((nI_LE (by omega) (by omega)).mpr (by omega)) c_11
    | succ u ih =>
      intro i c d' hi hc hd' hk hval
      have hR : RN (gN g a N n d') a N n d' := RN_gN (by omega) (by omega) hd'
      have hRb : RN (gN g a N n d') b M m e := RN_o ha hb hab
      obtain ⟨q1, q2, -⟩ := id hR
      obtain ⟨r1, r2, -⟩ := id hRb
      refine z_iload hE d_Na_subtract_5 rfl ?_
      refine z_aload_n hE d_Na_subtract_7 rfl ?_
      refine z_get hE d_Na_subtract_8 fl_Na_13 (by assumption) rfl ?_
      refine z_icmp_ge (tgt := 62) hE d_Na_subtract_11 (by decide) (fun c_11 => ?_) (fun c_11 => ?_)
      · exact absurd ((nI_LE (by omega) (by omega)).mp c_11) (by omega)
      · refine z_aload_n hE d_Na_subtract_14 rfl ?_
        refine z_iload hE d_Na_subtract_15 rfl ?_
        refine z_callV hE d_Na_subtract_17 cl_Na_26 (c_Na_at l nx hR (nI i)) (by assumption) cb_Na rfl (Nat.le_of_ble_eq_true rfl) ⟨by decide, by decide⟩ ⟨by omega, by omega⟩ (fun r_17 g_17 nx_17 hp_17 => ?_) rfl
        obtain ⟨rfl, rfl, rfl⟩ := hp_17
        try dsimp only [Option.toList, List.nil_append, List.cons_append]
        rw [dz_n (by omega), dzf_in (by omega)]
        refine z_aload_n hE d_Na_subtract_20 rfl ?_
        refine z_iload hE d_Na_subtract_21 rfl ?_
        refine z_callV hE d_Na_subtract_23 cl_Na_26 (c_Na_at l nx hRb (nI i)) (by assumption) cb_Na rfl (Nat.le_of_ble_eq_true rfl) ⟨by decide, by decide⟩ ⟨by omega, by omega⟩ (fun r_23 g_23 nx_23 hp_23 => ?_) rfl
        obtain ⟨rfl, rfl, rfl⟩ := hp_23
        try dsimp only [Option.toList, List.nil_append, List.cons_append]
        rw [dz_n (by omega)]
        have x1 := hd' i
        have x2 := dzf_lt (n := m) b5 i
        generalize hx : dzf m e i = x at x2
        refine z_lsub (v := lN (d' i + (18446744073709551616 - x))) hE d_Na_subtract_26 (l_sub _ (by omega)) ?_
        refine z_lload_n hE d_Na_subtract_27 rfl ?_
        refine z_lsub (v := lN (d' i + (18446744073709551616 - x) + (18446744073709551616 - c))) hE d_Na_subtract_28 (l_sub _ (by omega)) ?_
        refine z_lstore hE d_Na_subtract_29 (by decide) ?_
        refine z_aload_n hE d_Na_subtract_31 rfl ?_
        refine z_iload hE d_Na_subtract_32 rfl ?_
        refine z_lload hE d_Na_subtract_34 rfl ?_
        refine z_ldc2 hE d_Na_subtract_36 cn_Na_41 ?_
        refine z_land (v := lN ((d' i + (18446744073709551616 - x) + (18446744073709551616 - c)) % 4294967296)) hE d_Na_subtract_39 (l_maskA _) ?_
        refine z_callV hE d_Na_subtract_40 cl_Na_30 (c_Na_store l nx hR (k := i) (by omega) ((d' i + (18446744073709551616 - x) + (18446744073709551616 - c)) % 4294967296)) (by assumption) cb_Na rfl (Nat.le_of_ble_eq_true rfl) ⟨by decide, by decide⟩ ⟨by omega, by omega⟩ (fun r_40 g_40 nx_40 hp_40 => ?_) rfl
        obtain ⟨rfl, rfl, rfl⟩ := hp_40
        try dsimp only [Option.toList, List.nil_append, List.cons_append]
        rw [gN_gN]
        have fin : ∀ c', c' ≤ 1 → (d' i + (18446744073709551616 - x) + (18446744073709551616 - c)) % 4294967296 + x + c = d' i + c' * 4294967296 → ∀ lv, lG lv 0 = some (.ref a) → lG lv 1 = some (.ref b) → lG lv 2 = some (.long (lN c')) → lG lv 4 = some (.int (nI (i + 1))) → zJ E (gN g a N n (upN d' i ((d' i + (18446744073709551616 - x) + (18446744073709551616 - c)) % 4294967296))) nx 0 0 5 lv [] := by
          intro c' hc' heq lv l0 l1 l2 l4
          refine z_sub (lv' := [(0, .ref a), (1, .ref b), (2, .long (lN c')), (4, .int (nI (i + 1)))]) (by simp only [List.map, l0, l1, l2, l4]) (ih (i + 1) c' _ (by omega) hc' (upN_lt hd' (by omega)) (fun j hj => ?_) ?_)
          · rw [upN_n (by omega)]; exact hk j (by omega)
          · generalize (d' i + (18446744073709551616 - x) + (18446744073709551616 - c)) % 4294967296 = y at heq
            rw [val_upN, val_s, val_s, hx, Bs, ← hk i (Nat.le_refl _)]
            have h1 := congrArg (fun z => z * 4294967296 ^ i) heq
            simp only [Nat.add_mul, Nat.mul_assoc] at h1
            omega
        refine z_lload hE d_Na_subtract_43 rfl ?_
        refine z_lconst (v := lN 0) hE d_Na_subtract_45 (by decide) ?_
        refine z_lcmp hE d_Na_subtract_46 ?_
        refine z_if_ge (tgt := 54) hE d_Na_subtract_47 (by decide) (fun c_47 => ?_) (fun c_47 => ?_)
        · rw [lg_cmp_ge, lN_nn] at c_47
          refine z_lconst (v := lN 0) hE d_Na_subtract_54 (by decide) ?_
          refine z_lstore_n hE d_Na_subtract_55 rfl (by decide) ?_
          refine z_iinc (v := nI (i + 1)) hE d_Na_subtract_56 rfl (nI_1 i) (by decide) ?_
          refine z_goto (tgt := 5) hE d_Na_subtract_59 (by decide) ?_
          exact fin 0 (by omega) (by omega) _ rfl rfl rfl rfl
        · rw [lg_cmp_ge, lN_nn] at c_47
          refine z_lconst (v := lN 1) hE d_Na_subtract_50 (by decide) ?_
          refine z_goto (tgt := 55) hE d_Na_subtract_51 (by decide) ?_
          refine z_lstore_n hE d_Na_subtract_55 rfl (by decide) ?_
          refine z_iinc (v := nI (i + 1)) hE d_Na_subtract_56 rfl (nI_1 i) (by decide) ?_
          refine z_goto (tgt := 5) hE d_Na_subtract_59 (by decide) ?_
          exact fin 1 (by omega) (by omega) _ rfl rfl rfl rfl
  exact z_g (gN_id ha).symm (z_sub (lv' := [(0, .ref a), (1, .ref b), (2, .long (lN 0)), (4, .int (nI 0))]) rfl (loop n 0 0 d (by omega) (by omega) a5 (fun _ _ => rfl) rfl))
theorem i2l_n {k : Nat} (h : k ≤ 1000000) : (nI k).toInt64 = lN k := nI_l (by omega)
theorem c_Na_multiplyByInt (l : Launch) {g : Gh} (nx : Nat) {a v : Nat} (ha : NA g a 20 v) (hv : v < 4294967296 ^ 19) (f : Nat) (hf : f ≤ 1000000) : Ct l m_Na_multiplyByInt 0 0 [.ref a, .int (nI f)] g nx (pNA g a 20 (v * f) nx) := by
  obtain ⟨n, d, ha, hav, han⟩ := ha
  obtain ⟨a1, a2, a3, a4, a5⟩ := id ha
  have hn : n ≤ 19 := (norm_len a5 han).mp (by rw [hav]; exact hv)
  refine Ct.of (by decide) (Nat.le_of_ble_eq_true rfl) (fun E hE hQ => ?_)
  refine z_aload_n hE d_Na_multiplyByInt_0 rfl ?_
  refine z_aload_n hE d_Na_multiplyByInt_1 rfl ?_
  refine z_get hE d_Na_multiplyByInt_2 fl_Na_13 (by assumption) rfl ?_
  refine z_iconst (v := 1) hE d_Na_multiplyByInt_5 (by decide) ?_
  refine z_iadd (v := nI (n + 1)) hE d_Na_multiplyByInt_6 (nI_1 _) ?_
  refine z_callV hE d_Na_multiplyByInt_7 cl_Na_37 (c_Na_widen l nx ha (n + 1) (by omega)) (by assumption) cb_Na rfl (Nat.le_of_ble_eq_true rfl) ⟨by decide, by decide⟩ ⟨by omega, by omega⟩ (fun r_7 g_7 nx_7 hp_7 => ?_) rfl
  obtain ⟨rfl, rfl, rfl⟩ := hp_7
  try dsimp only [Option.toList, List.nil_append, List.cons_append]
  rw [Nat.min_eq_left (show n + 1 ≤ 20 by omega), Nat.max_eq_right (show n ≤ n + 1 by omega)]
  generalize hs : n + 1 = s
  generalize hd0 : (fun j => if n ≤ j ∧ j < s then 0 else d j) = d0
  have hd0l : ∀ j, d0 j < 4294967296 := fun j => by rw [← hd0]; dsimp only; split; omega; exact a5 j
  have hd0v : val d0 s = v := by
    rw [← hav, val_zeros (show n ≤ s by omega) (fun j h1 h2 => by rw [← hd0]; exact if_pos ⟨h1, h2⟩)]
    exact val_ext n (fun j hj => by rw [← hd0]; exact if_neg (by omega))
  refine z_lconst (v := lN 0) hE d_Na_multiplyByInt_10 (by decide) ?_
  refine z_lstore_n hE d_Na_multiplyByInt_11 rfl (by decide) ?_
  refine z_iconst (v := nI 0) hE d_Na_multiplyByInt_12 (by decide) ?_
  refine z_istore hE d_Na_multiplyByInt_13 (by decide) ?_
  have loop : ∀ (u i c : Nat) (d' : Nat → Nat), i + u = s → c ≤ 1000000 → (∀ j, d' j < 4294967296) → (∀ j, i ≤ j → d' j = d0 j) → val d' i + c * 4294967296 ^ i = val d0 i * f → zJ E (gN g a 20 s d') nx 0 0 15 [(0, .ref a), (1, .int (nI f)), (2, .long (lN c)), (4, .int (nI i))] [] := by
    intro u
    induction u with
    | zero =>
      intro i c d' hi hc hd' hk hval
      have hR : RN (gN g a 20 s d') a 20 s d' := RN_gN (by omega) (by omega) hd'
      obtain ⟨q1, q2, -⟩ := id hR
      have hi' : i = s := by omega
      subst hi'
      refine z_iload hE d_Na_multiplyByInt_15 rfl ?_
      refine z_aload_n hE d_Na_multiplyByInt_17 rfl ?_
      refine z_get hE d_Na_multiplyByInt_18 fl_Na_13 (by assumption) rfl ?_
      refine z_icmp_ge (tgt := 61) hE d_Na_multiplyByInt_21 (by decide) (fun c_21 => ?_) (fun c_21 => ?_)
      · refine z_aload_n hE d_Na_multiplyByInt_61 rfl ?_
        refine z_callV hE d_Na_multiplyByInt_62 cl_Na_43 (c_Na_trim l nx hR) (by assumption) cb_Na rfl (Nat.le_of_ble_eq_true rfl) ⟨by decide, by decide⟩ ⟨by omega, by omega⟩ (fun r_62 g_62 nx_62 hp_62 => ?_) rfl
        obtain ⟨rfl, rfl, rfl⟩ := hp_62
        try dsimp only [Option.toList, List.nil_append, List.cons_append]
        rw [gN_gN]
        refine z_vret hE hQ d_Na_multiplyByInt_65 rfl (Nat.le_refl _) (Nat.le_refl _) ⟨rfl, rfl, ?_, gO_N⟩
        have hn2 := NA_trim (g := g) (a := a) (N := 20) (n := i) (by omega) (by omega) hd'
        have h1 := val_lt a5 n
        rw [hav] at h1
        have hc0 : c = 0 := by
          rcases (show c = 0 ∨ 1 ≤ c by omega) with q | q
          · exact q
          · exfalso
            have h2 : v * f < 4294967296 ^ n * 1000001 := by
              have h3 := Nat.mul_le_mul_left v (show f ≤ 1000000 by omega)
              omega
            have h4 := Nat.mul_le_mul_right (4294967296 ^ i) q
            have h5 := Bs n
            rw [hs] at h5
            rw [hd0v] at hval
            omega
        subst hc0
        have e1 : val d' i = v * f := by rw [hd0v] at hval; omega
        rw [e1] at hn2
        exact hn2
      · exact absurd ((nI_LE (by omega) (by omega)).mpr (by omega)) c_21
    | succ u ih =>
      intro i c d' hi hc hd' hk hval
      have hR : RN (gN g a 20 s d') a 20 s d' := RN_gN (by omega) (by omega) hd'
      obtain ⟨q1, q2, -⟩ := id hR
      have x1 := hd' i
      have x3 : d' i * f ≤ 4294967295 * 1000000 := Nat.mul_le_mul (by omega) (by omega)
      refine z_iload hE d_Na_multiplyByInt_15 rfl ?_
      refine z_aload_n hE d_Na_multiplyByInt_17 rfl ?_
      refine z_get hE d_Na_multiplyByInt_18 fl_Na_13 (by assumption) rfl ?_
      refine z_icmp_ge (tgt := 61) hE d_Na_multiplyByInt_21 (by decide) (fun c_21 => ?_) (fun c_21 => ?_)
      · exact absurd ((nI_LE (by omega) (by omega)).mp c_21) (by omega)
      · refine z_aload_n hE d_Na_multiplyByInt_24 rfl ?_
        refine z_iload hE d_Na_multiplyByInt_25 rfl ?_
        refine z_callV hE d_Na_multiplyByInt_27 cl_Na_26 (c_Na_at l nx hR (nI i)) (by assumption) cb_Na rfl (Nat.le_of_ble_eq_true rfl) ⟨by decide, by decide⟩ ⟨by omega, by omega⟩ (fun r_27 g_27 nx_27 hp_27 => ?_) rfl
        obtain ⟨rfl, rfl, rfl⟩ := hp_27
        try dsimp only [Option.toList, List.nil_append, List.cons_append]
        rw [dz_n (by omega), dzf_in (by omega)]
        refine z_iload_n hE d_Na_multiplyByInt_30 rfl ?_
        refine z_i2l (v := lN f) hE d_Na_multiplyByInt_31 (i2l_n (by omega)) ?_
        refine z_lmul (v := lN (d' i * f)) hE d_Na_multiplyByInt_32 (lN_mul _ _) ?_
        refine z_lload_n hE d_Na_multiplyByInt_33 rfl ?_
        refine z_ladd (v := lN (d' i * f + c)) hE d_Na_multiplyByInt_34 (lN_add _ _) ?_
        refine z_lstore hE d_Na_multiplyByInt_35 (by decide) ?_
        refine z_aload_n hE d_Na_multiplyByInt_37 rfl ?_
        refine z_iload hE d_Na_multiplyByInt_38 rfl ?_
        refine z_lload hE d_Na_multiplyByInt_40 rfl ?_
        refine z_ldc2 hE d_Na_multiplyByInt_42 cn_Na_41 ?_
        refine z_land (v := lN ((d' i * f + c) % 4294967296)) hE d_Na_multiplyByInt_45 (l_mask (by omega)) ?_
        refine z_callV hE d_Na_multiplyByInt_46 cl_Na_30 (c_Na_store l nx hR (k := i) (by omega) ((d' i * f + c) % 4294967296)) (by assumption) cb_Na rfl (Nat.le_of_ble_eq_true rfl) ⟨by decide, by decide⟩ ⟨by omega, by omega⟩ (fun r_46 g_46 nx_46 hp_46 => ?_) rfl
        obtain ⟨rfl, rfl, rfl⟩ := hp_46
        try dsimp only [Option.toList, List.nil_append, List.cons_append]
        rw [gN_gN]
        refine z_lload hE d_Na_multiplyByInt_49 rfl ?_
        refine z_bipush (v := 32) hE d_Na_multiplyByInt_51 (by decide) ?_
        refine z_lushr (v := lN ((d' i * f + c) / 4294967296)) hE d_Na_multiplyByInt_53 (l_shr (by omega)) ?_
        refine z_lstore_n hE d_Na_multiplyByInt_54 rfl (by decide) ?_
        refine z_iinc (v := nI (i + 1)) hE d_Na_multiplyByInt_55 rfl (nI_1 i) (by decide) ?_
        refine z_goto (tgt := 15) hE d_Na_multiplyByInt_58 (by decide) ?_
        refine z_sub (lv' := [(0, .ref a), (1, .int (nI f)), (2, .long (lN ((d' i * f + c) / 4294967296))), (4, .int (nI (i + 1)))]) rfl (ih (i + 1) _ _ (by omega) (by omega) (upN_lt hd' (by omega)) (fun j hj => ?_) ?_)
        · rw [upN_n (by omega)]; exact hk j (by omega)
        · rw [val_upN, Bs, val_s, ← hk i (Nat.le_refl _)]
          have h1 := dm_mul (d' i * f + c) (4294967296 ^ i)
          rw [Nat.add_mul] at h1
          rw [Nat.add_mul, Nat.mul_right_comm (d' i)]
          omega
  exact z_sub (lv' := [(0, .ref a), (1, .int (nI f)), (2, .long (lN 0)), (4, .int (nI 0))]) rfl (loop s 0 0 d0 (by omega) (by omega) hd0l (fun _ _ => rfl) (by show 0 + 0 = 0 * f; omega))
theorem c_Na_divideByInt (l : Launch) {g : Gh} (nx : Nat) {a N v : Nat} (ha : NA g a N v) (f : Nat) (hf0 : 0 < f) (hf : f ≤ 1000000) : Ct l m_Na_divideByInt 0 0 [.ref a, .int (nI f)] g nx (pNA g a N (v / f) nx) := by
  obtain ⟨n, d, ha, hav, han⟩ := ha
  obtain ⟨a1, a2, a3, a4, a5⟩ := id ha
  refine Ct.of (by decide) (Nat.le_of_ble_eq_true rfl) (fun E hE hQ => ?_)
  refine z_iload_n hE d_Na_divideByInt_0 rfl ?_
  refine z_if_gt (tgt := 5) hE d_Na_divideByInt_1 (by decide) (fun c_1 => ?_) (fun c_1 => ?_)
  · refine z_lconst (v := lN 0) hE d_Na_divideByInt_5 (by decide) ?_
    refine z_lstore_n hE d_Na_divideByInt_6 rfl (by decide) ?_
    refine z_aload_n hE d_Na_divideByInt_7 rfl ?_
    refine z_get hE d_Na_divideByInt_8 fl_Na_13 (by assumption) rfl ?_
    refine z_iconst (v := 1) hE d_Na_divideByInt_11 (by decide) ?_
    refine z_isub hE d_Na_divideByInt_12 (rfl) ?_
    refine z_istore hE d_Na_divideByInt_13 (by decide) ?_
    have loop : ∀ (i r H : Nat) (x : Int32) (d' : Nat → Nat), i ≤ n → x.toInt = (i : Int) - 1 → r < f → (∀ j, d' j < 4294967296) → (∀ j, j < i → d' j = d j) → val d' n = val d' i + H → v = H * f + r * 4294967296 ^ i + val d i → zJ E (gN g a N n d') nx 0 0 15 [(0, .ref a), (1, .int (nI f)), (2, .long (lN r)), (4, .int x)] [] := by
      intro i
      induction i with
      | zero =>
        intro r H x d' hi hxx hr hd' hk hH hval
        have hR : RN (gN g a N n d') a N n d' := RN_gN (by omega) (by omega) hd'
        obtain ⟨q1, q2, -⟩ := id hR
        refine z_iload hE d_Na_divideByInt_15 rfl ?_
        refine z_if_lt (tgt := 56) hE d_Na_divideByInt_17 (by decide) (fun c_17 => ?_) (fun c_17 => ?_)
        · refine z_aload_n hE d_Na_divideByInt_56 rfl ?_
          refine z_callV hE d_Na_divideByInt_57 cl_Na_43 (c_Na_trim l nx hR) (by assumption) cb_Na rfl (Nat.le_of_ble_eq_true rfl) ⟨by decide, by decide⟩ ⟨by omega, by omega⟩ (fun r_57 g_57 nx_57 hp_57 => ?_) rfl
          obtain ⟨rfl, rfl, rfl⟩ := hp_57
          try dsimp only [Option.toList, List.nil_append, List.cons_append]
          rw [gN_gN]
          refine z_vret hE hQ d_Na_divideByInt_60 rfl (Nat.le_refl _) (Nat.le_refl _) ⟨rfl, rfl, ?_, gO_N⟩
          have hn2 := NA_trim (g := g) (a := a) (N := N) (n := n) (by omega) (by omega) hd'
          have e1 : val d' n = v / f := by
            have h1 : val d' n = H := by rw [hH]; show 0 + H = H; omega
            rw [h1, hval]
            show H = (H * f + r * 1 + 0) / f
            rw [Nat.mul_one, Nat.add_zero, Nat.add_comm, Nat.add_mul_div_right _ _ hf0, Nat.div_eq_of_lt hr, Nat.zero_add]
          rw [e1] at hn2
          exact hn2
        · exact absurd (i_lt0.mpr (by omega)) c_17
      | succ i ih =>
        intro r H x d' hi hxx hr hd' hk hH hval
        have hR : RN (gN g a N n d') a N n d' := RN_gN (by omega) (by omega) hd'
        obtain ⟨q1, q2, -⟩ := id hR
        have hxi : x = nI i := by rw [← Int32.toInt_inj, nI_ti (by omega)]; omega
        subst hxi
        have x1 := hd' i
        have x2 : r * 4294967296 + d' i < f * 4294967296 := by
          have := Nat.mul_le_mul_right 4294967296 (show r + 1 ≤ f by omega)
          omega
        have x3 : (r * 4294967296 + d' i) / f < 4294967296 := (Nat.div_lt_iff_lt_mul hf0).mpr (by omega)
        refine z_iload hE d_Na_divideByInt_15 rfl ?_
        refine z_if_lt (tgt := 56) hE d_Na_divideByInt_17 (by decide) (fun c_17 => ?_) (fun c_17 => ?_)
        · exact absurd (i_lt0.mp c_17) (by rw [nI_ti (by omega)]; omega)
        · refine z_lload_n hE d_Na_divideByInt_20 rfl ?_
          refine z_bipush (v := 32) hE d_Na_divideByInt_21 (by decide) ?_
          refine z_lshl (v := lN (r * 4294967296)) hE d_Na_divideByInt_23 (l_shl) ?_
          refine z_aload_n hE d_Na_divideByInt_24 rfl ?_
          refine z_iload hE d_Na_divideByInt_25 rfl ?_
          refine z_callV hE d_Na_divideByInt_27 cl_Na_26 (c_Na_at l nx hR (nI i)) (by assumption) cb_Na rfl (Nat.le_of_ble_eq_true rfl) ⟨by decide, by decide⟩ ⟨by omega, by omega⟩ (fun r_27 g_27 nx_27 hp_27 => ?_) rfl
          obtain ⟨rfl, rfl, rfl⟩ := hp_27
          try dsimp only [Option.toList, List.nil_append, List.cons_append]
          rw [dz_n (by omega), dzf_in (by omega)]
          refine z_lor (v := lN (r * 4294967296 + d' i)) hE d_Na_divideByInt_30 (l_or x1 (by omega)) ?_
          refine z_lstore hE d_Na_divideByInt_31 (by decide) ?_
          refine z_aload_n hE d_Na_divideByInt_33 rfl ?_
          refine z_iload hE d_Na_divideByInt_34 rfl ?_
          refine z_lload hE d_Na_divideByInt_36 rfl ?_
          refine z_iload_n hE d_Na_divideByInt_38 rfl ?_
          refine z_i2l (v := lN f) hE d_Na_divideByInt_39 (i2l_n (by omega)) ?_
          refine z_ldiv (v := lN ((r * 4294967296 + d' i) / f)) hE d_Na_divideByInt_40 (by rw [show (0 : Int64) = lN 0 from rfl, pk_lEQ (by omega) (by omega)]; omega) (pk_lDiv (by omega) hf0 (by omega)) ?_
          refine z_callV hE d_Na_divideByInt_41 cl_Na_30 (c_Na_store l nx hR (k := i) (by omega) ((r * 4294967296 + d' i) / f)) (by assumption) cb_Na rfl (Nat.le_of_ble_eq_true rfl) ⟨by decide, by decide⟩ ⟨by omega, by omega⟩ (fun r_41 g_41 nx_41 hp_41 => ?_) rfl
          obtain ⟨rfl, rfl, rfl⟩ := hp_41
          try dsimp only [Option.toList, List.nil_append, List.cons_append]
          rw [gN_gN]
          refine z_lload hE d_Na_divideByInt_44 rfl ?_
          refine z_iload_n hE d_Na_divideByInt_46 rfl ?_
          refine z_i2l (v := lN f) hE d_Na_divideByInt_47 (i2l_n (by omega)) ?_
          refine z_lrem (v := lN ((r * 4294967296 + d' i) % f)) hE d_Na_divideByInt_48 (by rw [show (0 : Int64) = lN 0 from rfl, pk_lEQ (by omega) (by omega)]; omega) (pk_lRem (by omega) hf0 (by omega)) ?_
          refine z_lstore_n hE d_Na_divideByInt_49 rfl (by decide) ?_
          refine z_iinc hE d_Na_divideByInt_50 rfl (rfl) (by decide) ?_
          refine z_goto (tgt := 15) hE d_Na_divideByInt_53 (by decide) ?_
          have hH2 : ∀ k, i + 1 + k ≤ n → val (upN d' i ((r * 4294967296 + d' i) / f)) (i + 1 + k) + d' i * 4294967296 ^ i = val d' (i + 1 + k) + (r * 4294967296 + d' i) / f * 4294967296 ^ i := by
            intro k
            induction k with
            | zero =>
              intro _
              show val _ (i + 1) + _ = val d' (i + 1) + _
              rw [val_upN, val_s]; omega
            | succ k ihk =>
              intro hk2
              have := ihk (by omega)
              rw [show i + 1 + (k + 1) = (i + 1 + k) + 1 by omega, val_s, val_s, upN_n (by omega)]
              omega
          have hH3 := hH2 (n - (i + 1)) (by omega)
          rw [show i + 1 + (n - (i + 1)) = n by omega, hH, val_s] at hH3
          have hvi : val (upN d' i ((r * 4294967296 + d' i) / f)) i = val d' i := val_ext i (fun j hj => upN_n (by omega))
          refine z_sub (lv' := [(0, .ref a), (1, .int (nI f)), (2, .long (lN ((r * 4294967296 + d' i) % f))), (4, .int (nI i + Int32.ofInt (-1)))]) rfl (ih _ (H + (r * 4294967296 + d' i) / f * 4294967296 ^ i) _ _ (by omega) ?_ (Nat.mod_lt _ hf0) (upN_lt hd' x3) (fun j hj => ?_) ?_ ?_)
          · cases i with
            | zero => rfl
            | succ i =>
              show (nI (i + 1) + (-1)).toInt = _
              rw [pk_m1, nI_ti (by omega)]; omega
          · rw [upN_n (by omega)]; exact hk j (by omega)
          · rw [hvi]; omega
          · rw [hval, val_s, ← hk i (by omega), Bs, Nat.add_mul]
            have h1 : ((r * 4294967296 + d' i) % f + f * ((r * 4294967296 + d' i) / f)) * 4294967296 ^ i = (r * 4294967296 + d' i) * 4294967296 ^ i := by rw [Nat.mod_add_div]
            rw [Nat.add_mul, Nat.add_mul, Nat.mul_assoc r] at h1
            rw [Nat.mul_right_comm ((r * 4294967296 + d' i) / f), Nat.mul_comm ((r * 4294967296 + d' i) / f) f]
            omega
    refine z_g (gN_id ha).symm (z_sub (lv' := [(0, .ref a), (1, .int (nI f)), (2, .long (lN 0)), (4, .int (nI n - 1))]) rfl (loop n 0 0 _ d (Nat.le_refl _) ?_ hf0 a5 (fun _ _ => rfl) (by omega) (by rw [hav]; omega)))
    cases n with
    | zero => rfl
    | succ n => rw [nI_pred, nI_ti (by omega)]; omega
  · exact absurd (nI_lt (a := 0) hf0 (by omega)) c_1

