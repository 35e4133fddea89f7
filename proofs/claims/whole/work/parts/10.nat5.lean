/-! Natural: products, shifts, bits -/
theorem d_Na_becomeProduct_0 : decode b_Na_becomeProduct 0 = .ok (.aload_n 0, 1) := by decide +kernel
theorem d_Na_becomeProduct_1 : decode b_Na_becomeProduct 1 = .ok (.invokevirtual 34, 3) := by decide +kernel
theorem d_Na_becomeProduct_4 : decode b_Na_becomeProduct 4 = .ok (.aload_n 0, 1) := by decide +kernel
theorem d_Na_becomeProduct_5 : decode b_Na_becomeProduct 5 = .ok (.aload_n 1, 1) := by decide +kernel
theorem d_Na_becomeProduct_6 : decode b_Na_becomeProduct 6 = .ok (.getfield 13, 3) := by decide +kernel
theorem d_Na_becomeProduct_9 : decode b_Na_becomeProduct 9 = .ok (.aload_n 2, 1) := by decide +kernel
theorem d_Na_becomeProduct_10 : decode b_Na_becomeProduct 10 = .ok (.getfield 13, 3) := by decide +kernel
theorem d_Na_becomeProduct_13 : decode b_Na_becomeProduct 13 = .ok (.iadd, 1) := by decide +kernel
theorem d_Na_becomeProduct_14 : decode b_Na_becomeProduct 14 = .ok (.invokevirtual 37, 3) := by decide +kernel
theorem d_Na_becomeProduct_17 : decode b_Na_becomeProduct 17 = .ok (.iconst 0, 1) := by decide +kernel
theorem d_Na_becomeProduct_18 : decode b_Na_becomeProduct 18 = .ok (.istore_n 3, 1) := by decide +kernel
theorem d_Na_becomeProduct_19 : decode b_Na_becomeProduct 19 = .ok (.iload_n 3, 1) := by decide +kernel
theorem d_Na_becomeProduct_20 : decode b_Na_becomeProduct 20 = .ok (.aload_n 1, 1) := by decide +kernel
theorem d_Na_becomeProduct_21 : decode b_Na_becomeProduct 21 = .ok (.getfield 13, 3) := by decide +kernel
theorem d_Na_becomeProduct_24 : decode b_Na_becomeProduct 24 = .ok (.if_icmp .ge 93, 3) := by decide +kernel
theorem d_Na_becomeProduct_27 : decode b_Na_becomeProduct 27 = .ok (.lconst 0, 1) := by decide +kernel
theorem d_Na_becomeProduct_28 : decode b_Na_becomeProduct 28 = .ok (.lstore 4, 2) := by decide +kernel
theorem d_Na_becomeProduct_30 : decode b_Na_becomeProduct 30 = .ok (.aload_n 1, 1) := by decide +kernel
theorem d_Na_becomeProduct_31 : decode b_Na_becomeProduct 31 = .ok (.iload_n 3, 1) := by decide +kernel
theorem d_Na_becomeProduct_32 : decode b_Na_becomeProduct 32 = .ok (.invokevirtual 26, 3) := by decide +kernel
theorem d_Na_becomeProduct_35 : decode b_Na_becomeProduct 35 = .ok (.lstore 6, 2) := by decide +kernel
theorem d_Na_becomeProduct_37 : decode b_Na_becomeProduct 37 = .ok (.iconst 0, 1) := by decide +kernel
theorem d_Na_becomeProduct_38 : decode b_Na_becomeProduct 38 = .ok (.istore 8, 2) := by decide +kernel
theorem d_Na_becomeProduct_40 : decode b_Na_becomeProduct 40 = .ok (.iload 8, 2) := by decide +kernel
theorem d_Na_becomeProduct_42 : decode b_Na_becomeProduct 42 = .ok (.aload_n 2, 1) := by decide +kernel
theorem d_Na_becomeProduct_43 : decode b_Na_becomeProduct 43 = .ok (.getfield 13, 3) := by decide +kernel
theorem d_Na_becomeProduct_46 : decode b_Na_becomeProduct 46 = .ok (.if_icmp .ge 53, 3) := by decide +kernel
theorem d_Na_becomeProduct_49 : decode b_Na_becomeProduct 49 = .ok (.lload 6, 2) := by decide +kernel
theorem d_Na_becomeProduct_51 : decode b_Na_becomeProduct 51 = .ok (.aload_n 2, 1) := by decide +kernel
theorem d_Na_becomeProduct_52 : decode b_Na_becomeProduct 52 = .ok (.iload 8, 2) := by decide +kernel
theorem d_Na_becomeProduct_54 : decode b_Na_becomeProduct 54 = .ok (.invokevirtual 26, 3) := by decide +kernel
theorem d_Na_becomeProduct_57 : decode b_Na_becomeProduct 57 = .ok (.lmul, 1) := by decide +kernel
theorem d_Na_becomeProduct_58 : decode b_Na_becomeProduct 58 = .ok (.aload_n 0, 1) := by decide +kernel
theorem d_Na_becomeProduct_59 : decode b_Na_becomeProduct 59 = .ok (.iload_n 3, 1) := by decide +kernel
theorem d_Na_becomeProduct_60 : decode b_Na_becomeProduct 60 = .ok (.iload 8, 2) := by decide +kernel
theorem d_Na_becomeProduct_62 : decode b_Na_becomeProduct 62 = .ok (.iadd, 1) := by decide +kernel
theorem d_Na_becomeProduct_63 : decode b_Na_becomeProduct 63 = .ok (.invokevirtual 26, 3) := by decide +kernel
theorem d_Na_becomeProduct_66 : decode b_Na_becomeProduct 66 = .ok (.ladd, 1) := by decide +kernel
theorem d_Na_becomeProduct_67 : decode b_Na_becomeProduct 67 = .ok (.lload 4, 2) := by decide +kernel
theorem d_Na_becomeProduct_69 : decode b_Na_becomeProduct 69 = .ok (.ladd, 1) := by decide +kernel
theorem d_Na_becomeProduct_70 : decode b_Na_becomeProduct 70 = .ok (.lstore 9, 2) := by decide +kernel
theorem d_Na_becomeProduct_72 : decode b_Na_becomeProduct 72 = .ok (.aload_n 0, 1) := by decide +kernel
theorem d_Na_becomeProduct_73 : decode b_Na_becomeProduct 73 = .ok (.iload_n 3, 1) := by decide +kernel
theorem d_Na_becomeProduct_74 : decode b_Na_becomeProduct 74 = .ok (.iload 8, 2) := by decide +kernel
theorem d_Na_becomeProduct_76 : decode b_Na_becomeProduct 76 = .ok (.iadd, 1) := by decide +kernel
theorem d_Na_becomeProduct_77 : decode b_Na_becomeProduct 77 = .ok (.lload 9, 2) := by decide +kernel
theorem d_Na_becomeProduct_79 : decode b_Na_becomeProduct 79 = .ok (.ldc2_w 41, 3) := by decide +kernel
theorem d_Na_becomeProduct_82 : decode b_Na_becomeProduct 82 = .ok (.land, 1) := by decide +kernel
theorem d_Na_becomeProduct_83 : decode b_Na_becomeProduct 83 = .ok (.invokevirtual 30, 3) := by decide +kernel
theorem d_Na_becomeProduct_86 : decode b_Na_becomeProduct 86 = .ok (.lload 9, 2) := by decide +kernel
theorem d_Na_becomeProduct_88 : decode b_Na_becomeProduct 88 = .ok (.bipush 32, 2) := by decide +kernel
theorem d_Na_becomeProduct_90 : decode b_Na_becomeProduct 90 = .ok (.lushr, 1) := by decide +kernel
theorem d_Na_becomeProduct_91 : decode b_Na_becomeProduct 91 = .ok (.lstore 4, 2) := by decide +kernel
theorem d_Na_becomeProduct_93 : decode b_Na_becomeProduct 93 = .ok (.iinc 8 1, 3) := by decide +kernel
theorem d_Na_becomeProduct_96 : decode b_Na_becomeProduct 96 = .ok (.goto (-56), 3) := by decide +kernel
theorem d_Na_becomeProduct_99 : decode b_Na_becomeProduct 99 = .ok (.aload_n 0, 1) := by decide +kernel
theorem d_Na_becomeProduct_100 : decode b_Na_becomeProduct 100 = .ok (.iload_n 3, 1) := by decide +kernel
theorem d_Na_becomeProduct_101 : decode b_Na_becomeProduct 101 = .ok (.aload_n 2, 1) := by decide +kernel
theorem d_Na_becomeProduct_102 : decode b_Na_becomeProduct 102 = .ok (.getfield 13, 3) := by decide +kernel
theorem d_Na_becomeProduct_105 : decode b_Na_becomeProduct 105 = .ok (.iadd, 1) := by decide +kernel
theorem d_Na_becomeProduct_106 : decode b_Na_becomeProduct 106 = .ok (.lload 4, 2) := by decide +kernel
theorem d_Na_becomeProduct_108 : decode b_Na_becomeProduct 108 = .ok (.invokevirtual 30, 3) := by decide +kernel
theorem d_Na_becomeProduct_111 : decode b_Na_becomeProduct 111 = .ok (.iinc 3 1, 3) := by decide +kernel
theorem d_Na_becomeProduct_114 : decode b_Na_becomeProduct 114 = .ok (.goto (-95), 3) := by decide +kernel
theorem d_Na_becomeProduct_117 : decode b_Na_becomeProduct 117 = .ok (.aload_n 0, 1) := by decide +kernel
theorem d_Na_becomeProduct_118 : decode b_Na_becomeProduct 118 = .ok (.invokevirtual 43, 3) := by decide +kernel
theorem d_Na_becomeProduct_121 : decode b_Na_becomeProduct 121 = .ok (.return_, 1) := by decide +kernel
theorem c_Na_becomeProduct (l : Launch) {g : Gh} (nx : Nat) {a b b2 M K n v w p q : Nat} {d : Nat → Nat} (ha : RN g a 20 n d) (hb : NA g b M v) (hb2 : NA g b2 K w) (hab : b ≠ a) (hab2 : b2 ≠ a) (hv : v < 4294967296 ^ p) (hw : w < 4294967296 ^ q) (hpq : p + q ≤ 20) : Ct l m_Na_becomeProduct 0 0 [.ref a, .ref b, .ref b2] g nx (pNA g a 20 (v * w) nx) := by
  obtain ⟨a1, a2, a3, a4, a5⟩ := id ha
  obtain ⟨m, e, hb, hbv, hbn⟩ := hb
  obtain ⟨b1, b2', b3, b4, b5⟩ := id hb
  obtain ⟨k, f, hc, hcv, hcn⟩ := hb2
  obtain ⟨c1, c2, c3, c4, c5⟩ := id hc
  have hm : m ≤ p := (norm_len b5 hbn).mp (by rw [hbv]; exact hv)
  have hk : k ≤ q := (norm_len c5 hcn).mp (by rw [hcv]; exact hw)
  refine Ct.of (by decide) (Nat.le_of_ble_eq_true rfl) (fun E hE hQ => ?_)
  refine z_aload_n hE d_Na_becomeProduct_0 rfl ?_
  refine z_callV hE d_Na_becomeProduct_1 cl_Na_34 (c_Na_clear l nx ha) (by assumption) cb_Na rfl (Nat.le_of_ble_eq_true rfl) ⟨by decide, by decide⟩ ⟨by omega, by omega⟩ (fun r_1 g_1 nx_1 hp_1 => ?_) rfl
  obtain ⟨rfl, rfl, rfl⟩ := hp_1
  try dsimp only [Option.toList, List.nil_append, List.cons_append]
  have hR0 : RN (gN g a 20 0 d) a 20 0 d := RN_gN (by omega) a4 a5
  have hRb0 : RN (gN g a 20 0 d) b M m e := RN_o ha hb hab
  have hRc0 : RN (gN g a 20 0 d) b2 K k f := RN_o ha hc hab2
  obtain ⟨q1, q2, -⟩ := id hR0
  obtain ⟨r1, r2, -⟩ := id hRb0
  obtain ⟨s1, s2, -⟩ := id hRc0
  refine z_aload_n hE d_Na_becomeProduct_4 rfl ?_
  refine z_aload_n hE d_Na_becomeProduct_5 rfl ?_
  refine z_get hE d_Na_becomeProduct_6 fl_Na_13 (by assumption) rfl ?_
  refine z_aload_n hE d_Na_becomeProduct_9 rfl ?_
  refine z_get hE d_Na_becomeProduct_10 fl_Na_13 (by assumption) rfl ?_
  refine z_iadd (v := nI (m + k)) hE d_Na_becomeProduct_13 (nI_add _ _) ?_
  refine z_callV hE d_Na_becomeProduct_14 cl_Na_37 (c_Na_widen l nx hR0 (m + k) (by omega)) (by assumption) cb_Na rfl (Nat.le_of_ble_eq_true rfl) ⟨by decide, by decide⟩ ⟨by omega, by omega⟩ (fun r_14 g_14 nx_14 hp_14 => ?_) rfl
  obtain ⟨rfl, rfl, rfl⟩ := hp_14
  try dsimp only [Option.toList, List.nil_append, List.cons_append]
  rw [gN_gN, Nat.min_eq_left (show m + k ≤ 20 by omega), Nat.max_eq_right (Nat.zero_le (m + k))]
  generalize hd0 : (fun j => if 0 ≤ j ∧ j < m + k then 0 else d j) = d0
  have hd0l : ∀ j, d0 j < 4294967296 := fun j => by rw [← hd0]; dsimp only; split; omega; exact a5 j
  have hd0z : ∀ j, j < m + k → d0 j = 0 := fun j hj => by rw [← hd0]; exact if_pos ⟨Nat.zero_le _, hj⟩
  refine z_iconst (v := nI 0) hE d_Na_becomeProduct_17 (by decide) ?_
  refine z_istore_n hE d_Na_becomeProduct_18 rfl (by decide) ?_
  have outer : ∀ (u i : Nat) (d' : Nat → Nat), i + u = m → (∀ j, d' j < 4294967296) → (∀ j, i + k ≤ j → j < m + k → d' j = 0) → val d' (i + k) = val e i * val f k → zJ E (gN g a 20 (m + k) d') nx 0 0 19 [(0, .ref a), (1, .ref b), (2, .ref b2), (3, .int (nI i))] [] := by
    intro u
    induction u with
    | zero =>
      intro i d' hi hd' hz hval
      have hR : RN (gN g a 20 (m + k) d') a 20 (m + k) d' := RN_gN (by omega) (by omega) hd'
      have hRb : RN (gN g a 20 (m + k) d') b M m e := RN_o ha hb hab
      obtain ⟨q1, q2, -⟩ := id hR
      obtain ⟨r1, r2, -⟩ := id hRb
      have hi' : i = m := by omega
      subst hi'
      refine z_iload_n hE d_Na_becomeProduct_19 rfl ?_
      refine z_aload_n hE d_Na_becomeProduct_20 rfl ?_
      refine z_get hE d_Na_becomeProduct_21 fl_Na_13 (by assumption) rfl ?_
      refine z_icmp_ge (tgt := 117) hE d_Na_becomeProduct_24 (by decide) (fun c_24 => ?_) (fun c_24 => ?_)
      · refine z_aload_n hE d_Na_becomeProduct_117 rfl ?_
        refine z_callV hE d_Na_becomeProduct_118 cl_Na_43 (c_Na_trim l nx hR) (by assumption) cb_Na rfl (Nat.le_of_ble_eq_true rfl) ⟨by decide, by decide⟩ ⟨by omega, by omega⟩ (fun r_118 g_118 nx_118 hp_118 => ?_) rfl
        obtain ⟨rfl, rfl, rfl⟩ := hp_118
        try dsimp only [Option.toList, List.nil_append, List.cons_append]
        rw [gN_gN]
        refine z_vret hE hQ d_Na_becomeProduct_121 rfl (Nat.le_refl _) (Nat.le_refl _) ⟨rfl, rfl, ?_, gO_N⟩
        have hn2 := NA_trim (g := g) (a := a) (N := 20) (n := i + k) (by omega) (by omega) hd'
        rw [hval, hbv, hcv] at hn2
        exact hn2
      · exact absurd ((nI_LE (by omega) (by omega)).mpr (by omega)) c_24
    | succ u ih =>
      intro i d' hi hd' hz hval
      have hR : RN (gN g a 20 (m + k) d') a 20 (m + k) d' := RN_gN (by omega) (by omega) hd'
      have hRb : RN (gN g a 20 (m + k) d') b M m e := RN_o ha hb hab
      obtain ⟨q1, q2, -⟩ := id hR
      obtain ⟨r1, r2, -⟩ := id hRb
      refine z_iload_n hE d_Na_becomeProduct_19 rfl ?_
      refine z_aload_n hE d_Na_becomeProduct_20 rfl ?_
      refine z_get hE d_Na_becomeProduct_21 fl_Na_13 (by assumption) rfl ?_
      refine z_icmp_ge (tgt := 117) hE d_Na_becomeProduct_24 (by decide) (fun c_24 => ?_) (fun c_24 => ?_)
      · exact absurd ((nI_LE (by omega) (by omega)).mp c_24) (by omega)
      · refine z_lconst (v := lN 0) hE d_Na_becomeProduct_27 (by decide) ?_
        refine z_lstore hE d_Na_becomeProduct_28 (by decide) ?_
        refine z_aload_n hE d_Na_becomeProduct_30 rfl ?_
        refine z_iload_n hE d_Na_becomeProduct_31 rfl ?_
        refine z_callV hE d_Na_becomeProduct_32 cl_Na_26 (c_Na_at l nx hRb (nI i)) (by assumption) cb_Na rfl (Nat.le_of_ble_eq_true rfl) ⟨by decide, by decide⟩ ⟨by omega, by omega⟩ (fun r_32 g_32 nx_32 hp_32 => ?_) rfl
        obtain ⟨rfl, rfl, rfl⟩ := hp_32
        try dsimp only [Option.toList, List.nil_append, List.cons_append]
        rw [dz_n (by omega), dzf_in (by omega)]
        refine z_lstore hE d_Na_becomeProduct_35 (by decide) ?_
        refine z_iconst (v := nI 0) hE d_Na_becomeProduct_37 (by decide) ?_
        refine z_istore hE d_Na_becomeProduct_38 (by decide) ?_
        have y1 := b5 i
        have inner : ∀ (t j c : Nat) (dd : Nat → Nat), j + t = k → c < 4294967296 → (∀ j, dd j < 4294967296) → (∀ x, i + j ≤ x → dd x = d' x) → val dd (i + j) + c * 4294967296 ^ (i + j) = val d' (i + j) + e i * 4294967296 ^ i * val f j → ∀ lv, lG lv 0 = some (.ref a) → lG lv 1 = some (.ref b) → lG lv 2 = some (.ref b2) → lG lv 3 = some (.int (nI i)) → lG lv 4 = some (.long (lN c)) → lG lv 6 = some (.long (lN (e i))) → lG lv 8 = some (.int (nI j)) → zJ E (gN g a 20 (m + k) dd) nx 0 0 40 lv [] := by
          intro t
          induction t with
          | zero =>
            intro j c dd hj hc2 hdd hx hv2 lv l0 l1 l2 l3 l4 l6 l8
            have hj' : j = k := by omega
            subst hj'
            have hR2 : RN (gN g a 20 (m + j) dd) a 20 (m + j) dd := RN_gN (by omega) (by omega) hdd
            have hRc2 : RN (gN g a 20 (m + j) dd) b2 K j f := RN_o ha hc hab2
            obtain ⟨q1, q2, -⟩ := id hR2
            obtain ⟨s1, s2, -⟩ := id hRc2
            refine z_sub (lv' := [(0, .ref a), (1, .ref b), (2, .ref b2), (3, .int (nI i)), (4, .long (lN c)), (6, .long (lN (e i))), (8, .int (nI j))]) (by simp only [List.map, l0, l1, l2, l3, l4, l6, l8]) ?_
            refine z_iload hE d_Na_becomeProduct_40 rfl ?_
            refine z_aload_n hE d_Na_becomeProduct_42 rfl ?_
            refine z_get hE d_Na_becomeProduct_43 fl_Na_13 (by assumption) rfl ?_
            refine z_icmp_ge (tgt := 99) hE d_Na_becomeProduct_46 (by decide) (fun c_46 => ?_) (fun c_46 => ?_)
            · refine z_aload_n hE d_Na_becomeProduct_99 rfl ?_
              refine z_iload_n hE d_Na_becomeProduct_100 rfl ?_
              refine z_aload_n hE d_Na_becomeProduct_101 rfl ?_
              refine z_get hE d_Na_becomeProduct_102 fl_Na_13 (by assumption) rfl ?_
              refine z_iadd (v := nI (i + j)) hE d_Na_becomeProduct_105 (nI_add _ _) ?_
              refine z_lload hE d_Na_becomeProduct_106 rfl ?_
              refine z_callV hE d_Na_becomeProduct_108 cl_Na_30 (c_Na_store l nx hR2 (k := i + j) (by omega) c) (by assumption) cb_Na rfl (Nat.le_of_ble_eq_true rfl) ⟨by decide, by decide⟩ ⟨by omega, by omega⟩ (fun r_108 g_108 nx_108 hp_108 => ?_) rfl
              obtain ⟨rfl, rfl, rfl⟩ := hp_108
              try dsimp only [Option.toList, List.nil_append, List.cons_append]
              rw [gN_gN]
              refine z_iinc (v := nI (i + 1)) hE d_Na_becomeProduct_111 rfl (nI_1 i) (by decide) ?_
              refine z_goto (tgt := 19) hE d_Na_becomeProduct_114 (by decide) ?_
              refine z_sub (lv' := [(0, .ref a), (1, .ref b), (2, .ref b2), (3, .int (nI (i + 1)))]) rfl (ih (i + 1) _ (by omega) (upN_lt hdd hc2) (fun x h1 h2 => ?_) ?_)
              · rw [upN_n (by omega), hx x (by omega)]
                exact hz x (by omega) h2
              · rw [show i + 1 + j = (i + j) + 1 by omega, val_upN, hv2, val_s, Nat.add_mul, hval]
            · exact absurd ((nI_LE (by omega) (by omega)).mpr (by omega)) c_46
          | succ t iht =>
            intro j c dd hj hc2 hdd hx hv2 lv l0 l1 l2 l3 l4 l6 l8
            have hR2 : RN (gN g a 20 (m + k) dd) a 20 (m + k) dd := RN_gN (by omega) (by omega) hdd
            have hRc2 : RN (gN g a 20 (m + k) dd) b2 K k f := RN_o ha hc hab2
            obtain ⟨q1, q2, -⟩ := id hR2
            obtain ⟨s1, s2, -⟩ := id hRc2
            have y2 := c5 j
            have y3 := hdd (i + j)
            have y4 : e i * f j ≤ 4294967295 * 4294967295 := Nat.mul_le_mul (by omega) (by omega)
            refine z_sub (lv' := [(0, .ref a), (1, .ref b), (2, .ref b2), (3, .int (nI i)), (4, .long (lN c)), (6, .long (lN (e i))), (8, .int (nI j))]) (by simp only [List.map, l0, l1, l2, l3, l4, l6, l8]) ?_
            refine z_iload hE d_Na_becomeProduct_40 rfl ?_
            refine z_aload_n hE d_Na_becomeProduct_42 rfl ?_
            refine z_get hE d_Na_becomeProduct_43 fl_Na_13 (by assumption) rfl ?_
            refine z_icmp_ge (tgt := 99) hE d_Na_becomeProduct_46 (by decide) (fun c_46 => ?_) (fun c_46 => ?_)
            · exact absurd ((nI_LE (by omega) (by omega)).mp c_46) (by omega)
            · refine z_lload hE d_Na_becomeProduct_49 rfl ?_
              refine z_aload_n hE d_Na_becomeProduct_51 rfl ?_
              refine z_iload hE d_Na_becomeProduct_52 rfl ?_
              refine z_callV hE d_Na_becomeProduct_54 cl_Na_26 (c_Na_at l nx hRc2 (nI j)) (by assumption) cb_Na rfl (Nat.le_of_ble_eq_true rfl) ⟨by decide, by decide⟩ ⟨by omega, by omega⟩ (fun r_54 g_54 nx_54 hp_54 => ?_) rfl
              obtain ⟨rfl, rfl, rfl⟩ := hp_54
              try dsimp only [Option.toList, List.nil_append, List.cons_append]
              rw [dz_n (by omega), dzf_in (by omega)]
              refine z_lmul (v := lN (e i * f j)) hE d_Na_becomeProduct_57 (lN_mul _ _) ?_
              refine z_aload_n hE d_Na_becomeProduct_58 rfl ?_
              refine z_iload_n hE d_Na_becomeProduct_59 rfl ?_
              refine z_iload hE d_Na_becomeProduct_60 rfl ?_
              refine z_iadd (v := nI (i + j)) hE d_Na_becomeProduct_62 (nI_add _ _) ?_
              refine z_callV hE d_Na_becomeProduct_63 cl_Na_26 (c_Na_at l nx hR2 (nI (i + j))) (by assumption) cb_Na rfl (Nat.le_of_ble_eq_true rfl) ⟨by decide, by decide⟩ ⟨by omega, by omega⟩ (fun r_63 g_63 nx_63 hp_63 => ?_) rfl
              obtain ⟨rfl, rfl, rfl⟩ := hp_63
              try dsimp only [Option.toList, List.nil_append, List.cons_append]
              rw [dz_n (by omega), dzf_in (by omega)]
              refine z_ladd (v := lN (e i * f j + dd (i + j))) hE d_Na_becomeProduct_66 (lN_add _ _) ?_
              refine z_lload hE d_Na_becomeProduct_67 rfl ?_
              refine z_ladd (v := lN (e i * f j + dd (i + j) + c)) hE d_Na_becomeProduct_69 (lN_add _ _) ?_
              refine z_lstore hE d_Na_becomeProduct_70 (by decide) ?_
              refine z_aload_n hE d_Na_becomeProduct_72 rfl ?_
              refine z_iload_n hE d_Na_becomeProduct_73 rfl ?_
              refine z_iload hE d_Na_becomeProduct_74 rfl ?_
              refine z_iadd (v := nI (i + j)) hE d_Na_becomeProduct_76 (nI_add _ _) ?_
              refine z_lload hE d_Na_becomeProduct_77 rfl ?_
              refine z_ldc2 hE d_Na_becomeProduct_79 cn_Na_41 ?_
              refine z_land (v := lN ((e i * f j + dd (i + j) + c) % 4294967296)) hE d_Na_becomeProduct_82 (l_mask (by omega)) ?_
              refine z_callV hE d_Na_becomeProduct_83 cl_Na_30 (c_Na_store l nx hR2 (k := i + j) (by omega) ((e i * f j + dd (i + j) + c) % 4294967296)) (by assumption) cb_Na rfl (Nat.le_of_ble_eq_true rfl) ⟨by decide, by decide⟩ ⟨by omega, by omega⟩ (fun r_83 g_83 nx_83 hp_83 => ?_) rfl
              obtain ⟨rfl, rfl, rfl⟩ := hp_83
              try dsimp only [Option.toList, List.nil_append, List.cons_append]
              rw [gN_gN]
              refine z_lload hE d_Na_becomeProduct_86 rfl ?_
              refine z_bipush (v := 32) hE d_Na_becomeProduct_88 (by decide) ?_
              refine z_lushr (v := lN ((e i * f j + dd (i + j) + c) / 4294967296)) hE d_Na_becomeProduct_90 (l_shr (by omega)) ?_
              refine z_lstore hE d_Na_becomeProduct_91 (by decide) ?_
              refine z_iinc (v := nI (j + 1)) hE d_Na_becomeProduct_93 rfl (nI_1 j) (by decide) ?_
              refine z_goto (tgt := 40) hE d_Na_becomeProduct_96 (by decide) ?_
              refine iht (j + 1) ((e i * f j + dd (i + j) + c) / 4294967296) _ (by omega) (by omega) (upN_lt hdd (by omega)) (fun x h1 => ?_) ?_ _ rfl rfl rfl rfl rfl rfl rfl
              · rw [upN_n (by omega)]; exact hx x (by omega)
              · rw [show i + (j + 1) = (i + j) + 1 by omega, val_upN, val_s, val_s, Bs, Nat.mul_add, ← hx (i + j) (Nat.le_refl _)]
                have h1 := dm_mul (e i * f j + dd (i + j) + c) (4294967296 ^ (i + j))
                rw [Nat.add_mul, Nat.add_mul] at h1
                have h2 : e i * 4294967296 ^ i * (f j * 4294967296 ^ j) = e i * f j * 4294967296 ^ (i + j) := by
                  rw [Nat.pow_add, Nat.mul_mul_mul_comm]
                omega
        exact inner k 0 0 d' (by omega) (by decide) hd' (fun _ _ => rfl) (by show val d' (i + 0) + 0 * _ = _ + _ * 0; omega) _ rfl rfl rfl rfl rfl rfl rfl
  refine z_sub (lv' := [(0, .ref a), (1, .ref b), (2, .ref b2), (3, .int (nI 0))]) rfl (outer m 0 d0 (by omega) hd0l (fun j h1 h2 => hd0z j h2) ?_)
  rw [val_zeros (Nat.zero_le _) (fun j _ h2 => hd0z j (by omega))]
  show 0 = 0 * _
  omega

