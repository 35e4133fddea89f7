/-! Division.divide: the walk -/
theorem gN_in {g : Gh} {a b N M n m n' N' : Nat} {d e d' : Nat → Nat} (h1 : a ≠ b) (h2 : a ≠ b + 1) (h3 : b ≠ a + 1) : gN (gN (gN g a N n d) b M m e) a N' n' d' = gN (gN g a N' n' d') b M m e := by
  rw [← gN_comm h1 h2 h3, gN_comm h1 h2 h3, gN_comm h1 h2 h3, gN_gN, gN_comm (Ne.symm h1) h3 h2]
theorem val_split3 {r : Nat → Nat} {k n z : Nat} (hk : k + n < z) : val r z = val r k + 4294967296 ^ k * val (sh r k) (n + 1) + 4294967296 ^ (k + n + 1) * val (sh r (k + n + 1)) (z - (k + n + 1)) := by
  have h1 := val_sh r (k + n + 1) (z - (k + n + 1))
  rw [show k + n + 1 + (z - (k + n + 1)) = z by omega] at h1
  have h2 := val_sh r k (n + 1)
  rw [show k + (n + 1) = k + n + 1 by omega] at h2
  rw [h1, h2]
set_option maxHeartbeats 4000000 in
theorem c_Dv_divide (l : Launch) {g : Gh} (nx : Nat) {o b c M K x y : Nat} (hD : DV g o) (h1 : ∃ w, NA g (o + 1) 20 w) (h3 : ∃ w, NA g (o + 3) 20 w) (h5 : ∃ w, NA g (o + 5) 20 w) (hb : NA g b M x) (hc : NA g c K y) (hbo : b < o ∨ o + 7 ≤ b) (hco : c < o ∨ o + 7 ≤ c) (hx : x < 4294967296 ^ 18) (hy : y ≠ 0) : Ct l m_Dv_divide 0 0 [.ref o, .ref b, .ref c] g nx (pDV g o x y nx) := by
  obtain ⟨w1, h1⟩ := h1
  obtain ⟨w3, h3⟩ := h3
  obtain ⟨w5, h5⟩ := h5
  obtain ⟨n5, d5, hR5, hv5, hn5⟩ := id h5
  have hD0 := hD
  unfold DV at hD0
  have p18 := pw_ge (show 18 ≤ 20 by decide)
  refine Ct.of (by decide) (Nat.le_of_ble_eq_true rfl) (fun E hE hQ => ?_)
  refine z_aload_n hE d_Dv_divide_0 rfl ?_
  refine z_get hE d_Dv_divide_1 fl_Dv_21 (by assumption) rfl ?_
  refine z_aload_n hE d_Dv_divide_4 rfl ?_
  refine z_callV hE d_Dv_divide_5 cl_Dv_24 (c_Na_become l nx hR5 hb (by omega) (by omega)) (hR5.1) cb_Na rfl (Nat.le_of_ble_eq_true rfl) ⟨by decide, by decide⟩ ⟨by omega, by omega⟩ (fun r_1 g_1 nx_1 hp_1 => ?_) rfl
  try dsimp only [Option.toList, List.nil_append, List.cons_append]
  obtain ⟨rfl, rfl, hA5, hO1⟩ := hp_1
  try dsimp only [Option.toList, List.nil_append, List.cons_append]
  have hW1 : gW g g_1 (o + 1) (o + 7) := gW_O hO1 (by omega) (by omega)
  have hb1 := NA_W hb hW1 (by omega)
  have hc1 := NA_W hc hW1 (by omega)
  have hA1 := NA_o h5 h1 (by omega) hO1
  have hA3 := NA_o h5 h3 (by omega) hO1
  have hD1 : DV g_1 o := by unfold DV; rw [hO1 o (by omega) (by omega)]; exact hD
  obtain ⟨n3, d3, hR3, hv3, hn3⟩ := id hA3
  have hD1' := hD1
  unfold DV at hD1'
  refine z_aload_n hE d_Dv_divide_8 rfl ?_
  refine z_get hE d_Dv_divide_9 fl_Dv_18 (by assumption) rfl ?_
  refine z_callV hE d_Dv_divide_12 cl_Dv_28 (c_Na_clear l nx hR3) (hR3.1) cb_Na rfl (Nat.le_of_ble_eq_true rfl) ⟨by decide, by decide⟩ ⟨by omega, by omega⟩ (fun r_12 g_12 nx_12 hp_12 => ?_) rfl
  obtain ⟨rfl, rfl, rfl⟩ := hp_12
  try dsimp only [Option.toList, List.nil_append, List.cons_append]
  obtain ⟨g2, hg2⟩ : ∃ g2, gN g_1 (o + 3) 20 0 d3 = g2 := ⟨_, rfl⟩
  rw [hg2]
  have hO2 : gO g_1 g2 (o + 3) := by rw [← hg2]; exact gO_N
  have hW2 : gW g g2 (o + 1) (o + 7) := gW_t hW1 (gW_O hO2 (by omega) (by omega))
  have hb2 := NA_W hb hW2 (by omega)
  have hc2 := NA_W hc hW2 (by omega)
  have hB1 := NA_o hA3 hA1 (by omega) hO2
  have hB5 := NA_o hA3 hA5 (by omega) hO2
  have hB3 : NA g2 (o + 3) 20 0 := by rw [← hg2]; exact ⟨0, d3, RN_gN (Nat.zero_le _) (by omega) hR3.2.2.2.2, rfl, Or.inl rfl⟩
  have hD2 : DV g2 o := by unfold DV; rw [hO2 o (by omega) (by omega)]; exact hD1
  have hD2' := hD2
  unfold DV at hD2'
  obtain ⟨n, e, hRc, hcv, hcn⟩ := id hc2
  have hRc1 := hRc.1
  obtain ⟨nb, db, hRb, -, -⟩ := id hb2
  have hRb1 := hRb.1
  refine z_aload_n hE d_Dv_divide_15 rfl ?_
  refine z_callV hE d_Dv_divide_16 cl_Dv_31 (c_Na_isZero l nx hc2) (by assumption) cb_Na rfl (Nat.le_of_ble_eq_true rfl) ⟨by decide, by decide⟩ ⟨by omega, by omega⟩ (fun r_16 g_16 nx_16 hp_16 => ?_) rfl
  obtain ⟨rfl, rfl, rfl⟩ := hp_16
  try dsimp only [Option.toList, List.nil_append, List.cons_append]
  rw [if_neg hy]
  refine z_if_ne (tgt := 30) hE d_Dv_divide_19 (by decide) (fun c_19 => ?_) (fun c_19 => ?_)
  · exact absurd rfl c_19
  · refine z_aload_n hE d_Dv_divide_22 rfl ?_
    refine z_aload_n hE d_Dv_divide_23 rfl ?_
    refine z_callV hE d_Dv_divide_24 cl_Dv_35 (c_Na_compareWith l nx hb2 hc2) (by assumption) cb_Na rfl (Nat.le_of_ble_eq_true rfl) ⟨by decide, by decide⟩ ⟨by omega, by omega⟩ (fun r_24 g_24 nx_24 hp_24 => ?_) rfl
    obtain ⟨rfl, rfl, rfl⟩ := hp_24
    try dsimp only [Option.toList, List.nil_append, List.cons_append]
    refine z_if_ge (tgt := 31) hE d_Dv_divide_27 (by decide) (fun c_27 => ?_) (fun c_27 => ?_)
    · have hxy : y ≤ x := by
        rcases Nat.lt_or_ge x y with q | q
        · rw [cmpN_lt q] at c_27
          exact absurd c_27 (by decide)
        · exact q
      have he := hRc.2.2.2.2
      have hn1 : 1 ≤ n := by
        rcases Nat.eq_zero_or_pos n with q | q
        · rw [q] at hcv
          exact absurd hcv.symm hy
        · exact q
      have ht0 : e (n - 1) ≠ 0 := by
        rcases hcn with q | q
        · omega
        · exact q
      obtain ⟨t1, t2, t3, t4⟩ := nrm_top ht0 (he (n - 1))
      have hnK : n ≤ 20 := Nat.le_trans hRc.2.2.1 hRc.2.2.2.1
      refine z_bipush (v := nI 32) hE d_Dv_divide_31 (by decide) ?_
      refine z_aload_n hE d_Dv_divide_33 rfl ?_
      refine z_aload_n hE d_Dv_divide_34 rfl ?_
      refine z_getN hE d_Dv_divide_35 fl_Dv_39 (by assumption) rfl ?_
      refine z_iconst (v := 1) hE d_Dv_divide_38 (by decide) ?_
      refine z_isub (v := nI (n - 1)) hE d_Dv_divide_39 (pk_sub (a := n) (b := 1) hn1) ?_
      refine z_callV hE d_Dv_divide_40 cl_Dv_43 (c_Na_at l nx hRc (nI (n - 1))) (by assumption) cb_Na rfl (Nat.le_of_ble_eq_true rfl) ⟨by decide, by decide⟩ ⟨by omega, by omega⟩ (fun r_40 g_40 nx_40 hp_40 => ?_) rfl
      obtain ⟨rfl, rfl, rfl⟩ := hp_40
      try dsimp only [Option.toList, List.nil_append, List.cons_append]
      rw [dz_n (by omega), dzf_in (by omega)]
      refine z_callS hE d_Dv_divide_43 cl_Dv_47 (c_Na_countLimbBits l g2 nx (e (n - 1)) (he _)) rfl (Nat.le_of_ble_eq_true rfl) ⟨by decide, by decide⟩ ⟨by omega, by omega⟩ (fun r_43 g_43 nx_43 hp_43 => ?_) rfl
      obtain ⟨rfl, rfl, rfl⟩ := hp_43
      try dsimp only [Option.toList, List.nil_append, List.cons_append]
      refine z_isub (v := nI (32 - bl (e (n - 1)))) hE d_Dv_divide_46 (pk_sub (by omega)) ?_
      obtain ⟨s, hs⟩ : ∃ s, 32 - bl (e (n - 1)) = s := ⟨_, rfl⟩
      rw [hs] at t3 t4 ⊢
      have hs31 : s ≤ 31 := by omega
      obtain ⟨n1, d1, hR1, -, -⟩ := id hB1
      have hR1a := hR1.1
      refine z_istore_n hE d_Dv_divide_47 rfl (by decide) ?_
      refine z_aload_n hE d_Dv_divide_48 rfl ?_
      refine z_get hE d_Dv_divide_49 fl_Dv_12 (by assumption) rfl ?_
      refine z_aload_n hE d_Dv_divide_52 rfl ?_
      refine z_callV hE d_Dv_divide_53 cl_Dv_24 (c_Na_become l nx hR1 hc2 (by omega) (by omega)) (by assumption) cb_Na rfl (Nat.le_of_ble_eq_true rfl) ⟨by decide, by decide⟩ ⟨by omega, by omega⟩ (fun r_3 g_3 nx_3 hp_3 => ?_) rfl
      try dsimp only [Option.toList, List.nil_append, List.cons_append]
      obtain ⟨rfl, rfl, hC1, hO3⟩ := hp_3
      try dsimp only [Option.toList, List.nil_append, List.cons_append]
      have hC3 := NA_o hB1 hB3 (by omega) hO3
      have hC5 := NA_o hB1 hB5 (by omega) hO3
      have hD3 : DV g_3 o := by unfold DV; rw [hO3 o (by omega) (by omega)]; exact hD2
      have hD3' := hD3
      unfold DV at hD3'
      have hW3 : gW g g_3 (o + 1) (o + 7) := gW_t hW2 (gW_O hO3 (by omega) (by omega))
      obtain ⟨_, _, ⟨hC1a, -⟩, -⟩ := id hC1
      refine z_aload_n hE d_Dv_divide_56 rfl ?_
      refine z_get hE d_Dv_divide_57 fl_Dv_12 (by assumption) rfl ?_
      refine z_iload_n hE d_Dv_divide_60 rfl ?_
      refine z_callV hE d_Dv_divide_61 cl_Dv_51 (c_Na_shiftUp l nx (p := 18) hC1 s (by omega) (by omega) (by omega)) (by assumption) cb_Na rfl (Nat.le_of_ble_eq_true rfl) ⟨by decide, by decide⟩ ⟨by omega, by omega⟩ (fun r_4 g_4 nx_4 hp_4 => ?_) rfl
      try dsimp only [Option.toList, List.nil_append, List.cons_append]
      obtain ⟨rfl, rfl, hE1, hO4⟩ := hp_4
      try dsimp only [Option.toList, List.nil_append, List.cons_append]
      have hE3 := NA_o hC1 hC3 (by omega) hO4
      have hE5 := NA_o hC1 hC5 (by omega) hO4
      have hD4 : DV g_4 o := by unfold DV; rw [hO4 o (by omega) (by omega)]; exact hD3
      have hD4' := hD4
      unfold DV at hD4'
      have hW4 : gW g g_4 (o + 1) (o + 7) := gW_t hW3 (gW_O hO4 (by omega) (by omega))
      obtain ⟨_, _, ⟨hE5a, -⟩, -⟩ := id hE5
      refine z_aload_n hE d_Dv_divide_64 rfl ?_
      refine z_get hE d_Dv_divide_65 fl_Dv_21 (by assumption) rfl ?_
      refine z_iload_n hE d_Dv_divide_68 rfl ?_
      refine z_callV hE d_Dv_divide_69 cl_Dv_51 (c_Na_shiftUp l nx (p := 18) hE5 s (by omega) hx (by omega)) (by assumption) cb_Na rfl (Nat.le_of_ble_eq_true rfl) ⟨by decide, by decide⟩ ⟨by omega, by omega⟩ (fun r_5 g_5 nx_5 hp_5 => ?_) rfl
      try dsimp only [Option.toList, List.nil_append, List.cons_append]
      obtain ⟨rfl, rfl, hF5, hO5⟩ := hp_5
      try dsimp only [Option.toList, List.nil_append, List.cons_append]
      have hF1 := NA_o hE5 hE1 (by omega) hO5
      have hF3 := NA_o hE5 hE3 (by omega) hO5
      have hD5 : DV g_5 o := by unfold DV; rw [hO5 o (by omega) (by omega)]; exact hD4
      have hD5' := hD5
      unfold DV at hD5'
      have hW5 : gW g g_5 (o + 1) (o + 7) := gW_t hW4 (gW_O hO5 (by omega) (by omega))
      -- the divisor's limbs
      obtain ⟨n', v, hRv, hvv, hvn⟩ := id hF1
      obtain ⟨m, r0, hRr, hrv, hrn⟩ := id hF5
      obtain ⟨nq, dq, hRq, hqv, hqn⟩ := id hF3
      obtain ⟨v1, v2, v3, v4, v5⟩ := id hRv
      obtain ⟨s1, s2, s3, s4, s5⟩ := id hRr
      obtain ⟨u1, u2, u3, u4, u5⟩ := id hRq
      have hnq : nq = 0 := (NA_zero (g := g_5) (a := o) (N := 20) u5 hqn).mp hqv
      subst hnq
      have hyl : val e (n - 1) < 4294967296 ^ (n - 1) := val_lt he (n - 1)
      have hyv : y = val e (n - 1) + e (n - 1) * 4294967296 ^ (n - 1) := by
        rw [← hcv, ← val_s, show n - 1 + 1 = n by omega]
      have hBn : 4294967296 ^ n = 4294967296 * 4294967296 ^ (n - 1) := by rw [← Bs, show n - 1 + 1 = n by omega]
      have hVlo : 2147483648 * 4294967296 ^ (n - 1) ≤ y * 2 ^ s := by
        rw [hyv, Nat.add_mul, Nat.mul_right_comm]
        have := Nat.mul_le_mul_right (4294967296 ^ (n - 1)) t3
        omega
      have hVhi : y * 2 ^ s < 4294967296 ^ n := by
        have a1 : y + 1 ≤ (e (n - 1) + 1) * 4294967296 ^ (n - 1) := by rw [Nat.add_mul, Nat.one_mul]; omega
        have a2 := Nat.mul_le_mul_right (2 ^ s) a1
        rw [Nat.mul_right_comm, Nat.add_mul, Nat.one_mul] at a2
        have a3 := Nat.mul_le_mul_right (4294967296 ^ (n - 1)) t4
        have a4 := pw_pos s
        rw [hBn]
        omega
      obtain ⟨V, hV⟩ : ∃ V, y * 2 ^ s = V := ⟨_, rfl⟩
      obtain ⟨X, hX⟩ : ∃ X, x * 2 ^ s = X := ⟨_, rfl⟩
      rw [hV] at hVlo hVhi hvv
      rw [hX] at hrv
      have hVX : V ≤ X := by rw [← hV, ← hX]; exact Nat.mul_le_mul_right _ hxy
      have hpos := Bp (n - 1)
      have hn' : n' = n := by
        have a1 := (norm_len (k := n) v5 hvn).mp (by rw [hvv]; exact hVhi)
        have a2 : ¬ n' ≤ n - 1 := fun q => by
          have := (norm_len (k := n - 1) v5 hvn).mpr q
          rw [hvv] at this
          omega
        omega
      subst hn'
      have hvs : V = val v (n' - 1) + v (n' - 1) * 4294967296 ^ (n' - 1) := by
        rw [← hvv, ← val_s, show n' - 1 + 1 = n' by omega]
      have hvl := val_lt v5 (n' - 1)
      have hvt : 2147483648 ≤ v (n' - 1) := by
        rcases Nat.lt_or_ge (v (n' - 1)) 2147483648 with q | q
        · exfalso
          have := Nat.mul_le_mul_right (4294967296 ^ (n' - 1)) (show v (n' - 1) + 1 ≤ 2147483648 from q)
          rw [Nat.add_mul, Nat.one_mul] at this
          omega
        · exact q
      have hmn : n' ≤ m := by
        have a2 : ¬ m ≤ n' - 1 := fun q => by
          have := (norm_len (k := n' - 1) s5 hrn).mpr q
          rw [hrv] at this
          omega
        omega
      have hm19 : m ≤ 19 := by
        refine (norm_len (k := 19) s5 hrn).mp ?_
        rw [hrv, ← hX, Bs]
        have a1 := Nat.mul_le_mul (Nat.le_of_lt hx) (Nat.pow_le_pow_right (n := 2) (by decide) hs31)
        have a2 := Bp 18
        have a3 : (2 : Nat) ^ 31 = 2147483648 := by decide
        rw [a3] at a1
        omega
      have hXm : X < 4294967296 ^ m := by rw [← hrv]; exact val_lt s5 m
      sorry
    · have hxy : x < y := by
        rcases Nat.lt_or_ge x y with q | q
        · exact q
        · exfalso
          rcases Nat.eq_or_lt_of_le q with h | h
          · rw [cmpN_eq h.symm] at c_27
            exact c_27 (by decide)
          · rw [cmpN_gt h] at c_27
            exact c_27 (by decide)
      refine z_vret hE hQ d_Dv_divide_30 rfl (Nat.le_refl _) (Nat.le_refl _) ⟨rfl, rfl, ?_, ?_, ⟨_, hB1⟩, hW2⟩
      · rw [Nat.div_eq_of_lt hxy]; exact hB3
      · rw [Nat.mod_eq_of_lt hxy]; exact hB5

