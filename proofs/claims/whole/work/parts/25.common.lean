/-! Reckoner.findCommon, divideInto -/
def RF (g : Gh) (R : Nat) : Prop := RE g R ∧ DV g (R + 6) ∧ (∃ v, NA g (R + 7) 20 v) ∧ (∃ v, NA g (R + 9) 20 v) ∧ (∃ v, NA g (R + 11) 20 v)
theorem RF_O {g g' : Gh} {R a N v : Nat} (h : RF g R) (ha : NA g a N v) (ho : gO g g' a) (h1 : a ≠ R + 7) (h2 : a ≠ R + 9) (h3 : a ≠ R + 11) : RF g' R := by
  obtain ⟨q1, q2, ⟨v7, q7⟩, ⟨v9, q9⟩, ⟨v11, q11⟩⟩ := h
  have z1 := NA_ne ha q1 (by decide)
  have z2 := NA_ne ha q2 (by decide)
  refine ⟨?_, ?_, ⟨v7, NA_o ha q7 (Ne.symm h1) ho⟩, ⟨v9, NA_o ha q9 (Ne.symm h2) ho⟩, ⟨v11, NA_o ha q11 (Ne.symm h3) ho⟩⟩
  · unfold RE; rw [ho R (Ne.symm z1.1) (Ne.symm z1.2)]; exact q1
  · unfold DV; rw [ho (R + 6) (Ne.symm z2.1) (Ne.symm z2.2)]; exact q2
theorem RF_W {g g' : Gh} {R lo hi : Nat} (h : RF g R) (hw : gW g g' lo hi) (h1 : R + 13 ≤ lo ∨ hi ≤ R) : RF g' R := by
  obtain ⟨q1, q2, ⟨v7, q7⟩, ⟨v9, q9⟩, ⟨v11, q11⟩⟩ := h
  refine ⟨?_, ?_, ⟨v7, NA_W q7 hw (by omega)⟩, ⟨v9, NA_W q9 hw (by omega)⟩, ⟨v11, NA_W q11 hw (by omega)⟩⟩
  · unfold RE; rw [hw R (by omega)]; exact q1
  · unfold DV; rw [hw (R + 6) (by omega)]; exact q2
theorem RF_D {g g' : Gh} {R x y : Nat} (h : RF g R) (h7 : ∃ w, NA g' (R + 6 + 1) 20 w) (h9 : NA g' (R + 6 + 3) 20 x) (h11 : NA g' (R + 6 + 5) 20 y) (hw : gW g g' (R + 6 + 1) (R + 6 + 7)) : RF g' R := by
  obtain ⟨q1, q2, -⟩ := h
  refine ⟨?_, ?_, h7, ⟨_, h9⟩, ⟨_, h11⟩⟩
  · unfold RE; rw [hw R (by omega)]; exact q1
  · unfold DV; rw [hw (R + 6) (by omega)]; exact q2
theorem d_Re_findCommon_0 : decode b_Re_findCommon 0 = .ok (.aload_n 1, 1) := by decide +kernel
theorem d_Re_findCommon_1 : decode b_Re_findCommon 1 = .ok (.aload_n 2, 1) := by decide +kernel
theorem d_Re_findCommon_2 : decode b_Re_findCommon 2 = .ok (.invokevirtual 91, 3) := by decide +kernel
theorem d_Re_findCommon_5 : decode b_Re_findCommon 5 = .ok (.ifCond .lt 7, 3) := by decide +kernel
theorem d_Re_findCommon_8 : decode b_Re_findCommon 8 = .ok (.iconst 1, 1) := by decide +kernel
theorem d_Re_findCommon_9 : decode b_Re_findCommon 9 = .ok (.goto 4, 3) := by decide +kernel
theorem d_Re_findCommon_12 : decode b_Re_findCommon 12 = .ok (.iconst 0, 1) := by decide +kernel
theorem d_Re_findCommon_13 : decode b_Re_findCommon 13 = .ok (.istore_n 3, 1) := by decide +kernel
theorem d_Re_findCommon_14 : decode b_Re_findCommon 14 = .ok (.aload_n 0, 1) := by decide +kernel
theorem d_Re_findCommon_15 : decode b_Re_findCommon 15 = .ok (.getfield 30, 3) := by decide +kernel
theorem d_Re_findCommon_18 : decode b_Re_findCommon 18 = .ok (.iload_n 3, 1) := by decide +kernel
theorem d_Re_findCommon_19 : decode b_Re_findCommon 19 = .ok (.ifCond .eq 7, 3) := by decide +kernel
theorem d_Re_findCommon_22 : decode b_Re_findCommon 22 = .ok (.aload_n 1, 1) := by decide +kernel
theorem d_Re_findCommon_23 : decode b_Re_findCommon 23 = .ok (.goto 4, 3) := by decide +kernel
theorem d_Re_findCommon_26 : decode b_Re_findCommon 26 = .ok (.aload_n 2, 1) := by decide +kernel
theorem d_Re_findCommon_27 : decode b_Re_findCommon 27 = .ok (.invokevirtual 84, 3) := by decide +kernel
theorem d_Re_findCommon_30 : decode b_Re_findCommon 30 = .ok (.aload_n 0, 1) := by decide +kernel
theorem d_Re_findCommon_31 : decode b_Re_findCommon 31 = .ok (.getfield 34, 3) := by decide +kernel
theorem d_Re_findCommon_34 : decode b_Re_findCommon 34 = .ok (.iload_n 3, 1) := by decide +kernel
theorem d_Re_findCommon_35 : decode b_Re_findCommon 35 = .ok (.ifCond .eq 7, 3) := by decide +kernel
theorem d_Re_findCommon_38 : decode b_Re_findCommon 38 = .ok (.aload_n 2, 1) := by decide +kernel
theorem d_Re_findCommon_39 : decode b_Re_findCommon 39 = .ok (.goto 4, 3) := by decide +kernel
theorem d_Re_findCommon_42 : decode b_Re_findCommon 42 = .ok (.aload_n 1, 1) := by decide +kernel
theorem d_Re_findCommon_43 : decode b_Re_findCommon 43 = .ok (.invokevirtual 84, 3) := by decide +kernel
theorem d_Re_findCommon_46 : decode b_Re_findCommon 46 = .ok (.iconst 0, 1) := by decide +kernel
theorem d_Re_findCommon_47 : decode b_Re_findCommon 47 = .ok (.istore 4, 2) := by decide +kernel
theorem d_Re_findCommon_49 : decode b_Re_findCommon 49 = .ok (.iload 4, 2) := by decide +kernel
theorem d_Re_findCommon_51 : decode b_Re_findCommon 51 = .ok (.ldc 142, 2) := by decide +kernel
theorem d_Re_findCommon_53 : decode b_Re_findCommon 53 = .ok (.if_icmp .ge 104, 3) := by decide +kernel
theorem d_Re_findCommon_56 : decode b_Re_findCommon 56 = .ok (.aload_n 0, 1) := by decide +kernel
theorem d_Re_findCommon_57 : decode b_Re_findCommon 57 = .ok (.getfield 34, 3) := by decide +kernel
theorem d_Re_findCommon_60 : decode b_Re_findCommon 60 = .ok (.invokevirtual 119, 3) := by decide +kernel
theorem d_Re_findCommon_63 : decode b_Re_findCommon 63 = .ok (.ifCond .ne 94, 3) := by decide +kernel
theorem d_Re_findCommon_66 : decode b_Re_findCommon 66 = .ok (.aload_n 0, 1) := by decide +kernel
theorem d_Re_findCommon_67 : decode b_Re_findCommon 67 = .ok (.getfield 30, 3) := by decide +kernel
theorem d_Re_findCommon_70 : decode b_Re_findCommon 70 = .ok (.invokestatic 143, 3) := by decide +kernel
theorem d_Re_findCommon_73 : decode b_Re_findCommon 73 = .ok (.ifCond .eq 28, 3) := by decide +kernel
theorem d_Re_findCommon_76 : decode b_Re_findCommon 76 = .ok (.aload_n 0, 1) := by decide +kernel
theorem d_Re_findCommon_77 : decode b_Re_findCommon 77 = .ok (.getfield 30, 3) := by decide +kernel
theorem d_Re_findCommon_80 : decode b_Re_findCommon 80 = .ok (.aload_n 0, 1) := by decide +kernel
theorem d_Re_findCommon_81 : decode b_Re_findCommon 81 = .ok (.getfield 30, 3) := by decide +kernel
theorem d_Re_findCommon_84 : decode b_Re_findCommon 84 = .ok (.invokevirtual 147, 3) := by decide +kernel
theorem d_Re_findCommon_87 : decode b_Re_findCommon 87 = .ok (.aload_n 0, 1) := by decide +kernel
theorem d_Re_findCommon_88 : decode b_Re_findCommon 88 = .ok (.getfield 34, 3) := by decide +kernel
theorem d_Re_findCommon_91 : decode b_Re_findCommon 91 = .ok (.invokevirtual 147, 3) := by decide +kernel
theorem d_Re_findCommon_94 : decode b_Re_findCommon 94 = .ok (.invokestatic 151, 3) := by decide +kernel
theorem d_Re_findCommon_97 : decode b_Re_findCommon 97 = .ok (.invokevirtual 59, 3) := by decide +kernel
theorem d_Re_findCommon_100 : decode b_Re_findCommon 100 = .ok (.return_, 1) := by decide +kernel
theorem d_Re_findCommon_101 : decode b_Re_findCommon 101 = .ok (.aload_n 0, 1) := by decide +kernel
theorem d_Re_findCommon_102 : decode b_Re_findCommon 102 = .ok (.invokevirtual 155, 3) := by decide +kernel
theorem d_Re_findCommon_105 : decode b_Re_findCommon 105 = .ok (.ifCond .eq 6, 3) := by decide +kernel
theorem d_Re_findCommon_108 : decode b_Re_findCommon 108 = .ok (.goto 43, 3) := by decide +kernel
theorem d_Re_findCommon_111 : decode b_Re_findCommon 111 = .ok (.aload_n 0, 1) := by decide +kernel
theorem d_Re_findCommon_112 : decode b_Re_findCommon 112 = .ok (.getfield 23, 3) := by decide +kernel
theorem d_Re_findCommon_115 : decode b_Re_findCommon 115 = .ok (.aload_n 0, 1) := by decide +kernel
theorem d_Re_findCommon_116 : decode b_Re_findCommon 116 = .ok (.getfield 30, 3) := by decide +kernel
theorem d_Re_findCommon_119 : decode b_Re_findCommon 119 = .ok (.aload_n 0, 1) := by decide +kernel
theorem d_Re_findCommon_120 : decode b_Re_findCommon 120 = .ok (.getfield 34, 3) := by decide +kernel
theorem d_Re_findCommon_123 : decode b_Re_findCommon 123 = .ok (.invokevirtual 158, 3) := by decide +kernel
theorem d_Re_findCommon_126 : decode b_Re_findCommon 126 = .ok (.aload_n 0, 1) := by decide +kernel
theorem d_Re_findCommon_127 : decode b_Re_findCommon 127 = .ok (.getfield 30, 3) := by decide +kernel
theorem d_Re_findCommon_130 : decode b_Re_findCommon 130 = .ok (.aload_n 0, 1) := by decide +kernel
theorem d_Re_findCommon_131 : decode b_Re_findCommon 131 = .ok (.getfield 34, 3) := by decide +kernel
theorem d_Re_findCommon_134 : decode b_Re_findCommon 134 = .ok (.invokevirtual 84, 3) := by decide +kernel
theorem d_Re_findCommon_137 : decode b_Re_findCommon 137 = .ok (.aload_n 0, 1) := by decide +kernel
theorem d_Re_findCommon_138 : decode b_Re_findCommon 138 = .ok (.getfield 34, 3) := by decide +kernel
theorem d_Re_findCommon_141 : decode b_Re_findCommon 141 = .ok (.aload_n 0, 1) := by decide +kernel
theorem d_Re_findCommon_142 : decode b_Re_findCommon 142 = .ok (.getfield 23, 3) := by decide +kernel
theorem d_Re_findCommon_145 : decode b_Re_findCommon 145 = .ok (.getfield 161, 3) := by decide +kernel
theorem d_Re_findCommon_148 : decode b_Re_findCommon 148 = .ok (.invokevirtual 84, 3) := by decide +kernel
theorem d_Re_findCommon_151 : decode b_Re_findCommon 151 = .ok (.iinc 4 1, 3) := by decide +kernel
theorem d_Re_findCommon_154 : decode b_Re_findCommon 154 = .ok (.goto (-105), 3) := by decide +kernel
theorem d_Re_findCommon_157 : decode b_Re_findCommon 157 = .ok (.return_, 1) := by decide +kernel
theorem d_Re_divideInto_0 : decode b_Re_divideInto 0 = .ok (.aload_n 2, 1) := by decide +kernel
theorem d_Re_divideInto_1 : decode b_Re_divideInto 1 = .ok (.invokevirtual 191, 3) := by decide +kernel
theorem d_Re_divideInto_4 : decode b_Re_divideInto 4 = .ok (.ifCond .eq 9, 3) := by decide +kernel
theorem d_Re_divideInto_7 : decode b_Re_divideInto 7 = .ok (.aload_n 3, 1) := by decide +kernel
theorem d_Re_divideInto_8 : decode b_Re_divideInto 8 = .ok (.aload_n 1, 1) := by decide +kernel
theorem d_Re_divideInto_9 : decode b_Re_divideInto 9 = .ok (.invokevirtual 84, 3) := by decide +kernel
theorem d_Re_divideInto_12 : decode b_Re_divideInto 12 = .ok (.return_, 1) := by decide +kernel
theorem d_Re_divideInto_13 : decode b_Re_divideInto 13 = .ok (.aload_n 0, 1) := by decide +kernel
theorem d_Re_divideInto_14 : decode b_Re_divideInto 14 = .ok (.getfield 23, 3) := by decide +kernel
theorem d_Re_divideInto_17 : decode b_Re_divideInto 17 = .ok (.aload_n 1, 1) := by decide +kernel
theorem d_Re_divideInto_18 : decode b_Re_divideInto 18 = .ok (.aload_n 2, 1) := by decide +kernel
theorem d_Re_divideInto_19 : decode b_Re_divideInto 19 = .ok (.invokevirtual 158, 3) := by decide +kernel
theorem d_Re_divideInto_22 : decode b_Re_divideInto 22 = .ok (.aload_n 3, 1) := by decide +kernel
theorem d_Re_divideInto_23 : decode b_Re_divideInto 23 = .ok (.aload_n 0, 1) := by decide +kernel
theorem d_Re_divideInto_24 : decode b_Re_divideInto 24 = .ok (.getfield 23, 3) := by decide +kernel
theorem d_Re_divideInto_27 : decode b_Re_divideInto 27 = .ok (.getfield 194, 3) := by decide +kernel
theorem d_Re_divideInto_30 : decode b_Re_divideInto 30 = .ok (.invokevirtual 84, 3) := by decide +kernel
theorem d_Re_divideInto_33 : decode b_Re_divideInto 33 = .ok (.return_, 1) := by decide +kernel
theorem c_Re_divideInto (l : Launch) {g : Gh} (nx : Nat) {R b c r M K x y z : Nat} (hF : RF g R) (hb : NA g b M x) (hc : NA g c K y) (hr : NA g r 20 z) (hbo : b < R + 6 ∨ R + 13 ≤ b) (hco : c < R + 6 ∨ R + 13 ≤ c) (hro : r < R + 6 ∨ R + 13 ≤ r) (hbr : b ≠ r) (hx : x < 4294967296 ^ 18) (hy : y ≠ 0) : Ct l m_Re_divideInto 0 0 [.ref R, .ref b, .ref c, .ref r] g nx (fun v g' nx' => v = none ∧ nx = nx' ∧ NA g' r 20 (x / y) ∧ RF g' R ∧ ∃ g1, gW g g1 (R + 7) (R + 13) ∧ gO g1 g' r) := by
  obtain ⟨q1, q2, q7, q9, q11⟩ := id hF
  have q1' := q1
  unfold RE at q1'
  obtain ⟨_, _, ⟨hc1, -⟩, -⟩ := id hc
  obtain ⟨_, _, hrR, -⟩ := id hr
  have hr1 := hrR.1
  have p20 := pw_ge (show 18 ≤ 20 by decide)
  have zr := NA_ne hr q2 (by decide)
  refine Ct.of (by decide) (Nat.le_of_ble_eq_true rfl) (fun E hE hQ => ?_)
  refine z_aload_n hE d_Re_divideInto_0 rfl ?_
  refine z_callV hE d_Re_divideInto_1 cl_Re_191 (c_Na_isOne l nx hc) (by assumption) cb_Na rfl (Nat.le_of_ble_eq_true rfl) ⟨by decide, by decide⟩ ⟨by omega, by omega⟩ (fun r_1 g_1 nx_1 hp_1 => ?_) rfl
  obtain ⟨rfl, rfl, rfl⟩ := hp_1
  try dsimp only [Option.toList, List.nil_append, List.cons_append]
  by_cases hy1 : y = 1
  · rw [if_pos hy1]
    refine z_if_eq (tgt := 13) hE d_Re_divideInto_4 (by decide) (fun c_4 => ?_) (fun c_4 => ?_)
    · exact absurd c_4 (by decide)
    · refine z_aload_n hE d_Re_divideInto_7 rfl ?_
      refine z_aload_n hE d_Re_divideInto_8 rfl ?_
      refine z_callV hE d_Re_divideInto_9 cl_Re_84 (c_Na_become l nx hrR hb hbr (by omega)) (by assumption) cb_Na rfl (Nat.le_of_ble_eq_true rfl) ⟨by decide, by decide⟩ ⟨by omega, by omega⟩ (fun r_1 g_1 nx_1 hp_1 => ?_) rfl
      try dsimp only [Option.toList, List.nil_append, List.cons_append]
      obtain ⟨rfl, rfl, hA, hO⟩ := hp_1
      try dsimp only [Option.toList, List.nil_append, List.cons_append]
      refine z_vret hE hQ d_Re_divideInto_12 rfl (Nat.le_refl _) (Nat.le_refl _) ⟨rfl, rfl, ?_, RF_O hF hr hO (by omega) (by omega) (by omega), g, gW_r, hO⟩
      rw [hy1, Nat.div_one]; exact hA
  · rw [if_neg hy1]
    refine z_if_eq (tgt := 13) hE d_Re_divideInto_4 (by decide) (fun c_4 => ?_) (fun c_4 => ?_)
    · have q2' := q2
      unfold DV at q2'
      refine z_aload_n hE d_Re_divideInto_13 rfl ?_
      refine z_get hE d_Re_divideInto_14 fl_Re_23 (by assumption) rfl ?_
      refine z_aload_n hE d_Re_divideInto_17 rfl ?_
      refine z_aload_n hE d_Re_divideInto_18 rfl ?_
      refine z_callV hE d_Re_divideInto_19 cl_Re_158 (c_Dv_divide l nx q2 q7 q9 q11 hb hc (by omega) (by omega) hx hy) (by assumption) cb_Dv rfl (Nat.le_of_ble_eq_true rfl) ⟨by decide, by decide⟩ ⟨by omega, by omega⟩ (fun r_1 g_1 nx_1 hp_1 => ?_) rfl
      try dsimp only [Option.toList, List.nil_append, List.cons_append]
      obtain ⟨rfl, rfl, hA9, hA11, hA7, hW1⟩ := hp_1
      try dsimp only [Option.toList, List.nil_append, List.cons_append]
      have hF1 := RF_D hF hA7 hA9 hA11 hW1
      obtain ⟨k1, k2, -⟩ := id hF1
      have k1' := k1
      have k2' := k2
      unfold RE at k1'
      unfold DV at k2'
      have hr2 := NA_W hr hW1 (by omega)
      obtain ⟨_, _, hrR2, -⟩ := id hr2
      have hr21 := hrR2.1
      have hxy : x / y ≤ x := Nat.div_le_self _ _
      refine z_aload_n hE d_Re_divideInto_22 rfl ?_
      refine z_aload_n hE d_Re_divideInto_23 rfl ?_
      refine z_get hE d_Re_divideInto_24 fl_Re_23 (by assumption) rfl ?_
      refine z_getN hE d_Re_divideInto_27 fl_Re_194 (by assumption) rfl ?_
      refine z_callV hE d_Re_divideInto_30 cl_Re_84 (c_Na_become l nx hrR2 hA9 (by omega) (by omega)) (by assumption) cb_Na rfl (Nat.le_of_ble_eq_true rfl) ⟨by decide, by decide⟩ ⟨by omega, by omega⟩ (fun r_2 g_2 nx_2 hp_2 => ?_) rfl
      try dsimp only [Option.toList, List.nil_append, List.cons_append]
      obtain ⟨rfl, rfl, hB, hO⟩ := hp_2
      try dsimp only [Option.toList, List.nil_append, List.cons_append]
      exact z_vret hE hQ d_Re_divideInto_33 rfl (Nat.le_refl _) (Nat.le_refl _) ⟨rfl, rfl, hB, RF_O hF1 hr2 hO (by omega) (by omega) (by omega), g_1, hW1, hO⟩
    · exact absurd rfl c_4
set_option maxHeartbeats 1000000 in
theorem c_Re_findCommon (l : Launch) {g : Gh} (nx : Nat) {R b c M K x y : Nat} (hF : RF g R) (h13 : ∃ v, NA g (R + 13) 20 v) (h15 : ∃ v, NA g (R + 15) 20 v) (hb : NA g b M x) (hc : NA g c K y) (hbo : b < R + 6 ∨ R + 17 ≤ b) (hco : c < R + 6 ∨ R + 17 ≤ c) (hx : x < 4294967296 ^ 18) (hy : y < 4294967296 ^ 18) : Ct l m_Re_findCommon 0 0 [.ref R, .ref b, .ref c] g nx (fun v g' nx' => v = none ∧ nx = nx' ∧ NA g' (R + 13) 20 (Nat.gcd x y) ∧ (∃ v, NA g' (R + 15) 20 v) ∧ RF g' R ∧ gW g g' (R + 7) (R + 17)) := by
  obtain ⟨v13, h13⟩ := h13
  obtain ⟨v15, h15⟩ := h15
  obtain ⟨q1, q2, q7, q9, q11⟩ := id hF
  have q1' := q1
  unfold RE at q1'
  obtain ⟨_, _, ⟨hb1, -⟩, -⟩ := id hb
  obtain ⟨_, _, ⟨hc1, -⟩, -⟩ := id hc
  obtain ⟨_, _, hR13, -⟩ := id h13
  have h131 := hR13.1
  have p20 := pw_ge (show 18 ≤ 20 by decide)
  refine Ct.of (by decide) (Nat.le_of_ble_eq_true rfl) (fun E hE hQ => ?_)
  have loop : ∀ (t i u w : Nat) (gL : Gh), i + t = 1300 → RF gL R → NA gL (R + 13) 20 u → NA gL (R + 15) 20 w → w ≤ u → u < 4294967296 ^ 18 → Nat.gcd u w = Nat.gcd x y → u * w < 2 ^ t → gW g gL (R + 7) (R + 17) → ∀ lv, lG lv 0 = some (.ref R) → lG lv 4 = some (.int (nI i)) → zJ E gL nx 0 0 49 lv [] := by
    intro t
    induction t with
    | zero =>
      intro i u w gL hi hFL h13 h15 hwu hu hg hp hW lv l0 l4
      refine z_sub (lv' := [(0, .ref R), (4, .int (nI i))]) (by simp only [List.map, l0, l4]) ?_
      have hw0 : w = 0 := by
        rcases Nat.eq_zero_or_pos w with z | z
        · exact z
        · have := Nat.mul_le_mul (Nat.le_trans z hwu) z
          rw [Nat.pow_zero] at hp
          omega
      subst hw0
      obtain ⟨k1, k2, -⟩ := id hFL
      unfold RE at k1
      obtain ⟨_, _, ⟨h151, -⟩, -⟩ := id h15
      refine z_iload hE d_Re_findCommon_49 rfl ?_
      refine z_ldc hE d_Re_findCommon_51 cn_Re_142 ?_
      refine z_icmp_ge (tgt := 157) hE d_Re_findCommon_53 (by decide) (fun c_53 => ?_) (fun c_53 => ?_)
      · rw [show (1000000 : Int32) = nI 1000000 from rfl, nI_LE (by omega) (by omega)] at c_53
        omega
      · refine z_aload_n hE d_Re_findCommon_56 rfl ?_
        refine z_get hE d_Re_findCommon_57 fl_Re_34 (by assumption) rfl ?_
        refine z_callV hE d_Re_findCommon_60 cl_Re_119 (c_Na_isZero l nx h15) (by assumption) cb_Na rfl (Nat.le_of_ble_eq_true rfl) ⟨by decide, by decide⟩ ⟨by omega, by omega⟩ (fun r_60 g_60 nx_60 hp_60 => ?_) rfl
        obtain ⟨rfl, rfl, rfl⟩ := hp_60
        try dsimp only [Option.toList, List.nil_append, List.cons_append]
        rw [if_pos rfl]
        refine z_if_ne (tgt := 157) hE d_Re_findCommon_63 (by decide) (fun c_63 => ?_) (fun c_63 => ?_)
        · refine z_vret hE hQ d_Re_findCommon_157 rfl (Nat.le_refl _) (Nat.le_refl _) ⟨rfl, rfl, ?_, ⟨_, h15⟩, hFL, hW⟩
          rw [← hg, Nat.gcd_zero_right]; exact h13
        · exact absurd c_63 (by decide)
    | succ t ih =>
      intro i u w gL hi hFL h13 h15 hwu hu hg hp hW lv l0 l4
      refine z_sub (lv' := [(0, .ref R), (4, .int (nI i))]) (by simp only [List.map, l0, l4]) ?_
      obtain ⟨k1, k2, k7, k9, k11⟩ := id hFL
      have k1' := k1
      unfold RE at k1'
      obtain ⟨_, _, hR13, -⟩ := id h13
      obtain ⟨_, _, hR15, -⟩ := id h15
      have h131 := hR13.1
      have h151 := hR15.1
      rw [Nat.pow_succ, Nat.mul_comm (2 ^ t)] at hp
      refine z_iload hE d_Re_findCommon_49 rfl ?_
      refine z_ldc hE d_Re_findCommon_51 cn_Re_142 ?_
      refine z_icmp_ge (tgt := 157) hE d_Re_findCommon_53 (by decide) (fun c_53 => ?_) (fun c_53 => ?_)
      · rw [show (1000000 : Int32) = nI 1000000 from rfl, nI_LE (by omega) (by omega)] at c_53
        omega
      · refine z_aload_n hE d_Re_findCommon_56 rfl ?_
        refine z_get hE d_Re_findCommon_57 fl_Re_34 (by assumption) rfl ?_
        refine z_callV hE d_Re_findCommon_60 cl_Re_119 (c_Na_isZero l nx h15) (by assumption) cb_Na rfl (Nat.le_of_ble_eq_true rfl) ⟨by decide, by decide⟩ ⟨by omega, by omega⟩ (fun r_60 g_60 nx_60 hp_60 => ?_) rfl
        obtain ⟨rfl, rfl, rfl⟩ := hp_60
        try dsimp only [Option.toList, List.nil_append, List.cons_append]
        by_cases hw0 : w = 0
        · rw [if_pos hw0]
          refine z_if_ne (tgt := 157) hE d_Re_findCommon_63 (by decide) (fun c_63 => ?_) (fun c_63 => ?_)
          · refine z_vret hE hQ d_Re_findCommon_157 rfl (Nat.le_refl _) (Nat.le_refl _) ⟨rfl, rfl, ?_, ⟨_, h15⟩, hFL, hW⟩
            rw [← hg, hw0, Nat.gcd_zero_right]; exact h13
          · exact absurd c_63 (by decide)
        · rw [if_neg hw0]
          refine z_if_ne (tgt := 157) hE d_Re_findCommon_63 (by decide) (fun c_63 => ?_) (fun c_63 => ?_)
          · exact absurd rfl c_63
          · refine z_aload_n hE d_Re_findCommon_66 rfl ?_
            refine z_get hE d_Re_findCommon_67 fl_Re_30 (by assumption) rfl ?_
            refine z_callS hE d_Re_findCommon_70 cl_Re_143 (c_Re_isShort l nx h13) rfl (Nat.le_of_ble_eq_true rfl) ⟨by decide, by decide⟩ ⟨by omega, by omega⟩ (fun r_70 g_70 nx_70 hp_70 => ?_) rfl
            obtain ⟨rfl, rfl, rfl⟩ := hp_70
            try dsimp only [Option.toList, List.nil_append, List.cons_append]
            by_cases hsh : u < 9223372036854775808
            · rw [if_pos hsh]
              refine z_if_eq (tgt := 101) hE d_Re_findCommon_73 (by decide) (fun c_73 => ?_) (fun c_73 => ?_)
              · exact absurd c_73 (by decide)
              · refine z_aload_n hE d_Re_findCommon_76 rfl ?_
                refine z_get hE d_Re_findCommon_77 fl_Re_30 (by assumption) rfl ?_
                refine z_aload_n hE d_Re_findCommon_80 rfl ?_
                refine z_get hE d_Re_findCommon_81 fl_Re_30 (by assumption) rfl ?_
                refine z_callV hE d_Re_findCommon_84 cl_Re_147 (c_Na_lowLong l nx h13) (by assumption) cb_Na rfl (Nat.le_of_ble_eq_true rfl) ⟨by decide, by decide⟩ ⟨by omega, by omega⟩ (fun r_84 g_84 nx_84 hp_84 => ?_) rfl
                obtain ⟨rfl, rfl, rfl⟩ := hp_84
                try dsimp only [Option.toList, List.nil_append, List.cons_append]
                rw [Nat.mod_eq_of_lt (show u < 18446744073709551616 by omega)]
                refine z_aload_n hE d_Re_findCommon_87 rfl ?_
                refine z_get hE d_Re_findCommon_88 fl_Re_34 (by assumption) rfl ?_
                refine z_callV hE d_Re_findCommon_91 cl_Re_147 (c_Na_lowLong l nx h15) (by assumption) cb_Na rfl (Nat.le_of_ble_eq_true rfl) ⟨by decide, by decide⟩ ⟨by omega, by omega⟩ (fun r_91 g_91 nx_91 hp_91 => ?_) rfl
                obtain ⟨rfl, rfl, rfl⟩ := hp_91
                try dsimp only [Option.toList, List.nil_append, List.cons_append]
                rw [Nat.mod_eq_of_lt (show w < 18446744073709551616 by omega)]
                refine z_callS hE d_Re_findCommon_94 cl_Re_151 (c_Re_commonOfLongs l gL nx u w hsh hwu) rfl (Nat.le_of_ble_eq_true rfl) ⟨by decide, by decide⟩ ⟨by omega, by omega⟩ (fun r_94 g_94 nx_94 hp_94 => ?_) rfl
                obtain ⟨rfl, rfl, rfl⟩ := hp_94
                try dsimp only [Option.toList, List.nil_append, List.cons_append]
                have hgl : Nat.gcd u w ≤ w := Nat.gcd_le_right _ (by omega)
                refine z_callV hE d_Re_findCommon_97 cl_Re_59 (c_Na_becomeLong l nx hR13 (Nat.gcd u w) (by omega)) (by assumption) cb_Na rfl (Nat.le_of_ble_eq_true rfl) ⟨by decide, by decide⟩ ⟨by omega, by omega⟩ (fun r_1 g_1 nx_1 hp_1 => ?_) rfl
                try dsimp only [Option.toList, List.nil_append, List.cons_append]
                obtain ⟨rfl, rfl, hA, hO⟩ := hp_1
                try dsimp only [Option.toList, List.nil_append, List.cons_append]
                refine z_vret hE hQ d_Re_findCommon_100 rfl (Nat.le_refl _) (Nat.le_refl _) ⟨rfl, rfl, ?_, ⟨_, NA_o h13 h15 (by omega) hO⟩, RF_O hFL h13 hO (by omega) (by omega) (by omega), gW_t hW (gW_O hO (by omega) (by omega))⟩
                rw [← hg]; exact hA
            · rw [if_neg hsh]
              refine z_if_eq (tgt := 101) hE d_Re_findCommon_73 (by decide) (fun c_73 => ?_) (fun c_73 => ?_)
              · refine z_aload_n hE d_Re_findCommon_101 rfl ?_
                refine z_callV hE d_Re_findCommon_102 cl_Re_155 (c_Re_leap l nx k1 h13 h15 hwu (by omega)) (by assumption) cb_Re rfl (Nat.le_of_ble_eq_true rfl) ⟨by decide, by decide⟩ ⟨by omega, by omega⟩ (fun r_1 g_1 nx_1 hp_1 => ?_) rfl
                try dsimp only [Option.toList, List.nil_append, List.cons_append]
                obtain ⟨rfl, ⟨rfl, rfl⟩ | ⟨rfl, U, V, hA, hB, hW1, hVU, hg1, hp1, hUu⟩⟩ := hp_1
                · try dsimp only [Option.toList, List.nil_append, List.cons_append]
                  refine z_if_eq (tgt := 111) hE d_Re_findCommon_105 (by decide) (fun c_105 => ?_) (fun c_105 => ?_)
                  · have k2' := k2
                    unfold DV at k2'
                    refine z_aload_n hE d_Re_findCommon_111 rfl ?_
                    refine z_get hE d_Re_findCommon_112 fl_Re_23 (by assumption) rfl ?_
                    refine z_aload_n hE d_Re_findCommon_115 rfl ?_
                    refine z_get hE d_Re_findCommon_116 fl_Re_30 (by assumption) rfl ?_
                    refine z_aload_n hE d_Re_findCommon_119 rfl ?_
                    refine z_get hE d_Re_findCommon_120 fl_Re_34 (by assumption) rfl ?_
                    refine z_callV hE d_Re_findCommon_123 cl_Re_158 (c_Dv_divide l nx k2 k7 k9 k11 h13 h15 (by omega) (by omega) hu hw0) (by assumption) cb_Dv rfl (Nat.le_of_ble_eq_true rfl) ⟨by decide, by decide⟩ ⟨by omega, by omega⟩ (fun r_2 g_2 nx_2 hp_2 => ?_) rfl
                    try dsimp only [Option.toList, List.nil_append, List.cons_append]
                    obtain ⟨rfl, rfl, hA9, hA11, hA7, hW2⟩ := hp_2
                    try dsimp only [Option.toList, List.nil_append, List.cons_append]
                    have hF2 := RF_D hFL hA7 hA9 hA11 hW2
                    have h13b := NA_W h13 hW2 (by omega)
                    have h15b := NA_W h15 hW2 (by omega)
                    have m1 := hF2.1
                    unfold RE at m1
                    obtain ⟨_, _, hR13b, -⟩ := id h13b
                    have h13b1 := hR13b.1
                    refine z_aload_n hE d_Re_findCommon_126 rfl ?_
                    refine z_get hE d_Re_findCommon_127 fl_Re_30 (by assumption) rfl ?_
                    refine z_aload_n hE d_Re_findCommon_130 rfl ?_
                    refine z_get hE d_Re_findCommon_131 fl_Re_34 (by assumption) rfl ?_
                    refine z_callV hE d_Re_findCommon_134 cl_Re_84 (c_Na_become l nx hR13b h15b (by omega) (by omega)) (by assumption) cb_Na rfl (Nat.le_of_ble_eq_true rfl) ⟨by decide, by decide⟩ ⟨by omega, by omega⟩ (fun r_3 g_3 nx_3 hp_3 => ?_) rfl
                    try dsimp only [Option.toList, List.nil_append, List.cons_append]
                    obtain ⟨rfl, rfl, hC13, hO3⟩ := hp_3
                    try dsimp only [Option.toList, List.nil_append, List.cons_append]
                    have hF3 := RF_O hF2 h13b hO3 (by omega) (by omega) (by omega)
                    have h15c := NA_o h13b h15b (by omega) hO3
                    have h11c := NA_o h13b hA11 (by omega) hO3
                    obtain ⟨n1, n2, -⟩ := id hF3
                    unfold RE at n1
                    unfold DV at n2
                    obtain ⟨_, _, hR15c, -⟩ := id h15c
                    have h15c1 := hR15c.1
                    have hml := Nat.mod_lt u (show w > 0 by omega)
                    refine z_aload_n hE d_Re_findCommon_137 rfl ?_
                    refine z_get hE d_Re_findCommon_138 fl_Re_34 (by assumption) rfl ?_
                    refine z_aload_n hE d_Re_findCommon_141 rfl ?_
                    refine z_get hE d_Re_findCommon_142 fl_Re_23 (by assumption) rfl ?_
                    refine z_getN hE d_Re_findCommon_145 fl_Re_161 (by assumption) rfl ?_
                    refine z_callV hE d_Re_findCommon_148 cl_Re_84 (c_Na_become l nx hR15c h11c (by omega) (by omega)) (by assumption) cb_Na rfl (Nat.le_of_ble_eq_true rfl) ⟨by decide, by decide⟩ ⟨by omega, by omega⟩ (fun r_4 g_4 nx_4 hp_4 => ?_) rfl
                    try dsimp only [Option.toList, List.nil_append, List.cons_append]
                    obtain ⟨rfl, rfl, hC15, hO4⟩ := hp_4
                    try dsimp only [Option.toList, List.nil_append, List.cons_append]
                    have hF4 := RF_O hF3 h15c hO4 (by omega) (by omega) (by omega)
                    have h13d := NA_o h15c hC13 (by omega) hO4
                    refine z_iinc (v := nI (i + 1)) hE d_Re_findCommon_151 rfl (nI_1 i) (by decide) ?_
                    refine z_goto (tgt := 49) hE d_Re_findCommon_154 (by decide) ?_
                    refine ih (i + 1) w (u % w) _ (by omega) hF4 h13d hC15 (by omega) (by omega) (by rw [gcd_mod', hg]) (half_mul hwu (by omega) hp) (gW_t hW (gW_t (gW_le hW2 (by omega) (by omega)) (gW_t (gW_O hO3 (by omega) (by omega)) (gW_O hO4 (by omega) (by omega))))) _ rfl rfl
                  · exact absurd rfl c_105
                · try dsimp only [Option.toList, List.nil_append, List.cons_append]
                  refine z_if_eq (tgt := 111) hE d_Re_findCommon_105 (by decide) (fun c_105 => ?_) (fun c_105 => ?_)
                  · exact absurd c_105 (by decide)
                  · refine z_goto (tgt := 151) hE d_Re_findCommon_108 (by decide) ?_
                    refine z_iinc (v := nI (i + 1)) hE d_Re_findCommon_151 rfl (nI_1 i) (by decide) ?_
                    refine z_goto (tgt := 49) hE d_Re_findCommon_154 (by decide) ?_
                    exact ih (i + 1) U V _ (by omega) (RF_W hFL hW1 (by omega)) hA hB (by omega) (by omega) (by rw [hg1, hg]) (by omega) (gW_t hW (gW_le hW1 (by omega) (by omega))) _ rfl rfl
              · exact absurd rfl c_73
  -- the greater into shared, the lesser into divided
  have p36 : ∀ X Y : Nat, X < 4294967296 ^ 18 → Y ≤ X → X * Y < 2 ^ 1300 := by
    intro X Y h1 h2
    have h3 := Nat.mul_le_mul (Nat.le_of_lt h1) (Nat.le_of_lt (Nat.lt_of_le_of_lt h2 h1))
    have h4 : (4294967296 : Nat) ^ 18 * 4294967296 ^ 18 = 2 ^ 1152 := by
      rw [← Nat.pow_add, show (4294967296 : Nat) = 2 ^ 32 from rfl, ← Nat.pow_mul]
    rw [h4] at h3
    exact Nat.lt_of_le_of_lt h3 (Nat.pow_lt_pow_right (by decide) (by decide))
  refine z_aload_n hE d_Re_findCommon_0 rfl ?_
  refine z_aload_n hE d_Re_findCommon_1 rfl ?_
  refine z_callV hE d_Re_findCommon_2 cl_Re_91 (c_Na_compareWith l nx hb hc) (by assumption) cb_Na rfl (Nat.le_of_ble_eq_true rfl) ⟨by decide, by decide⟩ ⟨by omega, by omega⟩ (fun r_2 g_2 nx_2 hp_2 => ?_) rfl
  obtain ⟨rfl, rfl, rfl⟩ := hp_2
  try dsimp only [Option.toList, List.nil_append, List.cons_append]
  refine z_if_lt (tgt := 12) hE d_Re_findCommon_5 (by decide) (fun c_5 => ?_) (fun c_5 => ?_)
  · have hxy : x < y := by
      rcases Nat.lt_trichotomy x y with z | z | z
      · exact z
      · rw [cmpN_eq z] at c_5; exact absurd c_5 (by decide)
      · rw [cmpN_gt z] at c_5; exact absurd c_5 (by decide)
    refine z_iconst (v := 0) hE d_Re_findCommon_12 (by decide) ?_
    refine z_istore_n hE d_Re_findCommon_13 rfl (by decide) ?_
    refine z_aload_n hE d_Re_findCommon_14 rfl ?_
    refine z_get hE d_Re_findCommon_15 fl_Re_30 (by assumption) rfl ?_
    refine z_iload_n hE d_Re_findCommon_18 rfl ?_
    refine z_if_eq (tgt := 26) hE d_Re_findCommon_19 (by decide) (fun c_19 => ?_) (fun c_19 => ?_)
    · refine z_aload_n hE d_Re_findCommon_26 rfl ?_
      refine z_callV hE d_Re_findCommon_27 cl_Re_84 (c_Na_become l nx hR13 hc (by omega) (by omega)) (by assumption) cb_Na rfl (Nat.le_of_ble_eq_true rfl) ⟨by decide, by decide⟩ ⟨by omega, by omega⟩ (fun r_1 g_1 nx_1 hp_1 => ?_) rfl
      try dsimp only [Option.toList, List.nil_append, List.cons_append]
      obtain ⟨rfl, rfl, hA, hO1⟩ := hp_1
      try dsimp only [Option.toList, List.nil_append, List.cons_append]
      have hF1 := RF_O hF h13 hO1 (by omega) (by omega) (by omega)
      have h15a := NA_o h13 h15 (by omega) hO1
      have hba := NA_o h13 hb (by omega) hO1
      obtain ⟨_, _, hR15, -⟩ := id h15a
      have h151 := hR15.1
      have m1 := hF1.1
      unfold RE at m1
      refine z_aload_n hE d_Re_findCommon_30 rfl ?_
      refine z_get hE d_Re_findCommon_31 fl_Re_34 (by assumption) rfl ?_
      refine z_iload_n hE d_Re_findCommon_34 rfl ?_
      refine z_if_eq (tgt := 42) hE d_Re_findCommon_35 (by decide) (fun c_35 => ?_) (fun c_35 => ?_)
      · refine z_aload_n hE d_Re_findCommon_42 rfl ?_
        refine z_callV hE d_Re_findCommon_43 cl_Re_84 (c_Na_become l nx hR15 hba (by omega) (by omega)) (by assumption) cb_Na rfl (Nat.le_of_ble_eq_true rfl) ⟨by decide, by decide⟩ ⟨by omega, by omega⟩ (fun r_2 g_2 nx_2 hp_2 => ?_) rfl
        try dsimp only [Option.toList, List.nil_append, List.cons_append]
        obtain ⟨rfl, rfl, hB, hO2⟩ := hp_2
        try dsimp only [Option.toList, List.nil_append, List.cons_append]
        refine z_iconst (v := nI 0) hE d_Re_findCommon_46 (by decide) ?_
        refine z_istore hE d_Re_findCommon_47 (by decide) ?_
        exact loop 1300 0 y x _ (by omega) (RF_O hF1 h15a hO2 (by omega) (by omega) (by omega)) (NA_o h15a hA (by omega) hO2) hB (by omega) hy (Nat.gcd_comm _ _) (p36 y x hy (by omega)) (gW_t (gW_O hO1 (by omega) (by omega)) (gW_O hO2 (by omega) (by omega))) _ rfl rfl
      · exact absurd rfl c_35
    · exact absurd rfl c_19
  · have hxy : y ≤ x := by
      rcases Nat.lt_or_ge x y with z | z
      · rw [cmpN_lt z] at c_5; exact absurd (show (-1 : Int32) < 0 by decide) c_5
      · exact z
    refine z_iconst (v := 1) hE d_Re_findCommon_8 (by decide) ?_
    refine z_goto (tgt := 13) hE d_Re_findCommon_9 (by decide) ?_
    refine z_istore_n hE d_Re_findCommon_13 rfl (by decide) ?_
    refine z_aload_n hE d_Re_findCommon_14 rfl ?_
    refine z_get hE d_Re_findCommon_15 fl_Re_30 (by assumption) rfl ?_
    refine z_iload_n hE d_Re_findCommon_18 rfl ?_
    refine z_if_eq (tgt := 26) hE d_Re_findCommon_19 (by decide) (fun c_19 => ?_) (fun c_19 => ?_)
    · exact absurd c_19 (by decide)
    · refine z_aload_n hE d_Re_findCommon_22 rfl ?_
      refine z_goto (tgt := 27) hE d_Re_findCommon_23 (by decide) ?_
      refine z_callV hE d_Re_findCommon_27 cl_Re_84 (c_Na_become l nx hR13 hb (by omega) (by omega)) (by assumption) cb_Na rfl (Nat.le_of_ble_eq_true rfl) ⟨by decide, by decide⟩ ⟨by omega, by omega⟩ (fun r_1 g_1 nx_1 hp_1 => ?_) rfl
      try dsimp only [Option.toList, List.nil_append, List.cons_append]
      obtain ⟨rfl, rfl, hA, hO1⟩ := hp_1
      try dsimp only [Option.toList, List.nil_append, List.cons_append]
      have hF1 := RF_O hF h13 hO1 (by omega) (by omega) (by omega)
      have h15a := NA_o h13 h15 (by omega) hO1
      have hca := NA_o h13 hc (by omega) hO1
      obtain ⟨_, _, hR15, -⟩ := id h15a
      have h151 := hR15.1
      have m1 := hF1.1
      unfold RE at m1
      refine z_aload_n hE d_Re_findCommon_30 rfl ?_
      refine z_get hE d_Re_findCommon_31 fl_Re_34 (by assumption) rfl ?_
      refine z_iload_n hE d_Re_findCommon_34 rfl ?_
      refine z_if_eq (tgt := 42) hE d_Re_findCommon_35 (by decide) (fun c_35 => ?_) (fun c_35 => ?_)
      · exact absurd c_35 (by decide)
      · refine z_aload_n hE d_Re_findCommon_38 rfl ?_
        refine z_goto (tgt := 43) hE d_Re_findCommon_39 (by decide) ?_
        refine z_callV hE d_Re_findCommon_43 cl_Re_84 (c_Na_become l nx hR15 hca (by omega) (by omega)) (by assumption) cb_Na rfl (Nat.le_of_ble_eq_true rfl) ⟨by decide, by decide⟩ ⟨by omega, by omega⟩ (fun r_2 g_2 nx_2 hp_2 => ?_) rfl
        try dsimp only [Option.toList, List.nil_append, List.cons_append]
        obtain ⟨rfl, rfl, hB, hO2⟩ := hp_2
        try dsimp only [Option.toList, List.nil_append, List.cons_append]
        refine z_iconst (v := nI 0) hE d_Re_findCommon_46 (by decide) ?_
        refine z_istore hE d_Re_findCommon_47 (by decide) ?_
        exact loop 1300 0 x y _ (by omega) (RF_O hF1 h15a hO2 (by omega) (by omega) (by omega)) (NA_o h15a hA (by omega) hO2) hB hxy hx rfl (p36 x y hx hxy) (gW_t (gW_O hO1 (by omega) (by omega)) (gW_O hO2 (by omega) (by omega))) _ rfl rfl

