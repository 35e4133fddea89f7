/-! Teller: rounded off -/
def rU (s : Int32) (y q r way : Nat) : Nat := if r ≠ 0 ∧ (way = 1 ∧ s < 0 ∨ way = 2 ∧ 0 < s ∨ way = 3 ∧ (y < 2 * r ∨ 2 * r = y ∧ q % 2 = 1)) then 1 else 0
def rnd (s : Int32) (a b n way : Nat) : Nat := a * 10 ^ n / b + rU s b (a * 10 ^ n / b) (a * 10 ^ n % b) way
theorem rU_1 {s : Int32} {y q r way : Nat} (h : upR s y q r way) : rU s y q r way = 1 := if_pos h
theorem rU_0 {s : Int32} {y q r way : Nat} (h : ¬ upR s y q r way) : rU s y q r way = 0 := if_neg h
theorem p10_le {n : Nat} (h : n ≤ 18) : 10 ^ n ≤ 1000000000000000000 := by
  have h1 := Nat.pow_le_pow_right (show 0 < 10 by decide) h
  have h2 : (10 : Nat) ^ 18 = 1000000000000000000 := by decide
  omega
theorem c_Te_roundOff (l : Launch) {g : Gh} (nx : Nat) {T f N M aa ab n way : Nat} {sa : Int32} {v : Nat → Nat} (hV : TV g T v) (hf : FR g f N M sa aa ab) (hfo : f + 5 ≤ T ∨ T + 12 ≤ f) (b1 : aa < 4294967296 ^ 8) (hab : ab ≠ 0) (hn : n ≤ 18) (hw : way ≤ 3) (b2 : ab < 4294967296 ^ 8) : Ct l m_Te_roundOff 0 0 [.ref T, .ref f, .int (nI n), .int (nI way)] g nx (fun r g' nx' => r = none ∧ nx = nx' ∧ gW g g' T (T + 12) ∧ ∃ v', TV g' T v' ∧ v' 4 = rnd sa aa ab n way) := by
  refine Ct.of (by decide) (Nat.le_of_ble_eq_true rfl) (fun E hE hQ => ?_)
  have rest : ∀ lv, lG lv 0 = some (.ref T) → lG lv 1 = some (.ref f) → lG lv 3 = some (.int (nI way)) → lG lv 4 = some (.long (lN (10 ^ n))) → zJ E g nx 0 0 26 lv [] := by
    intro lv l0 l1 l3 l4
    refine z_sub (lv' := [(0, .ref T), (1, .ref f), (3, .int (nI way)), (4, .long (lN (10 ^ n)))]) (by simp only [List.map, l0, l1, l3, l4]) ?_
    have ten := p10_le hn
    have t1 := hV.1
    obtain ⟨_, _, K10, -⟩ := id (hV.2.2 10 (by decide))
    have K101 := K10.1
    refine z_aload_n hE d_Te_roundOff_26 rfl ?_
    refine z_get hE d_Te_roundOff_27 fl_Te_27 (by assumption) rfl ?_
    refine z_lload hE d_Te_roundOff_30 rfl ?_
    refine z_callV hE d_Te_roundOff_32 cl_Te_32 (c_Na_becomeLong l nx K10 (10 ^ n) (by omega)) (by assumption) cb_Na rfl (Nat.le_of_ble_eq_true rfl) ⟨by decide, by decide⟩ ⟨by omega, by omega⟩ (fun r_1 g_1 nx_1 hp_1 => ?_) rfl
    try dsimp only [Option.toList, List.nil_append, List.cons_append]
    obtain ⟨rfl, rfl, hA1, hO1⟩ := hp_1
    try dsimp only [Option.toList, List.nil_append, List.cons_append]
    have V1 := TV_O hV (by decide) hA1 hO1
    have w1 : gW g g_1 T (T + 12) := gW_O hO1 (by omega) (by omega)
    obtain ⟨i1, i2, i3⟩ := id (FR_W hf w1 (by omega))
    have t1 := V1.1
    obtain ⟨_, _, K8, -⟩ := id (V1.2.2 8 (by decide))
    have K81 := K8.1
    refine z_aload_n hE d_Te_roundOff_35 rfl ?_
    refine z_get hE d_Te_roundOff_36 fl_Te_23 (by assumption) rfl ?_
    refine z_aload_n hE d_Te_roundOff_39 rfl ?_
    refine z_getN hE d_Te_roundOff_40 fl_Te_36 (by assumption) rfl ?_
    refine z_aload_n hE d_Te_roundOff_43 rfl ?_
    refine z_get hE d_Te_roundOff_44 fl_Te_27 (by assumption) rfl ?_
    refine z_callV hE d_Te_roundOff_47 cl_Te_39 (c_Na_becomeProduct l nx (p := 8) (q := 2) K8 i2 hA1 (by omega) (by omega) b1 (Nat.lt_of_le_of_lt ten (by decide)) (by decide)) (by assumption) cb_Na rfl (Nat.le_of_ble_eq_true rfl) ⟨by decide, by decide⟩ ⟨by omega, by omega⟩ (fun r_2 g_2 nx_2 hp_2 => ?_) rfl
    try dsimp only [Option.toList, List.nil_append, List.cons_append]
    obtain ⟨rfl, rfl, hA2, hO2⟩ := hp_2
    try dsimp only [Option.toList, List.nil_append, List.cons_append]
    have V2 := TV_O V1 (by decide) hA2 hO2
    have w2 : gW g g_2 T (T + 12) := gW_t w1 (gW_O hO2 (by omega) (by omega))
    obtain ⟨j1, j2, j3⟩ := id (FR_W hf w2 (by omega))
    have t1 := V2.1
    have t2 := V2.2.1
    have hX : aa * 10 ^ n < 4294967296 ^ 18 := by
      have y1 := Nat.mul_le_mul (Nat.le_of_lt b1) (Nat.le_trans ten (show 1000000000000000000 ≤ 4294967296 ^ 2 by decide))
      rw [← Nat.pow_add] at y1
      exact Nat.lt_of_le_of_lt y1 (by decide)
    unfold DV at t2
    refine z_aload_n hE d_Te_roundOff_50 rfl ?_
    refine z_get hE d_Te_roundOff_51 fl_Te_12 (by assumption) rfl ?_
    refine z_aload_n hE d_Te_roundOff_54 rfl ?_
    refine z_get hE d_Te_roundOff_55 fl_Te_23 (by assumption) rfl ?_
    refine z_aload_n hE d_Te_roundOff_58 rfl ?_
    refine z_getN hE d_Te_roundOff_59 fl_Te_43 (by assumption) rfl ?_
    refine z_callV hE d_Te_roundOff_62 cl_Te_44 (c_Dv_divide l nx V2.2.1 ⟨_, V2.2.2 2 (by decide)⟩ ⟨_, V2.2.2 4 (by decide)⟩ ⟨_, V2.2.2 6 (by decide)⟩ hA2 j3 (by omega) (by omega) hX hab) (by assumption) cb_Dv rfl (Nat.le_of_ble_eq_true rfl) ⟨by decide, by decide⟩ ⟨by omega, by omega⟩ (fun r_3 g_3 nx_3 hp_3 => ?_) rfl
    try dsimp only [Option.toList, List.nil_append, List.cons_append]
    obtain ⟨rfl, rfl, d4, d6, d2, dW⟩ := hp_3
    try dsimp only [Option.toList, List.nil_append, List.cons_append]
    obtain ⟨v3, V3, e4, e6, -, -⟩ := TV_D V2 d2 d4 d6 dW
    have w3 : gW g g_3 T (T + 12) := gW_t w2 (gW_le dW (by omega) (by omega))
    have k0 := FR_W hf w3 (by omega)
    have t1 := V3.1
    have r18 : v3 6 < 4294967296 ^ 18 := by
      rw [e6]
      have := Nat.mod_lt (aa * 10 ^ n) (Nat.pos_of_ne_zero hab)
      have := w818
      omega
    refine z_aload_n hE d_Te_roundOff_65 rfl ?_
    refine z_aload_n hE d_Te_roundOff_66 rfl ?_
    refine z_iload_n hE d_Te_roundOff_67 rfl ?_
    refine z_callV hE d_Te_roundOff_68 cl_Te_47 (c_Te_isFurther l nx V3 k0 (by omega) r18 hw) (by assumption) cb_Te rfl (Nat.le_of_ble_eq_true rfl) ⟨by decide, by decide⟩ ⟨by omega, by omega⟩ (fun r_4 g_4 nx_4 hp_4 => ?_) rfl
    try dsimp only [Option.toList, List.nil_append, List.cons_append]
    obtain ⟨⟨b, hb, rfl, hbu⟩, rfl, W4, v4, V4, f4⟩ := hp_4
    try dsimp only [Option.toList, List.nil_append, List.cons_append]
    have w4 : gW g g_4 T (T + 12) := gW_t w3 (gW_le W4 (by omega) (by omega))
    rw [e4, e6] at hbu
    have f4' : v4 4 = aa * 10 ^ n / ab := f4.trans e4
    refine z_if_ne (tgt := 75) hE d_Te_roundOff_71 (by decide) (fun c_71 => ?_) (fun c_71 => ?_)
    · have hb1 : b = 1 := by
        rcases (show b = 0 ∨ b = 1 by omega) with q | q
        · rw [q] at c_71; exact absurd rfl c_71
        · exact q
      have hu := rU_1 (hbu.mp hb1)
      have t1 := V4.1
      obtain ⟨_, _, K8, -⟩ := id (V4.2.2 8 (by decide))
      have K81 := K8.1
      refine z_aload_n hE d_Te_roundOff_75 rfl ?_
      refine z_get hE d_Te_roundOff_76 fl_Te_23 (by assumption) rfl ?_
      refine z_lconst (v := lN 1) hE d_Te_roundOff_79 (by decide) ?_
      refine z_callV hE d_Te_roundOff_80 cl_Te_32 (c_Na_becomeLong l nx K8 1 (by decide)) (by assumption) cb_Na rfl (Nat.le_of_ble_eq_true rfl) ⟨by decide, by decide⟩ ⟨by omega, by omega⟩ (fun r_5 g_5 nx_5 hp_5 => ?_) rfl
      try dsimp only [Option.toList, List.nil_append, List.cons_append]
      obtain ⟨rfl, rfl, hA5, hO5⟩ := hp_5
      try dsimp only [Option.toList, List.nil_append, List.cons_append]
      have V5 := TV_O V4 (by decide) hA5 hO5
      have w5 : gW g g_5 T (T + 12) := gW_t w4 (gW_O hO5 (by omega) (by omega))
      have n4 : NA g_5 (T + 4) 20 (aa * 10 ^ n / ab) := by
        have := V5.2.2 4 (by decide)
        rw [upN_n (by decide), f4'] at this
        exact this
      obtain ⟨_, _, ⟨K41, -⟩, -⟩ := id n4
      have t1 := V5.1
      have t2 := V5.2.1
      unfold DV at t2
      refine z_aload_n hE d_Te_roundOff_83 rfl ?_
      refine z_get hE d_Te_roundOff_84 fl_Te_12 (by assumption) rfl ?_
      refine z_getN hE d_Te_roundOff_87 fl_Te_51 (by assumption) rfl ?_
      refine z_aload_n hE d_Te_roundOff_90 rfl ?_
      refine z_get hE d_Te_roundOff_91 fl_Te_23 (by assumption) rfl ?_
      refine z_callV hE d_Te_roundOff_94 cl_Te_54 (c_Na_add l nx n4 hA5 (by omega) (Nat.lt_of_le_of_lt (Nat.div_le_self _ _) (Nat.lt_of_lt_of_le hX (pw_ge (by decide)))) (by decide)) (by assumption) cb_Na rfl (Nat.le_of_ble_eq_true rfl) ⟨by decide, by decide⟩ ⟨by omega, by omega⟩ (fun r_6 g_6 nx_6 hp_6 => ?_) rfl
      try dsimp only [Option.toList, List.nil_append, List.cons_append]
      obtain ⟨rfl, rfl, hA6, hO6⟩ := hp_6
      try dsimp only [Option.toList, List.nil_append, List.cons_append]
      have V6 := TV_O V5 (show 4 ∈ kT by decide) hA6 hO6
      refine z_vret hE hQ d_Te_roundOff_97 rfl (Nat.le_refl _) (Nat.le_refl _) ⟨rfl, rfl, gW_t w5 (gW_O hO6 (by omega) (by omega)), _, V6, ?_⟩
      rw [upN_s]
      unfold rnd
      rw [hu]
    · have hb0 : b ≠ 1 := fun q => by rw [q] at c_71; exact absurd c_71 (by decide)
      have hu := rU_0 (fun q => hb0 (hbu.mpr q))
      refine z_vret hE hQ d_Te_roundOff_74 rfl (Nat.le_refl _) (Nat.le_refl _) ⟨rfl, rfl, w4, v4, V4, ?_⟩
      unfold rnd
      rw [hu, f4', Nat.add_zero]
  have loop : ∀ (u i : Nat), i + u = n → ∀ lv, lG lv 0 = some (.ref T) → lG lv 1 = some (.ref f) → lG lv 2 = some (.int (nI n)) → lG lv 3 = some (.int (nI way)) → lG lv 4 = some (.long (lN (10 ^ i))) → lG lv 6 = some (.int (nI i)) → zJ E g nx 0 0 6 lv [] := by
    intro u
    induction u with
    | zero =>
      intro i hi lv l0 l1 l2 l3 l4 l6
      have hin : i = n := by omega
      subst hin
      refine z_sub (lv' := [(0, .ref T), (1, .ref f), (2, .int (nI i)), (3, .int (nI way)), (4, .long (lN (10 ^ i))), (6, .int (nI i))]) (by simp only [List.map, l0, l1, l2, l3, l4, l6]) ?_
      refine z_iload hE d_Te_roundOff_6 rfl ?_
      refine z_iload_n hE d_Te_roundOff_8 rfl ?_
      refine z_icmp_ge (tgt := 26) hE d_Te_roundOff_9 (by decide) (fun c_9 => ?_) (fun c_9 => ?_)
      · exact rest _ rfl rfl rfl rfl
      · exact absurd ((nI_LE (by omega) (by omega)).mpr (Nat.le_refl _)) c_9
    | succ u ih =>
      intro i hi lv l0 l1 l2 l3 l4 l6
      refine z_sub (lv' := [(0, .ref T), (1, .ref f), (2, .int (nI n)), (3, .int (nI way)), (4, .long (lN (10 ^ i))), (6, .int (nI i))]) (by simp only [List.map, l0, l1, l2, l3, l4, l6]) ?_
      refine z_iload hE d_Te_roundOff_6 rfl ?_
      refine z_iload_n hE d_Te_roundOff_8 rfl ?_
      refine z_icmp_ge (tgt := 26) hE d_Te_roundOff_9 (by decide) (fun c_9 => ?_) (fun c_9 => ?_)
      · exact absurd ((nI_LE (by omega) (by omega)).mp c_9) (by omega)
      · refine z_lload hE d_Te_roundOff_12 rfl ?_
        refine z_ldc2 hE d_Te_roundOff_14 cn_Te_30 ?_
        refine z_lmul (v := lN (10 ^ i * 10)) hE d_Te_roundOff_17 (lN_mul _ _) ?_
        refine z_lstore hE d_Te_roundOff_18 (by decide) ?_
        refine z_iinc (v := nI (i + 1)) hE d_Te_roundOff_20 rfl (nI_1 i) (by decide) ?_
        refine z_goto (tgt := 6) hE d_Te_roundOff_23 (by decide) ?_
        exact ih (i + 1) (by omega) _ rfl rfl rfl rfl rfl rfl
  refine z_lconst (v := lN 1) hE d_Te_roundOff_0 (by decide) ?_
  refine z_lstore hE d_Te_roundOff_1 (by decide) ?_
  refine z_iconst (v := nI 0) hE d_Te_roundOff_3 (by decide) ?_
  refine z_istore hE d_Te_roundOff_4 (by decide) ?_
  exact loop n 0 (by omega) _ rfl rfl rfl rfl rfl rfl
def okL (s : Int32) (q : Nat) : Prop := q < 9223372036854775808 ∨ s < 0 ∧ q = 9223372036854775808
theorem c_Te_isRoundedLong (l : Launch) {g : Gh} (nx : Nat) {T : Nat} {v : Nat → Nat} (hV : TV g T v) (s : Int32) : Ct l m_Te_isRoundedLong 0 0 [.ref T, .int s] g nx (pP (some (.int (if v 4 < 9223372036854775808 ∨ s < 0 ∧ v 4 = 9223372036854775808 then 1 else 0))) g nx) := by
  have t1 := hV.1
  have t2 := hV.2.1
  unfold DV at t2
  have n4 := hV.2.2 4 (by decide)
  obtain ⟨n, d, K4, hv4, hn4⟩ := id n4
  have K41 := K4.1
  have i2 := norm_len (k := 2) K4.2.2.2.2 hn4
  rw [hv4] at i2
  have j2 := Nat.le_trans K4.2.2.1 K4.2.2.2.1
  have p2 : (4294967296 : Nat) ^ 2 = 18446744073709551616 := by decide
  rw [p2] at i2
  refine Ct.of (by decide) (Nat.le_of_ble_eq_true rfl) (fun E hE hQ => ?_)
  have yes : ∀ lv, (v 4 < 9223372036854775808 ∨ s < 0 ∧ v 4 = 9223372036854775808) → zJ E g nx 0 0 45 lv [] := by
    intro lv h
    refine z_iconst (v := 1) hE d_Te_isRoundedLong_45 (by decide) ?_
    refine z_goto (tgt := 50) hE d_Te_isRoundedLong_46 (by decide) ?_
    exact z_zret hE hQ d_Te_isRoundedLong_50 rfl (Nat.le_refl _) (Nat.le_refl _) (Or.inr rfl) ⟨by rw [if_pos h], rfl, rfl⟩
  have no : ∀ lv, ¬ (v 4 < 9223372036854775808 ∨ s < 0 ∧ v 4 = 9223372036854775808) → zJ E g nx 0 0 49 lv [] := by
    intro lv h
    refine z_iconst (v := 0) hE d_Te_isRoundedLong_49 (by decide) ?_
    exact z_zret hE hQ d_Te_isRoundedLong_50 rfl (Nat.le_refl _) (Nat.le_refl _) (Or.inl rfl) ⟨by rw [if_neg h], rfl, rfl⟩
  refine z_aload_n hE d_Te_isRoundedLong_0 rfl ?_
  refine z_get hE d_Te_isRoundedLong_1 fl_Te_12 (by assumption) rfl ?_
  refine z_getN hE d_Te_isRoundedLong_4 fl_Te_51 (by assumption) rfl ?_
  refine z_getN hE d_Te_isRoundedLong_7 fl_Te_86 (by assumption) rfl ?_
  refine z_iconst (v := nI 2) hE d_Te_isRoundedLong_10 (by decide) ?_
  refine z_icmp_le (tgt := 16) hE d_Te_isRoundedLong_11 (by decide) (fun c_11 => ?_) (fun c_11 => ?_)
  · rw [nI_LE (by omega) (by omega)] at c_11
    have hlt := i2.mpr c_11
    refine z_aload_n hE d_Te_isRoundedLong_16 rfl ?_
    refine z_get hE d_Te_isRoundedLong_17 fl_Te_12 (by assumption) rfl ?_
    refine z_getN hE d_Te_isRoundedLong_20 fl_Te_51 (by assumption) rfl ?_
    refine z_callV hE d_Te_isRoundedLong_23 cl_Te_89 (c_Na_lowLong l nx n4) (by assumption) cb_Na rfl (Nat.le_of_ble_eq_true rfl) ⟨by decide, by decide⟩ ⟨by omega, by omega⟩ (fun r_23 g_23 nx_23 hp_23 => ?_) rfl
    obtain ⟨rfl, rfl, rfl⟩ := hp_23
    try dsimp only [Option.toList, List.nil_append, List.cons_append]
    rw [Nat.mod_eq_of_lt hlt]
    have hti := lN_ti (m := v 4) hlt
    refine z_lstore_n hE d_Te_isRoundedLong_26 rfl (by decide) ?_
    refine z_lload_n hE d_Te_isRoundedLong_27 rfl ?_
    refine z_lconst (v := lN 0) hE d_Te_isRoundedLong_28 (by decide) ?_
    refine z_lcmp hE d_Te_isRoundedLong_29 ?_
    refine z_if_ge (tgt := 45) hE d_Te_isRoundedLong_30 (by decide) (fun c_30 => ?_) (fun c_30 => ?_)
    · rw [lg_cmp_ge, Int64.le_iff_toInt_le, hti] at c_30
      refine yes _ (Or.inl ?_)
      split at c_30
      · assumption
      · have : (lN 0).toInt = 0 := rfl
        omega
    · rw [lg_cmp_ge, Int64.le_iff_toInt_le, hti] at c_30
      have hge : 9223372036854775808 ≤ v 4 := by
        split at c_30
        · have : (lN 0).toInt = 0 := rfl
          omega
        · omega
      refine z_iload_n hE d_Te_isRoundedLong_33 rfl ?_
      refine z_if_ge (tgt := 49) hE d_Te_isRoundedLong_34 (by decide) (fun c_34 => ?_) (fun c_34 => ?_)
      · refine no _ (fun q => ?_)
        rcases q with q | q
        · omega
        · have := q.1
          rw [Int32.lt_iff_toInt_lt] at this
          rw [Int32.le_iff_toInt_le] at c_34
          omega
      · have hs : s < 0 := by
          rw [Int32.lt_iff_toInt_lt]
          rw [Int32.le_iff_toInt_le] at c_34
          omega
        refine z_lload_n hE d_Te_isRoundedLong_37 rfl ?_
        refine z_ldc2 hE d_Te_isRoundedLong_38 cn_Te_93 ?_
        refine z_lcmp hE d_Te_isRoundedLong_41 ?_
        refine z_if_ne (tgt := 49) hE d_Te_isRoundedLong_42 (by decide) (fun c_42 => ?_) (fun c_42 => ?_)
        · rw [lg_cmp_eq] at c_42
          refine no _ (fun q => ?_)
          rcases q with q | q
          · omega
          · exact c_42 (by rw [q.2]; decide)
        · rw [lg_cmp_eq] at c_42
          refine yes _ (Or.inr ⟨hs, ?_⟩)
          have h3 := congrArg Int64.toInt c_42
          rw [hti, if_neg (by omega)] at h3
          have h4 : (-9223372036854775808 : Int64).toInt = -9223372036854775808 := by decide
          rw [h4] at h3
          omega
  · rw [nI_LE (by omega) (by omega)] at c_11
    refine z_iconst (v := 0) hE d_Te_isRoundedLong_14 (by decide) ?_
    refine z_zret hE hQ d_Te_isRoundedLong_15 rfl (Nat.le_refl _) (Nat.le_refl _) (Or.inl rfl) ⟨?_, rfl, rfl⟩
    rw [if_neg]
    have := mt i2.mp c_11
    omega
theorem c_Te_roundedLong (l : Launch) {g : Gh} (nx : Nat) {T : Nat} {v : Nat → Nat} (hV : TV g T v) (s : Int32) : Ct l m_Te_roundedLong 0 0 [.ref T, .int s] g nx (pP (some (.long (if s < 0 then -(lN (v 4 % 18446744073709551616)) else lN (v 4 % 18446744073709551616)))) g nx) := by
  have t1 := hV.1
  have t2 := hV.2.1
  unfold DV at t2
  have n4 := hV.2.2 4 (by decide)
  obtain ⟨_, _, ⟨K41, -⟩, -⟩ := id n4
  refine Ct.of (by decide) (Nat.le_of_ble_eq_true rfl) (fun E hE hQ => ?_)
  refine z_aload_n hE d_Te_roundedLong_0 rfl ?_
  refine z_get hE d_Te_roundedLong_1 fl_Te_12 (by assumption) rfl ?_
  refine z_getN hE d_Te_roundedLong_4 fl_Te_51 (by assumption) rfl ?_
  refine z_callV hE d_Te_roundedLong_7 cl_Te_89 (c_Na_lowLong l nx n4) (by assumption) cb_Na rfl (Nat.le_of_ble_eq_true rfl) ⟨by decide, by decide⟩ ⟨by omega, by omega⟩ (fun r_7 g_7 nx_7 hp_7 => ?_) rfl
  obtain ⟨rfl, rfl, rfl⟩ := hp_7
  try dsimp only [Option.toList, List.nil_append, List.cons_append]
  refine z_lstore_n hE d_Te_roundedLong_10 rfl (by decide) ?_
  refine z_iload_n hE d_Te_roundedLong_11 rfl ?_
  refine z_if_ge (tgt := 20) hE d_Te_roundedLong_12 (by decide) (fun c_12 => ?_) (fun c_12 => ?_)
  · refine z_lload_n hE d_Te_roundedLong_20 rfl ?_
    refine z_lret hE hQ d_Te_roundedLong_21 rfl (Nat.le_refl _) (Nat.le_refl _) ⟨?_, rfl, rfl⟩
    rw [if_neg]
    intro q
    rw [Int32.lt_iff_toInt_lt] at q
    rw [Int32.le_iff_toInt_le] at c_12
    omega
  · refine z_lload_n hE d_Te_roundedLong_15 rfl ?_
    refine z_lneg hE d_Te_roundedLong_16 (rfl) ?_
    refine z_goto (tgt := 21) hE d_Te_roundedLong_17 (by decide) ?_
    refine z_lret hE hQ d_Te_roundedLong_21 rfl (Nat.le_refl _) (Nat.le_refl _) ⟨?_, rfl, rfl⟩
    rw [if_pos]
    rw [Int32.lt_iff_toInt_lt]
    rw [Int32.le_iff_toInt_le] at c_12
    omega

