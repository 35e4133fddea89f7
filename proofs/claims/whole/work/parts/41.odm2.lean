/-! OddsFractions: powers, ways, common, limbs -/
theorem pwQ_ok {q : Qf} {n : Int} (h : QOK q) (hz : ¬ (n < 0 ∧ q.1 = 0)) : QOK (pwQ q n) := by
  obtain ⟨s, a, b⟩ := q
  obtain ⟨h1, h2, h3⟩ := h
  dsimp only at h1 h2 h3 hz
  unfold pwQ
  obtain ⟨t, ht⟩ : ∃ t, n.natAbs = t := ⟨_, rfl⟩
  dsimp only
  rw [ht]
  by_cases hn : n < 0
  · rw [if_pos hn, if_pos hn]
    have hs : s ≠ 0 := fun q => hz ⟨hn, q⟩
    have ha : 0 < a := by
      rcases h1 with ⟨q, -⟩ | ⟨-, q⟩ | ⟨-, q⟩
      · exact absurd q hs
      · exact q
      · exact q
    refine ⟨?_, Nat.pow_gcd_pow_of_gcd_eq_one (by rw [Nat.gcd_comm]; exact h2), Nat.pow_pos ha⟩
    have hb : 0 < b ^ t := Nat.pow_pos h3
    show isS (if t % 2 = 0 ∧ (s ≠ 0 ∨ t = 0) then 1 else s) (b ^ t)
    by_cases hc : t % 2 = 0 ∧ (s ≠ 0 ∨ t = 0)
    · rw [if_pos hc]; exact Or.inr (Or.inl ⟨rfl, hb⟩)
    · rw [if_neg hc]
      rcases h1 with ⟨q, -⟩ | ⟨q, -⟩ | ⟨q, -⟩
      · exact absurd q hs
      · exact Or.inr (Or.inl ⟨q, hb⟩)
      · exact Or.inr (Or.inr ⟨q, hb⟩)
  · rw [if_neg hn, if_neg hn]
    refine ⟨?_, Nat.pow_gcd_pow_of_gcd_eq_one h2, Nat.pow_pos h3⟩
    show isS (if t % 2 = 0 ∧ (s ≠ 0 ∨ t = 0) then 1 else s) (a ^ t)
    rcases h1 with ⟨q, r⟩ | ⟨q, r⟩ | ⟨q, r⟩
    · subst q
      subst r
      by_cases ht0 : t = 0
      · rw [if_pos ⟨by omega, Or.inr ht0⟩, ht0]; exact Or.inr (Or.inl ⟨rfl, by decide⟩)
      · rw [if_neg (fun z => by rcases z.2 with z | z; exact z rfl; exact ht0 z), Nat.zero_pow (by omega)]; exact Or.inl ⟨rfl, rfl⟩
    · have ha : 0 < a ^ t := Nat.pow_pos r
      by_cases hc : t % 2 = 0 ∧ (s ≠ 0 ∨ t = 0)
      · rw [if_pos hc]; exact Or.inr (Or.inl ⟨rfl, ha⟩)
      · rw [if_neg hc]; exact Or.inr (Or.inl ⟨q, ha⟩)
    · have ha : 0 < a ^ t := Nat.pow_pos r
      by_cases hc : t % 2 = 0 ∧ (s ≠ 0 ∨ t = 0)
      · rw [if_pos hc]; exact Or.inr (Or.inl ⟨rfl, ha⟩)
      · rw [if_neg hc]; exact Or.inr (Or.inr ⟨q, ha⟩)
theorem ch_pos : ∀ {n k : Nat}, k ≤ n → 0 < ch n k
  | n, 0, _ => by rw [ch_n0]; decide
  | 0, k + 1, h => by omega
  | n + 1, k + 1, h => by
    rw [ch_ss]
    have := ch_pos (n := n) (k := k) (by omega)
    omega
theorem part_NA {g : Gh} {f N M a b : Nat} {sg : Int32} (h : FR g f N M sg a b) (p : Nat) : ∃ K, NA g (if p = 0 then f + 1 else f + 3) K (ptQ (sg, a, b) p) := by
  unfold ptQ
  by_cases hp : p = 0
  · rw [if_pos hp, if_pos hp]; exact ⟨N, h.2.1⟩
  · rw [if_neg hp, if_neg hp]; exact ⟨M, h.2.2⟩
theorem bl_pow {k : Nat} {v : Nat} : v < 4294967296 ^ k ↔ bl v ≤ 32 * k := by
  rw [bl_iff, Nat.pow_mul]
theorem size_lm {g : Gh} {a N n v : Nat} {d : Nat → Nat} (h : RN g a N n d) (hv : val d n = v) (hn : n = 0 ∨ d (n - 1) ≠ 0) : lmQ v = n := by
  have h1 := norm_len (k := n) h.2.2.2.2 hn
  have h2 := h1.mpr (Nat.le_refl n)
  rw [hv, bl_pow] at h2
  unfold lmQ
  rcases Nat.eq_zero_or_pos n with z | z
  · omega
  · have h3 := norm_len (k := n - 1) h.2.2.2.2 hn
    have h4 : ¬ v < 4294967296 ^ (n - 1) := fun q => by rw [hv] at h3; have := h3.mp q; omega
    rw [bl_pow] at h4
    omega
theorem c_Od_power (l : Launch) {g : Gh} {nx O : Nat} {S : Sx} (hC : CW g O nx S) (f a n : Int32) : Ct l m_Od_power 5 47 [.ref O, .int f, .int a, .int n] g nx (pO g O nx (spPower S f a n)) := by
  obtain ⟨sg, v, w, hV⟩ := hC
  have h0 := hV.1
  refine Ct.of (by decide) (Nat.le_of_ble_eq_true rfl) (fun E hE hQ => ?_)
  have out : ∀ lv, ¬ (inI f 0 15 ∧ inI a 0 15 ∧ inI n (-300) 300) → zJ E g nx 0 0 27 lv [] := by
    intro lv h
    refine z_ldc hE d_Od_power_27 cn_Od_47 ?_
    exact z_iret hE hQ d_Od_power_29 rfl (by omega) (by omega) (pO_of (if_neg h) (Nat.le_refl _) hV gX_r)
  refine z_iload_n hE d_Od_power_0 rfl ?_
  refine z_callS hE d_Od_power_1 cl_Od_43 (c_Od_isNoFraction l g nx f) rfl (Nat.le_of_ble_eq_true rfl) ⟨by decide, by decide⟩ ⟨by omega, by omega⟩ (fun r_1 g_1 nx_1 hp_1 => ?_) rfl
  obtain ⟨rfl, rfl, rfl⟩ := hp_1
  try dsimp only [Option.toList, List.nil_append, List.cons_append]
  by_cases hf : inI f 0 15
  case neg =>
    rw [if_neg hf]
    refine z_if_ne (tgt := 27) hE d_Od_power_4 (by decide) (fun _ => ?_) (fun c_ => absurd c_ (by decide))
    exact out _ (fun q => hf q.1)
  rw [if_pos hf]
  refine z_if_ne (tgt := 27) hE d_Od_power_4 (by decide) (fun c_ => absurd c_ (by decide)) (fun _ => ?_)
  refine z_iload_n hE d_Od_power_7 rfl ?_
  refine z_callS hE d_Od_power_8 cl_Od_43 (c_Od_isNoFraction l g nx a) rfl (Nat.le_of_ble_eq_true rfl) ⟨by decide, by decide⟩ ⟨by omega, by omega⟩ (fun r_8 g_8 nx_8 hp_8 => ?_) rfl
  obtain ⟨rfl, rfl, rfl⟩ := hp_8
  try dsimp only [Option.toList, List.nil_append, List.cons_append]
  by_cases ha : inI a 0 15
  case neg =>
    rw [if_neg ha]
    refine z_if_ne (tgt := 27) hE d_Od_power_11 (by decide) (fun _ => ?_) (fun c_ => absurd c_ (by decide))
    exact out _ (fun q => ha q.2.1)
  rw [if_pos ha]
  refine z_if_ne (tgt := 27) hE d_Od_power_11 (by decide) (fun c_ => absurd c_ (by decide)) (fun _ => ?_)
  refine z_iload_n hE d_Od_power_14 rfl ?_
  refine z_sipush (v := (-300 : Int32)) hE d_Od_power_15 (by decide) ?_
  refine z_sipush (v := (300 : Int32)) hE d_Od_power_18 (by decide) ?_
  refine z_callS hE d_Od_power_21 cl_Od_73 (c_Od_isOut l g nx n (-300) 300) rfl (Nat.le_of_ble_eq_true rfl) ⟨by decide, by decide⟩ ⟨by omega, by omega⟩ (fun r_21 g_21 nx_21 hp_21 => ?_) rfl
  obtain ⟨rfl, rfl, rfl⟩ := hp_21
  try dsimp only [Option.toList, List.nil_append, List.cons_append]
  rw [show (-300 : Int32).toInt = -300 by decide, show (300 : Int32).toInt = 300 by decide]
  by_cases hn : inI n (-300) 300
  case neg =>
    rw [if_neg hn]
    refine z_if_eq (tgt := 30) hE d_Od_power_24 (by decide) (fun c_ => absurd c_ (by decide)) (fun _ => ?_)
    exact out _ (fun q => hn q.2.2)
  rw [if_pos hn]
  refine z_if_eq (tgt := 30) hE d_Od_power_24 (by decide) (fun _ => ?_) (fun c_ => absurd c_ (by decide))
  obtain ⟨ef, zf, hf2⟩ := fx_of hf (by omega) (by omega)
  obtain ⟨ea, za, ha2⟩ := fx_of ha (by omega) (by omega)
  refine z_aload_n hE d_Od_power_30 rfl ?_
  refine z_iload_n hE d_Od_power_31 rfl ?_
  rw [ea]
  refine z_callV hE d_Od_power_32 cl_Od_59 (c_Od_fractionAt l hV (fx a) (by omega)) (by assumption) cb_Od rfl (Nat.le_of_ble_eq_true rfl) ⟨by decide, by decide⟩ ⟨by omega, by omega⟩ (fun r_1 g_1 nx_1 hp_1 => ?_) rfl
  try dsimp only [Option.toList, List.nil_append, List.cons_append]
  obtain ⟨rfl, rfl, ⟨rfl, hq⟩ | ⟨b, q, rfl, hq, hK⟩⟩ := hp_1
  case inl =>
    try dsimp only [Option.toList, List.nil_append, List.cons_append]
    refine z_astoreN hE d_Od_power_35 (by decide) ?_
    refine z_aloadN hE d_Od_power_37 rfl ?_
    refine z_ifnonnullZ (tgt := 48) hE d_Od_power_39 (by decide) ?_
    refine z_aload_n hE d_Od_power_42 rfl ?_
    refine z_iconst (v := 1) hE d_Od_power_43 (by decide) ?_
    refine z_callV hE d_Od_power_44 cl_Od_48 (c_Od_tell l hV 1) (by assumption) cb_Od rfl (Nat.le_of_ble_eq_true rfl) ⟨by decide, by decide⟩ ⟨by omega, by omega⟩ (fun r_1 g_1 nx_1 hp_1 => ?_) rfl
    try dsimp only [Option.toList, List.nil_append, List.cons_append]
    obtain ⟨rfl, rfl, C1, W1⟩ := hp_1
    try dsimp only [Option.toList, List.nil_append, List.cons_append]
    refine z_iret hE hQ d_Od_power_47 rfl (by omega) (by omega) (pO_of ?_ (Nat.le_refl _) C1 (gX_W W1 (Nat.le_refl _) (by omega)))
    unfold spPower; rw [if_pos ⟨hf, ha, hn⟩, hq]; rfl
  try dsimp only [Option.toList, List.nil_append, List.cons_append]
  obtain ⟨k1, k2, ⟨N, M, k3⟩, k4⟩ := id hK
  have k31 := k3.1
  refine z_astore hE d_Od_power_35 (by decide) ?_
  refine z_aload hE d_Od_power_37 rfl ?_
  refine z_ifnonnullR (tgt := 48) hE d_Od_power_39 (by decide) ?_
  have R1 := hV.2.2.2.2.1
  have R11 := R1.1
  unfold RE at R11
  have go : ∀ lv, ¬ (n.toInt < 0 ∧ q.1 = 0) → lG lv 0 = some (.ref O) → lG lv 1 = some (.int f) → lG lv 3 = some (.int n) → lG lv 4 = some (.ref b) → zJ E g nx 0 0 66 lv [] := by
    intro lv hz l0 l1 l3 l4
    refine z_sub (lv' := [(0, .ref O), (1, .int f), (3, .int n), (4, .ref b)]) (by simp only [List.map, l0, l1, l3, l4]) ?_
    refine z_aload_n hE d_Od_power_66 rfl ?_
    refine z_get hE d_Od_power_67 fl_Od_25 (by assumption) rfl ?_
    refine z_aload hE d_Od_power_70 rfl ?_
    refine z_iload_n hE d_Od_power_72 rfl ?_
    refine z_callV hE d_Od_power_73 cl_Od_81 (c_Re_raise l nx R1 k3 (by omega) k4.2.1 k4.2.2 hn.1 hn.2) (by assumption) cb_Re rfl (Nat.le_of_ble_eq_true rfl) ⟨by decide, by decide⟩ ⟨by omega, by omega⟩ (fun r_2 g_2 nx_2 hp_2 => ?_) rfl
    try dsimp only [Option.toList, List.nil_append, List.cons_append]
    obtain ⟨rfl, W2, X, Y, t, v2, hX, hY, ht, V2, hcase⟩ := hp_2
    have C2 := OV_re hV W2 V2
    have m0 := C2.1
    have hpq : pwQ q n.toInt = (if t % 2 = 0 ∧ (q.1 ≠ 0 ∨ t = 0) then 1 else q.1, X ^ t, Y ^ t) := by rw [hX, hY, ht]; rfl
    have hspec : spPower S f a n = mkS S (fx f) (pwQ q n.toInt) := by unfold spPower; rw [if_pos ⟨hf, ha, hn⟩, hq]; exact if_neg hz
    obtain ⟨c1, c2, rfl, c4, c5⟩ | ⟨c1, rfl⟩ := hcase
    · try dsimp only [Option.toList, List.nil_append, List.cons_append]
      refine z_if_ne (tgt := 86) hE d_Od_power_76 (by decide) (fun _ => ?_) (fun c_ => absurd c_ (by decide))
      have hok : QOK (pwQ q n.toInt) := pwQ_ok k4.1 hz
      refine z_aload_n hE d_Od_power_86 rfl ?_
      refine z_iload_n hE d_Od_power_87 rfl ?_
      rw [ef]
      refine z_callV hE d_Od_power_88 cl_Od_56 (c_Od_make l C2 (by rw [hpq, c4, c5]) hok (fx f) (by omega)) (by assumption) cb_Od rfl (Nat.le_of_ble_eq_true rfl) ⟨by decide, by decide⟩ ⟨by omega, by omega⟩ (fun r_9 g_9 nx_9 hp_9 => ?_) rfl
      try dsimp only [Option.toList, List.nil_append, List.cons_append]
      exact z_mkret hE hQ d_Od_power_91 rfl (by omega) (by omega) (gX_W W2 (by omega) (by omega)) hspec hp_9
    · try dsimp only [Option.toList, List.nil_append, List.cons_append]
      refine z_if_ne (tgt := 86) hE d_Od_power_76 (by decide) (fun c_ => absurd c_ (by decide)) (fun _ => ?_)
      refine z_aload_n hE d_Od_power_79 rfl ?_
      refine z_bipush (v := 6) hE d_Od_power_80 (by decide) ?_
      refine z_callV hE d_Od_power_82 cl_Od_48 (c_Od_tell l C2 6) (by assumption) cb_Od rfl (Nat.le_of_ble_eq_true rfl) ⟨by decide, by decide⟩ ⟨by omega, by omega⟩ (fun r_1 g_1 nx_1 hp_1 => ?_) rfl
      try dsimp only [Option.toList, List.nil_append, List.cons_append]
      obtain ⟨rfl, rfl, C1, W1⟩ := hp_1
      try dsimp only [Option.toList, List.nil_append, List.cons_append]
      refine z_iret hE hQ d_Od_power_85 rfl (by omega) (by omega) (pO_of ?_ (Nat.le_refl _) C1 (gX_t (gX_W W2 (by omega) (by omega)) (gX_W W1 (Nat.le_refl _) (by omega)) (Nat.le_refl nx)))
      rw [hspec, hpq]
      exact if_neg (fun z => by have z1 := z.1; have z2 := z.2; dsimp only at z1 z2; omega)
  refine z_iload_n hE d_Od_power_48 rfl ?_
  refine z_if_ge (tgt := 66) hE d_Od_power_49 (by decide) (fun c_49 => ?_) (fun c_49 => ?_)
  · rw [Int32.le_iff_toInt_le] at c_49
    exact go _ (fun z => by have : (0 : Int32).toInt = 0 := rfl; omega) rfl rfl rfl rfl
  · rw [Int32.le_iff_toInt_le] at c_49
    have hn0 : n.toInt < 0 := by have : (0 : Int32).toInt = 0 := rfl; omega
    refine z_aload hE d_Od_power_52 rfl ?_
    refine z_getN hE d_Od_power_54 fl_Od_67 (by assumption) rfl ?_
    refine z_if_ne (tgt := 66) hE d_Od_power_57 (by decide) (fun c_57 => ?_) (fun c_57 => ?_)
    · exact go _ (fun z => c_57 z.2) rfl rfl rfl rfl
    · refine z_aload_n hE d_Od_power_60 rfl ?_
      refine z_iconst (v := 5) hE d_Od_power_61 (by decide) ?_
      refine z_callV hE d_Od_power_62 cl_Od_48 (c_Od_tell l hV 5) (by assumption) cb_Od rfl (Nat.le_of_ble_eq_true rfl) ⟨by decide, by decide⟩ ⟨by omega, by omega⟩ (fun r_1 g_1 nx_1 hp_1 => ?_) rfl
      try dsimp only [Option.toList, List.nil_append, List.cons_append]
      obtain ⟨rfl, rfl, C1, W1⟩ := hp_1
      try dsimp only [Option.toList, List.nil_append, List.cons_append]
      refine z_iret hE hQ d_Od_power_65 rfl (by omega) (by omega) (pO_of ?_ (Nat.le_refl _) C1 (gX_W W1 (Nat.le_refl _) (by omega)))
      unfold spPower; rw [if_pos ⟨hf, ha, hn⟩, hq]; exact if_pos ⟨hn0, c_57⟩
theorem c_Od_binomial (l : Launch) {g : Gh} {nx O : Nat} {S : Sx} (hC : CW g O nx S) (f n k : Int32) : Ct l m_Od_binomial 5 47 [.ref O, .int f, .int n, .int k] g nx (pO g O nx (spBinomial S f n k)) := by
  obtain ⟨sg, v, w, hV⟩ := hC
  have h0 := hV.1
  refine Ct.of (by decide) (Nat.le_of_ble_eq_true rfl) (fun E hE hQ => ?_)
  have out : ∀ lv, ¬ (inI f 0 15 ∧ inI n 0 250) → zJ E g nx 0 0 18 lv [] := by
    intro lv h
    refine z_ldc hE d_Od_binomial_18 cn_Od_47 ?_
    exact z_iret hE hQ d_Od_binomial_20 rfl (by omega) (by omega) (pO_of (if_neg h) (Nat.le_refl _) hV gX_r)
  refine z_iload_n hE d_Od_binomial_0 rfl ?_
  refine z_callS hE d_Od_binomial_1 cl_Od_43 (c_Od_isNoFraction l g nx f) rfl (Nat.le_of_ble_eq_true rfl) ⟨by decide, by decide⟩ ⟨by omega, by omega⟩ (fun r_1 g_1 nx_1 hp_1 => ?_) rfl
  obtain ⟨rfl, rfl, rfl⟩ := hp_1
  try dsimp only [Option.toList, List.nil_append, List.cons_append]
  by_cases hf : inI f 0 15
  case neg =>
    rw [if_neg hf]
    refine z_if_ne (tgt := 18) hE d_Od_binomial_4 (by decide) (fun _ => ?_) (fun c_ => absurd c_ (by decide))
    exact out _ (fun q => hf q.1)
  rw [if_pos hf]
  refine z_if_ne (tgt := 18) hE d_Od_binomial_4 (by decide) (fun c_ => absurd c_ (by decide)) (fun _ => ?_)
  refine z_iload_n hE d_Od_binomial_7 rfl ?_
  refine z_iconst (v := 0) hE d_Od_binomial_8 (by decide) ?_
  refine z_sipush (v := (250 : Int32)) hE d_Od_binomial_9 (by decide) ?_
  refine z_callS hE d_Od_binomial_12 cl_Od_73 (c_Od_isOut l g nx n 0 250) rfl (Nat.le_of_ble_eq_true rfl) ⟨by decide, by decide⟩ ⟨by omega, by omega⟩ (fun r_12 g_12 nx_12 hp_12 => ?_) rfl
  obtain ⟨rfl, rfl, rfl⟩ := hp_12
  try dsimp only [Option.toList, List.nil_append, List.cons_append]
  rw [show (250 : Int32).toInt = 250 by decide, show (0 : Int32).toInt = 0 from rfl]
  by_cases hn : inI n 0 250
  case neg =>
    rw [if_neg hn]
    refine z_if_eq (tgt := 21) hE d_Od_binomial_15 (by decide) (fun c_ => absurd c_ (by decide)) (fun _ => ?_)
    exact out _ (fun q => hn q.2)
  rw [if_pos hn]
  refine z_if_eq (tgt := 21) hE d_Od_binomial_15 (by decide) (fun _ => ?_) (fun c_ => absurd c_ (by decide))
  obtain ⟨ef, zf, hf2⟩ := fx_of hf (by omega) (by omega)
  obtain ⟨en, zn, hn2⟩ := fx_of hn (by omega) (by omega)
  have R1 := hV.2.2.2.2.1
  have R11 := R1.1
  unfold RE at R11
  refine z_aload_n hE d_Od_binomial_21 rfl ?_
  refine z_get hE d_Od_binomial_22 fl_Od_25 (by assumption) rfl ?_
  refine z_iload_n hE d_Od_binomial_25 rfl ?_
  refine z_iload_n hE d_Od_binomial_26 rfl ?_
  rw [en]
  refine z_callV hE d_Od_binomial_27 cl_Od_85 (c_Re_countWays l nx R1 (n := fx n) (by omega)) (by assumption) cb_Re rfl (Nat.le_of_ble_eq_true rfl) ⟨by decide, by decide⟩ ⟨by omega, by omega⟩ (fun r_2 g_2 nx_2 hp_2 => ?_) rfl
  try dsimp only [Option.toList, List.nil_append, List.cons_append]
  obtain ⟨rfl, rfl, W2, c, v2, hc, V2, e2, e4⟩ := hp_2
  try dsimp only [Option.toList, List.nil_append, List.cons_append]
  have C2 := OV_re hV W2 V2
  have m0 := C2.1
  obtain ⟨q, hq⟩ : ∃ q : Qf, (if 0 ≤ k.toInt ∧ k.toInt ≤ n.toInt then ((1 : Int32), ch (fx n) (fx k), 1) else (0, 0, 1)) = q := ⟨_, rfl⟩
  have eq : q = (if 0 ≤ k.toInt ∧ k.toInt ≤ (fx n : Int) then 1 else 0, v2 2, v2 4) := by
    rw [← hq, e2, e4, hc, zn]
    by_cases h : 0 ≤ k.toInt ∧ k.toInt ≤ n.toInt
    · rw [if_pos h, if_pos h, if_pos h]; rfl
    · rw [if_neg h, if_neg h, if_neg h]
  have hok : QOK q := by
    rw [← hq]
    by_cases h : 0 ≤ k.toInt ∧ k.toInt ≤ n.toInt
    · rw [if_pos h]
      exact ⟨Or.inr (Or.inl ⟨rfl, ch_pos (by unfold fx; omega)⟩), Nat.gcd_one_right _, Nat.zero_lt_one⟩
    · rw [if_neg h]; exact q0_ok
  refine z_aload_n hE d_Od_binomial_30 rfl ?_
  refine z_iload_n hE d_Od_binomial_31 rfl ?_
  rw [ef]
  refine z_callV hE d_Od_binomial_32 cl_Od_56 (c_Od_make l C2 eq hok (fx f) (by omega)) (by assumption) cb_Od rfl (Nat.le_of_ble_eq_true rfl) ⟨by decide, by decide⟩ ⟨by omega, by omega⟩ (fun r_9 g_9 nx_9 hp_9 => ?_) rfl
  try dsimp only [Option.toList, List.nil_append, List.cons_append]
  exact z_mkret hE hQ d_Od_binomial_35 rfl (by omega) (by omega) (gX_W W2 (by omega) (by omega)) (by unfold spBinomial; rw [if_pos ⟨hf, hn⟩, hq]) hp_9
theorem c_Od_common (l : Launch) {g : Gh} {nx O : Nat} {S : Sx} (hC : CW g O nx S) (f a c : Int32) : Ct l m_Od_common 5 47 [.ref O, .int f, .int a, .int c] g nx (pO g O nx (spCommon S f a c)) := by
  obtain ⟨sg, v, w, hV⟩ := hC
  have h0 := hV.1
  refine Ct.of (by decide) (Nat.le_of_ble_eq_true rfl) (fun E hE hQ => ?_)
  have out : ∀ lv, ¬ (inI f 0 15 ∧ inI a 0 15 ∧ inI c 0 15) → zJ E g nx 0 0 21 lv [] := by
    intro lv h
    refine z_ldc hE d_Od_common_21 cn_Od_47 ?_
    exact z_iret hE hQ d_Od_common_23 rfl (by omega) (by omega) (pO_of (if_neg h) (Nat.le_refl _) hV gX_r)
  refine z_iload_n hE d_Od_common_0 rfl ?_
  refine z_callS hE d_Od_common_1 cl_Od_43 (c_Od_isNoFraction l g nx f) rfl (Nat.le_of_ble_eq_true rfl) ⟨by decide, by decide⟩ ⟨by omega, by omega⟩ (fun r_1 g_1 nx_1 hp_1 => ?_) rfl
  obtain ⟨rfl, rfl, rfl⟩ := hp_1
  try dsimp only [Option.toList, List.nil_append, List.cons_append]
  by_cases hf : inI f 0 15
  case neg =>
    rw [if_neg hf]
    refine z_if_ne (tgt := 21) hE d_Od_common_4 (by decide) (fun _ => ?_) (fun c_ => absurd c_ (by decide))
    exact out _ (fun q => hf q.1)
  rw [if_pos hf]
  refine z_if_ne (tgt := 21) hE d_Od_common_4 (by decide) (fun c_ => absurd c_ (by decide)) (fun _ => ?_)
  refine z_iload_n hE d_Od_common_7 rfl ?_
  refine z_callS hE d_Od_common_8 cl_Od_43 (c_Od_isNoFraction l g nx a) rfl (Nat.le_of_ble_eq_true rfl) ⟨by decide, by decide⟩ ⟨by omega, by omega⟩ (fun r_8 g_8 nx_8 hp_8 => ?_) rfl
  obtain ⟨rfl, rfl, rfl⟩ := hp_8
  try dsimp only [Option.toList, List.nil_append, List.cons_append]
  by_cases ha : inI a 0 15
  case neg =>
    rw [if_neg ha]
    refine z_if_ne (tgt := 21) hE d_Od_common_11 (by decide) (fun _ => ?_) (fun c_ => absurd c_ (by decide))
    exact out _ (fun q => ha q.2.1)
  rw [if_pos ha]
  refine z_if_ne (tgt := 21) hE d_Od_common_11 (by decide) (fun c_ => absurd c_ (by decide)) (fun _ => ?_)
  refine z_iload_n hE d_Od_common_14 rfl ?_
  refine z_callS hE d_Od_common_15 cl_Od_43 (c_Od_isNoFraction l g nx c) rfl (Nat.le_of_ble_eq_true rfl) ⟨by decide, by decide⟩ ⟨by omega, by omega⟩ (fun r_15 g_15 nx_15 hp_15 => ?_) rfl
  obtain ⟨rfl, rfl, rfl⟩ := hp_15
  try dsimp only [Option.toList, List.nil_append, List.cons_append]
  by_cases hc : inI c 0 15
  case neg =>
    rw [if_neg hc]
    refine z_if_eq (tgt := 24) hE d_Od_common_18 (by decide) (fun c_ => absurd c_ (by decide)) (fun _ => ?_)
    exact out _ (fun q => hc q.2.2)
  rw [if_pos hc]
  refine z_if_eq (tgt := 24) hE d_Od_common_18 (by decide) (fun _ => ?_) (fun c_ => absurd c_ (by decide))
  obtain ⟨ef, zf, hf2⟩ := fx_of hf (by omega) (by omega)
  obtain ⟨ea, za, ha2⟩ := fx_of ha (by omega) (by omega)
  obtain ⟨ec, zc, hc2⟩ := fx_of hc (by omega) (by omega)
  refine z_aload_n hE d_Od_common_24 rfl ?_
  refine z_iload_n hE d_Od_common_25 rfl ?_
  have none1 : ∀ lv, (S.1 (fx a) = none ∨ S.1 (fx c) = none) → lG lv 0 = some (.ref O) → zJ E g nx 0 0 48 lv [] := by
    intro lv h l0
    refine z_sub (lv' := [(0, .ref O)]) (by simp only [List.map, l0]) ?_
    refine z_aload_n hE d_Od_common_48 rfl ?_
    refine z_iconst (v := 1) hE d_Od_common_49 (by decide) ?_
    refine z_callV hE d_Od_common_50 cl_Od_48 (c_Od_tell l hV 1) (by assumption) cb_Od rfl (Nat.le_of_ble_eq_true rfl) ⟨by decide, by decide⟩ ⟨by omega, by omega⟩ (fun r_1 g_1 nx_1 hp_1 => ?_) rfl
    try dsimp only [Option.toList, List.nil_append, List.cons_append]
    obtain ⟨rfl, rfl, C1, W1⟩ := hp_1
    try dsimp only [Option.toList, List.nil_append, List.cons_append]
    refine z_iret hE hQ d_Od_common_53 rfl (by omega) (by omega) (pO_of ?_ (Nat.le_refl _) C1 (gX_W W1 (Nat.le_refl _) (by omega)))
    unfold spCommon
    rw [if_pos ⟨hf, ha, hc⟩]
    rcases h with h | h
    · rw [h]; rfl
    · rw [h]; cases S.1 (fx a) <;> rfl
  rw [ea]
  refine z_callV hE d_Od_common_26 cl_Od_59 (c_Od_fractionAt l hV (fx a) (by omega)) (by assumption) cb_Od rfl (Nat.le_of_ble_eq_true rfl) ⟨by decide, by decide⟩ ⟨by omega, by omega⟩ (fun r_1 g_1 nx_1 hp_1 => ?_) rfl
  try dsimp only [Option.toList, List.nil_append, List.cons_append]
  obtain ⟨rfl, rfl, H1⟩ := hp_1
  obtain ⟨x1, hx1⟩ : ∃ x : Option Nat, r_1 = some (va_rf x) := by
    rcases H1 with ⟨h, -⟩ | ⟨b, q, h, -⟩
    · exact ⟨none, h⟩
    · exact ⟨some b, h⟩
  subst hx1
  try dsimp only [Option.toList, List.nil_append, List.cons_append]
  refine z_astoreq hE d_Od_common_29 (by decide) ?_
  refine z_aload_n hE d_Od_common_31 rfl ?_
  refine z_iload_n hE d_Od_common_32 rfl ?_
  rw [ec]
  refine z_callV hE d_Od_common_33 cl_Od_59 (c_Od_fractionAt l hV (fx c) (by omega)) (by assumption) cb_Od rfl (Nat.le_of_ble_eq_true rfl) ⟨by decide, by decide⟩ ⟨by omega, by omega⟩ (fun r_2 g_2 nx_2 hp_2 => ?_) rfl
  try dsimp only [Option.toList, List.nil_append, List.cons_append]
  obtain ⟨rfl, rfl, H2⟩ := hp_2
  obtain ⟨x2, hx2⟩ : ∃ x : Option Nat, r_2 = some (va_rf x) := by
    rcases H2 with ⟨h, -⟩ | ⟨b, q, h, -⟩
    · exact ⟨none, h⟩
    · exact ⟨some b, h⟩
  subst hx2
  try dsimp only [Option.toList, List.nil_append, List.cons_append]
  refine z_astoreq hE d_Od_common_36 (by decide) ?_
  obtain ⟨hr1, hq1⟩ | ⟨b, q, hr1, hq1, hK1⟩ := H1
  case inl =>
    cases x1
    · refine z_aloadN hE d_Od_common_38 rfl ?_
      refine z_ifnullZ (tgt := 48) hE d_Od_common_40 (by decide) ?_
      exact none1 _ (Or.inl hq1) (by cases x2 <;> rfl)
    · cases hr1
  obtain rfl : x1 = some b := by cases x1; cases hr1; cases hr1; rfl
  obtain ⟨hr2, hq2⟩ | ⟨b2, q2, hr2, hq2, hK2⟩ := H2
  case inl =>
    cases x2
    · refine z_aload hE d_Od_common_38 rfl ?_
      refine z_ifnullR (tgt := 48) hE d_Od_common_40 (by decide) ?_
      refine z_aloadN hE d_Od_common_43 rfl ?_
      refine z_ifnonnullZ (tgt := 54) hE d_Od_common_45 (by decide) ?_
      exact none1 _ (Or.inr hq2) rfl
    · cases hr2
  obtain rfl : x2 = some b2 := by cases x2; cases hr2; cases hr2; rfl
  obtain ⟨k1, k2, ⟨N, M, k3⟩, k4⟩ := id hK1
  obtain ⟨j1, j2, ⟨N', M', j3⟩, j4⟩ := id hK2
  have k31 := k3.1
  have j31 := j3.1
  refine z_aload hE d_Od_common_38 rfl ?_
  refine z_ifnullR (tgt := 48) hE d_Od_common_40 (by decide) ?_
  refine z_aload hE d_Od_common_43 rfl ?_
  refine z_ifnonnullR (tgt := 54) hE d_Od_common_45 (by decide) ?_
  have R1 := hV.2.2.2.2.1
  have R11 := R1.1
  unfold RE at R11
  have nw : ∀ lv, ¬ (q.2.2 = 1 ∧ q2.2.2 = 1) → lG lv 0 = some (.ref O) → zJ E g nx 0 0 70 lv [] := by
    intro lv h l0
    refine z_sub (lv' := [(0, .ref O)]) (by simp only [List.map, l0]) ?_
    refine z_aload_n hE d_Od_common_70 rfl ?_
    refine z_iconst (v := 2) hE d_Od_common_71 (by decide) ?_
    refine z_callV hE d_Od_common_72 cl_Od_48 (c_Od_tell l hV 2) (by assumption) cb_Od rfl (Nat.le_of_ble_eq_true rfl) ⟨by decide, by decide⟩ ⟨by omega, by omega⟩ (fun r_1 g_1 nx_1 hp_1 => ?_) rfl
    try dsimp only [Option.toList, List.nil_append, List.cons_append]
    obtain ⟨rfl, rfl, C1, W1⟩ := hp_1
    try dsimp only [Option.toList, List.nil_append, List.cons_append]
    refine z_iret hE hQ d_Od_common_75 rfl (by omega) (by omega) (pO_of ?_ (Nat.le_refl _) C1 (gX_W W1 (Nat.le_refl _) (by omega)))
    unfold spCommon; rw [if_pos ⟨hf, ha, hc⟩, hq1, hq2]; exact if_neg h
  refine z_aload hE d_Od_common_54 rfl ?_
  refine z_callV hE d_Od_common_56 cl_Od_89 (c_Fr_isWhole l nx k3) (by assumption) cb_Fr rfl (Nat.le_of_ble_eq_true rfl) ⟨by decide, by decide⟩ ⟨by omega, by omega⟩ (fun r_56 g_56 nx_56 hp_56 => ?_) rfl
  obtain ⟨rfl, rfl, rfl⟩ := hp_56
  try dsimp only [Option.toList, List.nil_append, List.cons_append]
  by_cases hw1 : q.2.2 = 1
  case neg =>
    rw [if_neg hw1]
    refine z_if_eq (tgt := 70) hE d_Od_common_59 (by decide) (fun _ => ?_) (fun c_ => absurd c_ (by decide))
    exact nw _ (fun z => hw1 z.1) rfl
  rw [if_pos hw1]
  refine z_if_eq (tgt := 70) hE d_Od_common_59 (by decide) (fun c_ => absurd c_ (by decide)) (fun _ => ?_)
  refine z_aload hE d_Od_common_62 rfl ?_
  refine z_callV hE d_Od_common_64 cl_Od_89 (c_Fr_isWhole l nx j3) (by assumption) cb_Fr rfl (Nat.le_of_ble_eq_true rfl) ⟨by decide, by decide⟩ ⟨by omega, by omega⟩ (fun r_64 g_64 nx_64 hp_64 => ?_) rfl
  obtain ⟨rfl, rfl, rfl⟩ := hp_64
  try dsimp only [Option.toList, List.nil_append, List.cons_append]
  by_cases hw2 : q2.2.2 = 1
  case neg =>
    rw [if_neg hw2]
    refine z_if_ne (tgt := 76) hE d_Od_common_67 (by decide) (fun c_ => absurd c_ (by decide)) (fun _ => ?_)
    exact nw _ (fun z => hw2 z.2) rfl
  rw [if_pos hw2]
  refine z_if_ne (tgt := 76) hE d_Od_common_67 (by decide) (fun _ => ?_) (fun c_ => absurd c_ (by decide))
  refine z_aload_n hE d_Od_common_76 rfl ?_
  refine z_get hE d_Od_common_77 fl_Od_25 (by assumption) rfl ?_
  refine z_aload hE d_Od_common_80 rfl ?_
  refine z_aload hE d_Od_common_82 rfl ?_
  refine z_callV hE d_Od_common_84 cl_Od_93 (c_Re_findCommonWhole l nx R1 k3 j3 (by omega) (by omega) k4.2.1 j4.2.1) (by assumption) cb_Re rfl (Nat.le_of_ble_eq_true rfl) ⟨by decide, by decide⟩ ⟨by omega, by omega⟩ (fun r_2 g_2 nx_2 hp_2 => ?_) rfl
  try dsimp only [Option.toList, List.nil_append, List.cons_append]
  obtain ⟨rfl, rfl, W2, v2, V2, e2, e4⟩ := hp_2
  try dsimp only [Option.toList, List.nil_append, List.cons_append]
  have C2 := OV_re hV W2 V2
  have m0 := C2.1
  have hok : QOK ((if Nat.gcd q.2.1 q2.2.1 = 0 then 0 else 1, Nat.gcd q.2.1 q2.2.1, 1) : Qf) := by
    refine ⟨?_, Nat.gcd_one_right _, Nat.zero_lt_one⟩
    by_cases h : Nat.gcd q.2.1 q2.2.1 = 0
    · rw [if_pos h]; exact Or.inl ⟨rfl, h⟩
    · rw [if_neg h]; exact Or.inr (Or.inl ⟨rfl, Nat.pos_of_ne_zero h⟩)
  refine z_aload_n hE d_Od_common_87 rfl ?_
  refine z_iload_n hE d_Od_common_88 rfl ?_
  rw [ef]
  refine z_callV hE d_Od_common_89 cl_Od_56 (c_Od_make l C2 (by rw [e2, e4]) hok (fx f) (by omega)) (by assumption) cb_Od rfl (Nat.le_of_ble_eq_true rfl) ⟨by decide, by decide⟩ ⟨by omega, by omega⟩ (fun r_9 g_9 nx_9 hp_9 => ?_) rfl
  try dsimp only [Option.toList, List.nil_append, List.cons_append]
  exact z_mkret hE hQ d_Od_common_92 rfl (by omega) (by omega) (gX_W W2 (by omega) (by omega)) (by unfold spCommon; rw [if_pos ⟨hf, ha, hc⟩, hq1, hq2]; exact if_pos ⟨hw1, hw2⟩) hp_9
theorem c_Od_limbs (l : Launch) {g : Gh} {nx O : Nat} {S : Sx} (hC : CW g O nx S) (a p : Int32) : Ct l m_Od_limbs 0 0 [.ref O, .int a, .int p] g nx (pO g O nx (spLimbs S a p)) := by
  obtain ⟨sg, v, w, hV⟩ := hC
  have h0 := hV.1
  refine Ct.of (by decide) (Nat.le_of_ble_eq_true rfl) (fun E hE hQ => ?_)
  have out : ∀ lv, ¬ (inI a 0 15 ∧ inI p 0 1) → zJ E g nx 0 0 16 lv [] := by
    intro lv h
    refine z_ldc hE d_Od_limbs_16 cn_Od_47 ?_
    exact z_iret hE hQ d_Od_limbs_18 rfl (by omega) (by omega) (pO_of (if_neg h) (Nat.le_refl _) hV gX_r)
  refine z_iload_n hE d_Od_limbs_0 rfl ?_
  refine z_callS hE d_Od_limbs_1 cl_Od_43 (c_Od_isNoFraction l g nx a) rfl (Nat.le_of_ble_eq_true rfl) ⟨by decide, by decide⟩ ⟨by omega, by omega⟩ (fun r_1 g_1 nx_1 hp_1 => ?_) rfl
  obtain ⟨rfl, rfl, rfl⟩ := hp_1
  try dsimp only [Option.toList, List.nil_append, List.cons_append]
  by_cases ha : inI a 0 15
  case neg =>
    rw [if_neg ha]
    refine z_if_ne (tgt := 16) hE d_Od_limbs_4 (by decide) (fun _ => ?_) (fun c_ => absurd c_ (by decide))
    exact out _ (fun q => ha q.1)
  rw [if_pos ha]
  refine z_if_ne (tgt := 16) hE d_Od_limbs_4 (by decide) (fun c_ => absurd c_ (by decide)) (fun _ => ?_)
  refine z_iload_n hE d_Od_limbs_7 rfl ?_
  refine z_iconst (v := 0) hE d_Od_limbs_8 (by decide) ?_
  refine z_iconst (v := 1) hE d_Od_limbs_9 (by decide) ?_
  refine z_callS hE d_Od_limbs_10 cl_Od_73 (c_Od_isOut l g nx p 0 1) rfl (Nat.le_of_ble_eq_true rfl) ⟨by decide, by decide⟩ ⟨by omega, by omega⟩ (fun r_10 g_10 nx_10 hp_10 => ?_) rfl
  obtain ⟨rfl, rfl, rfl⟩ := hp_10
  try dsimp only [Option.toList, List.nil_append, List.cons_append]
  rw [show (1 : Int32).toInt = 1 by decide, show (0 : Int32).toInt = 0 from rfl]
  by_cases hp : inI p 0 1
  case neg =>
    rw [if_neg hp]
    refine z_if_eq (tgt := 19) hE d_Od_limbs_13 (by decide) (fun c_ => absurd c_ (by decide)) (fun _ => ?_)
    exact out _ (fun q => hp q.2)
  rw [if_pos hp]
  refine z_if_eq (tgt := 19) hE d_Od_limbs_13 (by decide) (fun _ => ?_) (fun c_ => absurd c_ (by decide))
  obtain ⟨ea, za, ha2⟩ := fx_of ha (by omega) (by omega)
  obtain ⟨ep, zp, hp2⟩ := fx_of hp (by omega) (by omega)
  refine z_aload_n hE d_Od_limbs_19 rfl ?_
  refine z_iload_n hE d_Od_limbs_20 rfl ?_
  rw [ea]
  refine z_callV hE d_Od_limbs_21 cl_Od_59 (c_Od_fractionAt l hV (fx a) (by omega)) (by assumption) cb_Od rfl (Nat.le_of_ble_eq_true rfl) ⟨by decide, by decide⟩ ⟨by omega, by omega⟩ (fun r_1 g_1 nx_1 hp_1 => ?_) rfl
  try dsimp only [Option.toList, List.nil_append, List.cons_append]
  obtain ⟨rfl, rfl, ⟨rfl, hq⟩ | ⟨b, q, rfl, hq, hK⟩⟩ := hp_1
  case inl =>
    try dsimp only [Option.toList, List.nil_append, List.cons_append]
    refine z_astore_nN hE d_Od_limbs_24 rfl (by decide) ?_
    refine z_aload_nN hE d_Od_limbs_25 rfl ?_
    refine z_ifnonnullZ (tgt := 35) hE d_Od_limbs_26 (by decide) ?_
    refine z_aload_n hE d_Od_limbs_29 rfl ?_
    refine z_iconst (v := 1) hE d_Od_limbs_30 (by decide) ?_
    refine z_callV hE d_Od_limbs_31 cl_Od_48 (c_Od_tell l hV 1) (by assumption) cb_Od rfl (Nat.le_of_ble_eq_true rfl) ⟨by decide, by decide⟩ ⟨by omega, by omega⟩ (fun r_1 g_1 nx_1 hp_1 => ?_) rfl
    try dsimp only [Option.toList, List.nil_append, List.cons_append]
    obtain ⟨rfl, rfl, C1, W1⟩ := hp_1
    try dsimp only [Option.toList, List.nil_append, List.cons_append]
    refine z_iret hE hQ d_Od_limbs_34 rfl (by omega) (by omega) (pO_of ?_ (Nat.le_refl _) C1 (gX_W W1 (Nat.le_refl _) (by omega)))
    unfold spLimbs; rw [if_pos ⟨ha, hp⟩, hq]; rfl
  try dsimp only [Option.toList, List.nil_append, List.cons_append]
  obtain ⟨k1, k2, ⟨N, M, k3⟩, k4⟩ := id hK
  have k31 := k3.1
  refine z_astore_n hE d_Od_limbs_24 rfl (by decide) ?_
  refine z_aload_n hE d_Od_limbs_25 rfl ?_
  refine z_ifnonnullR (tgt := 35) hE d_Od_limbs_26 (by decide) ?_
  refine z_aload_n hE d_Od_limbs_35 rfl ?_
  refine z_aload_n hE d_Od_limbs_36 rfl ?_
  refine z_iload_n hE d_Od_limbs_37 rfl ?_
  rw [ep]
  refine z_callV hE d_Od_limbs_38 cl_Od_104 (c_Fr_partOf l nx k31 (fx p) (by omega)) (by assumption) cb_Fr rfl (Nat.le_of_ble_eq_true rfl) ⟨by decide, by decide⟩ ⟨by omega, by omega⟩ (fun r_38 g_38 nx_38 hp_38 => ?_) rfl
  obtain ⟨rfl, rfl, rfl⟩ := hp_38
  try dsimp only [Option.toList, List.nil_append, List.cons_append]
  obtain ⟨K, nk⟩ := part_NA k3 (fx p)
  obtain ⟨n, d, R0, hv, hd⟩ := id nk
  have R01 := R0.1
  have hlm : lmQ (ptQ q (fx p)) = n := size_lm R0 hv hd
  have hv : val d n = ptQ q (fx p) := hv
  refine z_getN hE d_Od_limbs_41 fl_Od_108 (by assumption) rfl ?_
  refine z_callV hE d_Od_limbs_44 cl_Od_70 (c_Od_done l hV (nI n)) (by assumption) cb_Od rfl (Nat.le_of_ble_eq_true rfl) ⟨by decide, by decide⟩ ⟨by omega, by omega⟩ (fun r_2 g_2 nx_2 hp_2 => ?_) rfl
  try dsimp only [Option.toList, List.nil_append, List.cons_append]
  obtain ⟨rfl, rfl, C2, W2⟩ := hp_2
  try dsimp only [Option.toList, List.nil_append, List.cons_append]
  exact z_iret hE hQ d_Od_limbs_47 rfl (by omega) (by omega) (pO_of (by unfold spLimbs; rw [if_pos ⟨ha, hp⟩, hq]; show doneS S (nI (lmQ (ptQ q (fx p)))) = _; rw [hlm]; rfl) (Nat.le_refl _) C2 (gX_W W2 (Nat.le_refl _) (by omega)))
theorem c_Od_limb (l : Launch) {g : Gh} {nx O : Nat} {S : Sx} (hC : CW g O nx S) (a p k : Int32) : Ct l m_Od_limb 0 0 [.ref O, .int a, .int p, .int k] g nx (pO g O nx (spLimb S a p k)) := by
  obtain ⟨sg, v, w, hV⟩ := hC
  have h0 := hV.1
  refine Ct.of (by decide) (Nat.le_of_ble_eq_true rfl) (fun E hE hQ => ?_)
  have out : ∀ lv, ¬ (inI a 0 15 ∧ inI p 0 1) → zJ E g nx 0 0 16 lv [] := by
    intro lv h
    refine z_ldc2 hE d_Od_limb_16 cn_Od_113 ?_
    exact z_lret hE hQ d_Od_limb_19 rfl (by omega) (by omega) (pO_of (if_neg h) (Nat.le_refl _) hV gX_r)
  refine z_iload_n hE d_Od_limb_0 rfl ?_
  refine z_callS hE d_Od_limb_1 cl_Od_43 (c_Od_isNoFraction l g nx a) rfl (Nat.le_of_ble_eq_true rfl) ⟨by decide, by decide⟩ ⟨by omega, by omega⟩ (fun r_1 g_1 nx_1 hp_1 => ?_) rfl
  obtain ⟨rfl, rfl, rfl⟩ := hp_1
  try dsimp only [Option.toList, List.nil_append, List.cons_append]
  by_cases ha : inI a 0 15
  case neg =>
    rw [if_neg ha]
    refine z_if_ne (tgt := 16) hE d_Od_limb_4 (by decide) (fun _ => ?_) (fun c_ => absurd c_ (by decide))
    exact out _ (fun q => ha q.1)
  rw [if_pos ha]
  refine z_if_ne (tgt := 16) hE d_Od_limb_4 (by decide) (fun c_ => absurd c_ (by decide)) (fun _ => ?_)
  refine z_iload_n hE d_Od_limb_7 rfl ?_
  refine z_iconst (v := 0) hE d_Od_limb_8 (by decide) ?_
  refine z_iconst (v := 1) hE d_Od_limb_9 (by decide) ?_
  refine z_callS hE d_Od_limb_10 cl_Od_73 (c_Od_isOut l g nx p 0 1) rfl (Nat.le_of_ble_eq_true rfl) ⟨by decide, by decide⟩ ⟨by omega, by omega⟩ (fun r_10 g_10 nx_10 hp_10 => ?_) rfl
  obtain ⟨rfl, rfl, rfl⟩ := hp_10
  try dsimp only [Option.toList, List.nil_append, List.cons_append]
  rw [show (1 : Int32).toInt = 1 by decide, show (0 : Int32).toInt = 0 from rfl]
  by_cases hp : inI p 0 1
  case neg =>
    rw [if_neg hp]
    refine z_if_eq (tgt := 20) hE d_Od_limb_13 (by decide) (fun c_ => absurd c_ (by decide)) (fun _ => ?_)
    exact out _ (fun q => hp q.2)
  rw [if_pos hp]
  refine z_if_eq (tgt := 20) hE d_Od_limb_13 (by decide) (fun _ => ?_) (fun c_ => absurd c_ (by decide))
  obtain ⟨ea, za, ha2⟩ := fx_of ha (by omega) (by omega)
  obtain ⟨ep, zp, hp2⟩ := fx_of hp (by omega) (by omega)
  refine z_aload_n hE d_Od_limb_20 rfl ?_
  refine z_iload_n hE d_Od_limb_21 rfl ?_
  rw [ea]
  refine z_callV hE d_Od_limb_22 cl_Od_59 (c_Od_fractionAt l hV (fx a) (by omega)) (by assumption) cb_Od rfl (Nat.le_of_ble_eq_true rfl) ⟨by decide, by decide⟩ ⟨by omega, by omega⟩ (fun r_1 g_1 nx_1 hp_1 => ?_) rfl
  try dsimp only [Option.toList, List.nil_append, List.cons_append]
  obtain ⟨rfl, rfl, ⟨rfl, hq⟩ | ⟨b, q, rfl, hq, hK⟩⟩ := hp_1
  case inl =>
    try dsimp only [Option.toList, List.nil_append, List.cons_append]
    refine z_astoreN hE d_Od_limb_25 (by decide) ?_
    refine z_aloadN hE d_Od_limb_27 rfl ?_
    refine z_ifnonnullZ (tgt := 39) hE d_Od_limb_29 (by decide) ?_
    refine z_aload_n hE d_Od_limb_32 rfl ?_
    refine z_iconst (v := 1) hE d_Od_limb_33 (by decide) ?_
    refine z_callV hE d_Od_limb_34 cl_Od_48 (c_Od_tell l hV 1) (by assumption) cb_Od rfl (Nat.le_of_ble_eq_true rfl) ⟨by decide, by decide⟩ ⟨by omega, by omega⟩ (fun r_1 g_1 nx_1 hp_1 => ?_) rfl
    try dsimp only [Option.toList, List.nil_append, List.cons_append]
    obtain ⟨rfl, rfl, C1, W1⟩ := hp_1
    try dsimp only [Option.toList, List.nil_append, List.cons_append]
    refine z_i2l hE d_Od_limb_37 (rfl) ?_
    refine z_lret hE hQ d_Od_limb_38 rfl (by omega) (by omega) (pO_of ?_ (Nat.le_refl _) C1 (gX_W W1 (Nat.le_refl _) (by omega)))
    unfold spLimb; rw [if_pos ⟨ha, hp⟩, hq]; rfl
  try dsimp only [Option.toList, List.nil_append, List.cons_append]
  obtain ⟨k1, k2, ⟨N, M, k3⟩, k4⟩ := id hK
  have k31 := k3.1
  refine z_astore hE d_Od_limb_25 (by decide) ?_
  refine z_aload hE d_Od_limb_27 rfl ?_
  refine z_ifnonnullR (tgt := 39) hE d_Od_limb_29 (by decide) ?_
  refine z_aload hE d_Od_limb_39 rfl ?_
  refine z_iload_n hE d_Od_limb_41 rfl ?_
  rw [ep]
  refine z_callV hE d_Od_limb_42 cl_Od_104 (c_Fr_partOf l nx k31 (fx p) (by omega)) (by assumption) cb_Fr rfl (Nat.le_of_ble_eq_true rfl) ⟨by decide, by decide⟩ ⟨by omega, by omega⟩ (fun r_42 g_42 nx_42 hp_42 => ?_) rfl
  obtain ⟨rfl, rfl, rfl⟩ := hp_42
  try dsimp only [Option.toList, List.nil_append, List.cons_append]
  obtain ⟨K, nk⟩ := part_NA k3 (fx p)
  obtain ⟨n, d, R0, hv, hd⟩ := id nk
  have R01 := R0.1
  have hlm : lmQ (ptQ q (fx p)) = n := size_lm R0 hv hd
  have hv : val d n = ptQ q (fx p) := hv
  have hn20 := Nat.le_trans R0.2.2.1 R0.2.2.2.1
  have hm1 : (nI n - nI 1).toInt = (n : Int) - 1 := pk_sub_toInt (by omega) (by omega)
  refine z_astore hE d_Od_limb_45 (by decide) ?_
  refine z_iload_n hE d_Od_limb_47 rfl ?_
  refine z_iconst (v := 0) hE d_Od_limb_48 (by decide) ?_
  refine z_aload hE d_Od_limb_49 rfl ?_
  refine z_getN hE d_Od_limb_51 fl_Od_108 (by assumption) rfl ?_
  refine z_iconst (v := nI 1) hE d_Od_limb_54 (by decide) ?_
  refine z_isub hE d_Od_limb_55 (rfl) ?_
  refine z_callS hE d_Od_limb_56 cl_Od_73 (c_Od_isOut l g nx k 0 (nI n - nI 1)) rfl (Nat.le_of_ble_eq_true rfl) ⟨by decide, by decide⟩ ⟨by omega, by omega⟩ (fun r_56 g_56 nx_56 hp_56 => ?_) rfl
  obtain ⟨rfl, rfl, rfl⟩ := hp_56
  try dsimp only [Option.toList, List.nil_append, List.cons_append]
  rw [show (0 : Int32).toInt = 0 from rfl, hm1]
  have hspec : spLimb S a p k = if 0 ≤ k.toInt ∧ k.toInt < lmQ (ptQ q (fx p)) then (.long (lN (ptQ q (fx p) / 4294967296 ^ fx k % 4294967296)), sC S 0) else tellL S 3 := by unfold spLimb; rw [if_pos ⟨ha, hp⟩, hq]
  rw [hlm] at hspec
  by_cases hk : inI k 0 ((n : Int) - 1)
  case neg =>
    rw [if_neg hk]
    refine z_if_eq (tgt := 69) hE d_Od_limb_59 (by decide) (fun c_ => absurd c_ (by decide)) (fun _ => ?_)
    refine z_aload_n hE d_Od_limb_62 rfl ?_
    refine z_iconst (v := 3) hE d_Od_limb_63 (by decide) ?_
    refine z_callV hE d_Od_limb_64 cl_Od_48 (c_Od_tell l hV 3) (by assumption) cb_Od rfl (Nat.le_of_ble_eq_true rfl) ⟨by decide, by decide⟩ ⟨by omega, by omega⟩ (fun r_1 g_1 nx_1 hp_1 => ?_) rfl
    try dsimp only [Option.toList, List.nil_append, List.cons_append]
    obtain ⟨rfl, rfl, C1, W1⟩ := hp_1
    try dsimp only [Option.toList, List.nil_append, List.cons_append]
    refine z_i2l hE d_Od_limb_67 (rfl) ?_
    exact z_lret hE hQ d_Od_limb_68 rfl (by omega) (by omega) (pO_of (by rw [hspec, if_neg (by unfold inI at hk; omega)]; rfl) (Nat.le_refl _) C1 (gX_W W1 (Nat.le_refl _) (by omega)))
  rw [if_pos hk]
  refine z_if_eq (tgt := 69) hE d_Od_limb_59 (by decide) (fun _ => ?_) (fun c_ => absurd c_ (by decide))
  refine z_aload_n hE d_Od_limb_69 rfl ?_
  refine z_iconst (v := 0) hE d_Od_limb_70 (by decide) ?_
  refine z_callV hE d_Od_limb_71 cl_Od_48 (c_Od_tell l hV 0) (by assumption) cb_Od rfl (Nat.le_of_ble_eq_true rfl) ⟨by decide, by decide⟩ ⟨by omega, by omega⟩ (fun r_1 g_1 nx_1 hp_1 => ?_) rfl
  try dsimp only [Option.toList, List.nil_append, List.cons_append]
  obtain ⟨rfl, rfl, C1, W1⟩ := hp_1
  try dsimp only [Option.toList, List.nil_append, List.cons_append]
  have R1 : RN g_1 (if fx p = 0 then b + 1 else b + 3) K n d := by
    have hb : O + 62 < (if fx p = 0 then b + 1 else b + 3) := by split <;> omega
    exact ⟨by rw [W1 _ (Or.inr (by omega))]; exact R0.1, by rw [W1 _ (Or.inr (by omega))]; exact R0.2.1, R0.2.2⟩
  have R11 := R1.1
  refine z_pop hE d_Od_limb_74 rfl ?_
  refine z_aload hE d_Od_limb_75 rfl ?_
  refine z_iload_n hE d_Od_limb_77 rfl ?_
  refine z_callV hE d_Od_limb_78 cl_Od_115 (c_Na_at l nx R1 k) (by assumption) cb_Na rfl (Nat.le_of_ble_eq_true rfl) ⟨by decide, by decide⟩ ⟨by omega, by omega⟩ (fun r_78 g_78 nx_78 hp_78 => ?_) rfl
  obtain ⟨rfl, rfl, rfl⟩ := hp_78
  try dsimp only [Option.toList, List.nil_append, List.cons_append]
  have hdig : dz n d k.toInt = ptQ q (fx p) / 4294967296 ^ fx k % 4294967296 := by
    rw [← hv, val_dig R0.2.2.2.2 (fx k) n]
    congr 1
    unfold inI at hk
    unfold fx
    omega
  rw [hdig]
  exact z_lret hE hQ d_Od_limb_81 rfl (by omega) (by omega) (pO_of (by rw [hspec, if_pos (by unfold inI at hk; omega)]) (Nat.le_refl _) C1 (gX_W W1 (Nat.le_refl _) (by omega)))

