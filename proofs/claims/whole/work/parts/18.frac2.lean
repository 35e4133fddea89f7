/-! Fraction made, taken over; Row -/
theorem c_Fr_init (l : Launch) {g : Gh} {nx f : Nat} (N M : Nat) (hN : N ≤ 20) (hM : M ≤ 20) (hnx : nx = f + 1) (h : g f = some (.inr (1, [.null, .null, .int 0]))) : Ct l m_Fr_init 4 44 [.ref f, .int (nI N), .int (nI M)] g nx (fun r g' nx' => r = none ∧ nx' = nx + 4 ∧ FR g' f N M 0 0 0 ∧ gW g g' f (f + 5)) := by
  subst hnx
  refine Ct.of (by decide) (Nat.le_of_ble_eq_true rfl) (fun E hE hQ => ?_)
  refine z_aload_n hE d_Fr_init_0 rfl ?_
  refine z_objInit hE d_Fr_init_1 ol_Fr_1 ol_i ol_c (by decide) (Nat.le_of_ble_eq_true rfl) ?_
  refine z_aload_n hE d_Fr_init_4 rfl ?_
  refine z_new (fs := [.null, .int 0]) hE d_Fr_init_5 ct_Na rfl kl_Fr_7 is_Na it_Na (by decide) (by omega) (by omega) ?_
  refine z_dup hE d_Fr_init_8 rfl ?_
  refine z_iload_n hE d_Fr_init_9 rfl ?_
  refine z_callI hE d_Fr_init_10 cl_Fr_9 (c_Na_init l N hN rfl gS_s) rfl (Nat.le_of_ble_eq_true rfl) ⟨by decide, by decide⟩ ⟨by omega, by omega⟩ (fun r_1 g_1 nx_1 hp_1 => ?_) rfl
  try dsimp only [Option.toList, List.nil_append, List.cons_append]
  obtain ⟨rfl, rfl, hA1, hO1⟩ := hp_1
  try dsimp only [Option.toList, List.nil_append, List.cons_append]
  have e1 : g_1 f = some (.inr (1, [.null, .null, .int 0])) := by rw [hO1 f (by omega) (by omega), gS_n (by omega)]; exact h
  refine z_putF hE d_Fr_init_13 fl_Fr_12 ct_Fr ff_Fr_0 rfl ⟨_, _, _, rfl, rfl⟩ (e1) rfl rfl (Nat.le_of_ble_eq_true rfl) ?_
  refine z_aload_n hE d_Fr_init_16 rfl ?_
  refine z_new (fs := [.null, .int 0]) hE d_Fr_init_17 ct_Na rfl kl_Fr_7 is_Na it_Na (by decide) (by omega) (by omega) ?_
  refine z_dup hE d_Fr_init_20 rfl ?_
  refine z_iload_n hE d_Fr_init_21 rfl ?_
  refine z_callI hE d_Fr_init_22 cl_Fr_9 (c_Na_init l M hM rfl gS_s) rfl (Nat.le_of_ble_eq_true rfl) ⟨by decide, by decide⟩ ⟨by omega, by omega⟩ (fun r_2 g_2 nx_2 hp_2 => ?_) rfl
  try dsimp only [Option.toList, List.nil_append, List.cons_append]
  obtain ⟨rfl, rfl, hA2, hO2⟩ := hp_2
  try dsimp only [Option.toList, List.nil_append, List.cons_append]
  have e2 : g_2 f = some (.inr (1, [.ref (f + 1), .null, .int 0])) := by rw [hO2 f (by omega) (by omega), gS_n (by omega), gS_s]; rfl
  refine z_putF hE d_Fr_init_25 fl_Fr_18 ct_Fr ff_Fr_1 rfl ⟨_, _, _, rfl, rfl⟩ (e2) rfl rfl (Nat.le_of_ble_eq_true rfl) ?_
  refine z_aload_n hE d_Fr_init_28 rfl ?_
  refine z_iconst (v := 0) hE d_Fr_init_29 (by decide) ?_
  refine z_put hE d_Fr_init_30 fl_Fr_21 ct_Fr ff_Fr_2 (gS_s) rfl rfl (Nat.le_of_ble_eq_true rfl) ?_
  refine z_vret hE hQ d_Fr_init_33 rfl (by omega) (by omega) ⟨rfl, by omega, ⟨?_, ?_, ?_⟩, fun q hq => ?_⟩
  · rw [gS_s]; rfl
  · refine NA_gS (NA_gS ?_ (by omega) (by omega)) (by omega) (by omega)
    obtain ⟨n, d, q1, q2, q3⟩ := hA1
    refine ⟨n, d, ⟨?_, ?_, q1.2.2⟩, q2, q3⟩
    · rw [hO2 _ (by omega) (by omega), gS_n (by omega), gS_n (by omega)]; exact q1.1
    · rw [hO2 _ (by omega) (by omega), gS_n (by omega), gS_n (by omega)]; exact q1.2.1
  · exact NA_gS (NA_gS hA2 (by omega) (by omega)) (by omega) (by omega)
  · rw [gS_n (by omega), gS_n (by omega), hO2 q (by omega) (by omega), gS_n (by omega), gS_n (by omega), hO1 q (by omega) (by omega), gS_n (by omega)]
theorem c_Fr_become (l : Launch) {g : Gh} (nx : Nat) {f N M h N' M' a b a0 b0 : Nat} {sg s0 : Int32} (hf : FR g f N M s0 a0 b0) (hh : FR g h N' M' sg a b) (hfh : h + 5 ≤ f ∨ f + 5 ≤ h) (ha : a < 4294967296 ^ N) (hb : b < 4294967296 ^ M) : Ct l m_Fr_become 0 0 [.ref f, .ref h] g nx (fun r g' nx' => r = none ∧ nx = nx' ∧ FR g' f N M sg a b ∧ gW g g' f (f + 5)) := by
  obtain ⟨f1, f2, f3⟩ := id hf
  obtain ⟨h1, h2, h3⟩ := id hh
  refine Ct.of (by decide) (Nat.le_of_ble_eq_true rfl) (fun E hE hQ => ?_)
  refine z_aload_n hE d_Fr_become_0 rfl ?_
  refine z_aload_n hE d_Fr_become_1 rfl ?_
  refine z_get hE d_Fr_become_2 fl_Fr_21 (by assumption) rfl ?_
  refine z_put hE d_Fr_become_5 fl_Fr_21 ct_Fr ff_Fr_2 (by assumption) rfl rfl (Nat.le_of_ble_eq_true rfl) ?_
  have wS : gW g (gS g f (.inr (1, [Value.ref (f + 1), .ref (f + 3), .int s0].set 2 (.int sg)))) f (f + 5) := gW_S (by omega) (by omega)
  obtain ⟨g1, hg1⟩ : ∃ g1, gS g f (.inr (1, [Value.ref (f + 1), .ref (f + 3), .int s0].set 2 (.int sg))) = g1 := ⟨_, rfl⟩
  rw [hg1] at wS ⊢
  have k1 : g1 f = some (.inr (1, [.ref (f + 1), .ref (f + 3), .int sg])) := by rw [← hg1, gS_s]; rfl
  have kh := FR_W hh wS hfh
  obtain ⟨kh1, kh2, kh3⟩ := id kh
  have k2 : NA g1 (f + 1) N a0 := by rw [← hg1]; exact NA_gS f2 (by omega) (by omega)
  have k3 : NA g1 (f + 3) M b0 := by rw [← hg1]; exact NA_gS f3 (by omega) (by omega)
  obtain ⟨_, _, kR, -, -⟩ := id k2
  have kR1 := kR.1
  refine z_aload_n hE d_Fr_become_8 rfl ?_
  refine z_get hE d_Fr_become_9 fl_Fr_12 (by assumption) rfl ?_
  refine z_aload_n hE d_Fr_become_12 rfl ?_
  refine z_get hE d_Fr_become_13 fl_Fr_12 (by assumption) rfl ?_
  refine z_callV hE d_Fr_become_16 cl_Fr_25 (c_Na_become l nx kR kh2 (by omega) ha) (by assumption) cb_Na rfl (Nat.le_of_ble_eq_true rfl) ⟨by decide, by decide⟩ ⟨by omega, by omega⟩ (fun r_1 g_1 nx_1 hp_1 => ?_) rfl
  try dsimp only [Option.toList, List.nil_append, List.cons_append]
  obtain ⟨rfl, rfl, hA, hO⟩ := hp_1
  try dsimp only [Option.toList, List.nil_append, List.cons_append]
  have w2 : gW g g_1 f (f + 5) := gW_t wS (gW_O hO (by omega) (by omega))
  have m1 : g_1 f = some (.inr (1, [.ref (f + 1), .ref (f + 3), .int sg])) := by rw [hO f (by omega) (by omega)]; exact k1
  have mh := FR_W hh w2 hfh
  obtain ⟨mh1, mh2, mh3⟩ := id mh
  have m3 := NA_o k2 k3 (by omega) hO
  obtain ⟨_, _, mR, -, -⟩ := id m3
  have mR1 := mR.1
  refine z_aload_n hE d_Fr_become_19 rfl ?_
  refine z_get hE d_Fr_become_20 fl_Fr_18 (by assumption) rfl ?_
  refine z_aload_n hE d_Fr_become_23 rfl ?_
  refine z_get hE d_Fr_become_24 fl_Fr_18 (by assumption) rfl ?_
  refine z_callV hE d_Fr_become_27 cl_Fr_25 (c_Na_become l nx mR mh3 (by omega) hb) (by assumption) cb_Na rfl (Nat.le_of_ble_eq_true rfl) ⟨by decide, by decide⟩ ⟨by omega, by omega⟩ (fun r_2 g_2 nx_2 hp_2 => ?_) rfl
  try dsimp only [Option.toList, List.nil_append, List.cons_append]
  obtain ⟨rfl, rfl, hB, hO2⟩ := hp_2
  try dsimp only [Option.toList, List.nil_append, List.cons_append]
  refine z_vret hE hQ d_Fr_become_30 rfl (Nat.le_refl _) (Nat.le_refl _) ⟨rfl, rfl, ⟨?_, NA_o m3 hA (by omega) hO2, hB⟩, gW_t w2 (gW_O hO2 (by omega) (by omega))⟩
  rw [hO2 f (by omega) (by omega)]; exact m1
theorem l_neg {x : Nat} (h : x ≤ 9223372036854775808) : -lN (18446744073709551616 - x) = lN x := by
  have h1 : lN (18446744073709551616 - x) + lN x = 0 := by
    rw [lN_add, show 18446744073709551616 - x + x = 18446744073709551616 by omega]; rfl
  have h2 := congrArg (fun z => -lN (18446744073709551616 - x) + z) h1
  simp only [← Int64.add_assoc, Int64.add_left_neg, Int64.zero_add, Int64.add_zero] at h2
  exact h2.symm
/-- a long, by its sign and its size -/
def szL (x : Int64) : Nat := x.toInt.natAbs
theorem szL_le (x : Int64) : szL x ≤ 9223372036854775808 := by
  unfold szL
  have h1 := x.toInt_lt
  have h2 := x.le_toInt
  omega
theorem szL_nn {x : Int64} (h : ¬ x < 0) : x = lN (szL x) := by
  obtain ⟨k, hk, rfl⟩ := pk_lOf h
  unfold szL
  rw [pk_lT hk]
  rfl
theorem szL_neg {x : Int64} (h : x < 0) : -x = lN (szL x) := by
  obtain ⟨n, hn, rfl⟩ := wb_of x
  have hn : n < 18446744073709551616 := hn
  have h1 := lN_TI n
  rw [Nat.mod_eq_of_lt hn] at h1
  have h2 : ¬ n < 9223372036854775808 := by
    intro q
    rw [if_pos q] at h1
    rw [Int64.lt_iff_toInt_lt, h1] at h
    have : (0 : Int64).toInt = 0 := rfl
    omega
  rw [if_neg h2] at h1
  have h3 : szL (lN n) = 18446744073709551616 - n := by
    unfold szL
    rw [h1]
    omega
  rw [h3]
  have h4 := l_neg (x := 18446744073709551616 - n) (by omega)
  rw [show 18446744073709551616 - (18446744073709551616 - n) = n by omega] at h4
  exact h4
theorem c_Fr_becomeWhole (l : Launch) {g : Gh} (nx : Nat) {f a0 b0 : Nat} {s0 : Int32} (hf : FR g f 20 20 s0 a0 b0) (x : Int64) : Ct l m_Fr_becomeWhole 0 0 [.ref f, .long x] g nx (fun r g' nx' => r = none ∧ nx = nx' ∧ FR g' f 20 20 (sgL x) (szL x) 1 ∧ gW g g' f (f + 5)) := by
  obtain ⟨f1, f2, f3⟩ := id hf
  have hsz := szL_le x
  refine Ct.of (by decide) (Nat.le_of_ble_eq_true rfl) (fun E hE hQ => ?_)
  refine z_aload_n hE d_Fr_becomeWhole_0 rfl ?_
  refine z_lload_n hE d_Fr_becomeWhole_1 rfl ?_
  refine z_lconst (v := 0) hE d_Fr_becomeWhole_2 (by decide) ?_
  refine z_callS hE d_Fr_becomeWhole_3 cl_Fr_29 (c_Jl_compare l g nx x) rfl (Nat.le_of_ble_eq_true rfl) ⟨by decide, by decide⟩ ⟨by omega, by omega⟩ (fun r_3 g_3 nx_3 hp_3 => ?_) rfl
  obtain ⟨rfl, rfl, rfl⟩ := hp_3
  try dsimp only [Option.toList, List.nil_append, List.cons_append]
  refine z_put hE d_Fr_becomeWhole_6 fl_Fr_21 ct_Fr ff_Fr_2 (by assumption) rfl rfl (Nat.le_of_ble_eq_true rfl) ?_
  have wS : gW g (gS g f (.inr (1, [Value.ref (f + 1), .ref (f + 3), .int s0].set 2 (.int (sgL x))))) f (f + 5) := gW_S (by omega) (by omega)
  obtain ⟨g1, hg1⟩ : ∃ g1, gS g f (.inr (1, [Value.ref (f + 1), .ref (f + 3), .int s0].set 2 (.int (sgL x)))) = g1 := ⟨_, rfl⟩
  rw [hg1] at wS ⊢
  have k1 : g1 f = some (.inr (1, [.ref (f + 1), .ref (f + 3), .int (sgL x)])) := by rw [← hg1, gS_s]; rfl
  have k2 : NA g1 (f + 1) 20 a0 := by rw [← hg1]; exact NA_gS f2 (by omega) (by omega)
  have k3 : NA g1 (f + 3) 20 b0 := by rw [← hg1]; exact NA_gS f3 (by omega) (by omega)
  obtain ⟨_, _, kR, -, -⟩ := id k2
  have kR1 := kR.1
  have go : ∀ lv, lG lv 0 = some (.ref f) → zJ E g1 nx 0 0 25 lv [.long (lN (szL x)), .ref (f + 1)] := by
    intro lv l0
    refine z_sub (lv' := [(0, .ref f)]) (by simp only [List.map, l0]) ?_
    refine z_callV hE d_Fr_becomeWhole_25 cl_Fr_35 (c_Na_becomeLong l nx kR (szL x) (by omega)) (by assumption) cb_Na rfl (Nat.le_of_ble_eq_true rfl) ⟨by decide, by decide⟩ ⟨by omega, by omega⟩ (fun r_1 g_1 nx_1 hp_1 => ?_) rfl
    try dsimp only [Option.toList, List.nil_append, List.cons_append]
    obtain ⟨rfl, rfl, hA, hO⟩ := hp_1
    try dsimp only [Option.toList, List.nil_append, List.cons_append]
    have m1 : g_1 f = some (.inr (1, [.ref (f + 1), .ref (f + 3), .int (sgL x)])) := by rw [hO f (by omega) (by omega)]; exact k1
    have m3 := NA_o k2 k3 (by omega) hO
    obtain ⟨_, _, mR, -, -⟩ := id m3
    have mR1 := mR.1
    refine z_aload_n hE d_Fr_becomeWhole_28 rfl ?_
    refine z_get hE d_Fr_becomeWhole_29 fl_Fr_18 (by assumption) rfl ?_
    refine z_lconst (v := lN 1) hE d_Fr_becomeWhole_32 (by decide) ?_
    refine z_callV hE d_Fr_becomeWhole_33 cl_Fr_35 (c_Na_becomeLong l nx mR 1 (by decide)) (by assumption) cb_Na rfl (Nat.le_of_ble_eq_true rfl) ⟨by decide, by decide⟩ ⟨by omega, by omega⟩ (fun r_2 g_2 nx_2 hp_2 => ?_) rfl
    try dsimp only [Option.toList, List.nil_append, List.cons_append]
    obtain ⟨rfl, rfl, hB, hO2⟩ := hp_2
    try dsimp only [Option.toList, List.nil_append, List.cons_append]
    refine z_vret hE hQ d_Fr_becomeWhole_36 rfl (Nat.le_refl _) (Nat.le_refl _) ⟨rfl, rfl, ⟨?_, NA_o m3 hA (by omega) hO2, hB⟩, gW_t wS (gW_t (gW_O hO (by omega) (by omega)) (gW_O hO2 (by omega) (by omega)))⟩
    rw [hO2 f (by omega) (by omega)]; exact m1
  refine z_aload_n hE d_Fr_becomeWhole_9 rfl ?_
  refine z_get hE d_Fr_becomeWhole_10 fl_Fr_12 (by assumption) rfl ?_
  refine z_lload_n hE d_Fr_becomeWhole_13 rfl ?_
  refine z_lconst (v := 0) hE d_Fr_becomeWhole_14 (by decide) ?_
  refine z_lcmp hE d_Fr_becomeWhole_15 ?_
  refine z_if_ge (tgt := 24) hE d_Fr_becomeWhole_16 (by decide) (fun c_16 => ?_) (fun c_16 => ?_)
  · rw [lg_cmp_ge] at c_16
    have hx : ¬ x < 0 := by
      rw [Int64.lt_iff_toInt_lt]
      rw [Int64.le_iff_toInt_le] at c_16
      omega
    refine z_lload_n hE d_Fr_becomeWhole_24 rfl ?_
    rw [szL_nn hx]
    exact go _ rfl
  · rw [lg_cmp_ge] at c_16
    have hx : x < 0 := by
      rw [Int64.lt_iff_toInt_lt]
      rw [Int64.le_iff_toInt_le] at c_16
      omega
    refine z_lload_n hE d_Fr_becomeWhole_19 rfl ?_
    refine z_lneg (v := lN (szL x)) hE d_Fr_becomeWhole_20 (szL_neg hx) ?_
    refine z_goto (tgt := 25) hE d_Fr_becomeWhole_21 (by decide) ?_
    exact go _ rfl
/-- a copy that is kept: five cells come, from nx on -/
theorem c_Fr_copied (l : Launch) {g : Gh} {nx f N M a b : Nat} {sg : Int32} (hf : FR g f N M sg a b) (hlt : f + 5 ≤ nx) : Ct l m_Fr_copied 5 47 [.ref f] g nx (fun r g' nx' => r = some (.ref nx) ∧ nx' = nx + 5 ∧ (∃ N' M', FR g' nx N' M' sg a b) ∧ gW g g' nx (nx + 5)) := by
  obtain ⟨f1, f2, f3⟩ := id hf
  obtain ⟨n, d, ha, hav, han⟩ := id f2
  obtain ⟨m, e, hb, hbv, hbn⟩ := id f3
  have ha1 := ha.1
  have hb1 := hb.1
  have hn : n ≤ 20 := Nat.le_trans ha.2.2.1 ha.2.2.2.1
  have hm : m ≤ 20 := Nat.le_trans hb.2.2.1 hb.2.2.2.1
  refine Ct.of (by decide) (Nat.le_of_ble_eq_true rfl) (fun E hE hQ => ?_)
  refine z_new (fs := [.null, .null, .int 0]) hE d_Fr_copied_0 ct_Fr rfl kl_Fr_13 is_Fr it_Fr (by decide) (by omega) (by omega) ?_
  have wN : gW g (gS g nx (.inr (1, [.null, .null, .int 0]))) nx (nx + 5) := gW_S (by omega) (by omega)
  have kf := FR_W hf wN (Or.inl hlt)
  have ka : (gS g nx (.inr (1, [.null, .null, .int 0]))) f = some (.inr (1, [.ref (f + 1), .ref (f + 3), .int sg])) := kf.1
  have kb : (gS g nx (.inr (1, [.null, .null, .int 0]))) (f + 1) = some (oN (f + 1) n) := by rw [gS_n (by omega)]; exact ha1
  have kc : (gS g nx (.inr (1, [.null, .null, .int 0]))) (f + 3) = some (oN (f + 3) m) := by rw [gS_n (by omega)]; exact hb1
  refine z_dup hE d_Fr_copied_3 rfl ?_
  refine z_aload_n hE d_Fr_copied_4 rfl ?_
  refine z_get hE d_Fr_copied_5 fl_Fr_12 (by assumption) rfl ?_
  refine z_getN hE d_Fr_copied_8 fl_Fr_39 (by assumption) rfl ?_
  refine z_aload_n hE d_Fr_copied_11 rfl ?_
  refine z_get hE d_Fr_copied_12 fl_Fr_18 (by assumption) rfl ?_
  refine z_getN hE d_Fr_copied_15 fl_Fr_39 (by assumption) rfl ?_
  refine z_callI hE d_Fr_copied_18 cl_Fr_42 (c_Fr_init l n m hn hm rfl gS_s) rfl (Nat.le_of_ble_eq_true rfl) ⟨by decide, by decide⟩ ⟨by omega, by omega⟩ (fun r_1 g_1 nx_1 hp_1 => ?_) rfl
  try dsimp only [Option.toList, List.nil_append, List.cons_append]
  obtain ⟨rfl, rfl, hF, hW⟩ := hp_1
  try dsimp only [Option.toList, List.nil_append, List.cons_append]
  have w1 : gW g g_1 nx (nx + 5) := gW_t wN hW
  have kf1 := FR_W hf w1 (Or.inl hlt)
  obtain ⟨kf1a, -⟩ := id hF
  refine z_astore_n hE d_Fr_copied_21 rfl (by decide) ?_
  refine z_aload_n hE d_Fr_copied_22 rfl ?_
  refine z_aload_n hE d_Fr_copied_23 rfl ?_
  refine z_callV hE d_Fr_copied_24 cl_Fr_45 (c_Fr_become l _ hF kf1 (by omega) (by rw [← hav]; exact val_lt ha.2.2.2.2 n) (by rw [← hbv]; exact val_lt hb.2.2.2.2 m)) (by assumption) cb_Fr rfl (Nat.le_of_ble_eq_true rfl) ⟨by decide, by decide⟩ ⟨by omega, by omega⟩ (fun r_2 g_2 nx_2 hp_2 => ?_) rfl
  try dsimp only [Option.toList, List.nil_append, List.cons_append]
  obtain ⟨rfl, rfl, hF2, hW2⟩ := hp_2
  try dsimp only [Option.toList, List.nil_append, List.cons_append]
  refine z_aload_n hE d_Fr_copied_27 rfl ?_
  exact z_aret (r := some nx) hE hQ d_Fr_copied_28 rfl (Or.inl ⟨_, rfl⟩) (by omega) (by omega) ⟨rfl, by omega, ⟨n, m, hF2⟩, gW_t w1 hW2⟩

