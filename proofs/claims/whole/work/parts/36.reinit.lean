/-! Reckoner made; a double read -/
theorem c_Re_init (l : Launch) {g : Gh} {nx R : Nat} (hnx : nx = R + 1) (h : g R = some (.inr (3, [.null, .null, .null, .null, .null, .null, .null, .null]))) : Ct l m_Re_init 24 248 [.ref R] g nx (fun r g' nx' => r = none ∧ nx' = nx + 24 ∧ (∃ v, RV g' R 0 v) ∧ gW g g' R (R + 25)) := by
  subst hnx
  refine Ct.of (by decide) (Nat.le_of_ble_eq_true rfl) (fun E hE hQ => ?_)
  refine z_aload_n hE d_Re_init_0 rfl ?_
  refine z_objInit hE d_Re_init_1 ol_Re_1 ol_i ol_c (by decide) (Nat.le_of_ble_eq_true rfl) ?_
  refine z_aload_n hE d_Re_init_4 rfl ?_
  refine z_new (fs := [.null, .null, .int 0]) hE d_Re_init_5 ct_Fr rfl kl_Re_7 is_Fr it_Fr (by decide) (by omega) (by omega) ?_
  refine z_dup hE d_Re_init_8 rfl ?_
  refine z_bipush (v := nI 20) hE d_Re_init_9 (by decide) ?_
  refine z_bipush (v := nI 20) hE d_Re_init_11 (by decide) ?_
  refine z_callI hE d_Re_init_13 cl_Re_11 (c_Fr_init l 20 20 (by omega) (by omega) rfl gS_s) rfl (Nat.le_of_ble_eq_true rfl) ⟨by decide, by decide⟩ ⟨by omega, by omega⟩ (fun r_1 g_1 nx_1 hp_1 => ?_) rfl
  try dsimp only [Option.toList, List.nil_append, List.cons_append]
  obtain ⟨rfl, rfl, F1, W1⟩ := hp_1
  try dsimp only [Option.toList, List.nil_append, List.cons_append]
  have e1 : g_1 R = some (.inr (3, [.null, .null, .null, .null, .null, .null, .null, .null])) := by rw [W1 R (by omega), gS_n (by omega)]; exact h
  refine z_putF hE d_Re_init_16 fl_Re_14 ct_Re ff_Re_0 rfl ⟨_, _, _, rfl, rfl⟩ (e1) rfl rfl (Nat.le_of_ble_eq_true rfl) ?_
  refine z_aload_n hE d_Re_init_19 rfl ?_
  refine z_new (fs := [.null, .null, .null]) hE d_Re_init_20 ct_Dv rfl kl_Re_20 is_Dv it_Dv (by decide) (by omega) (by omega) ?_
  refine z_dup hE d_Re_init_23 rfl ?_
  refine z_callIN hE d_Re_init_24 cl_Re_22 (c_Dv_init l rfl gS_s) rfl (Nat.le_of_ble_eq_true rfl) ⟨by decide, by decide⟩ ⟨by omega, by omega⟩ (fun r_2 g_2 nx_2 hp_2 => ?_) rfl
  try dsimp only [Option.toList, List.nil_append, List.cons_append]
  obtain ⟨rfl, rfl, D2, A1, A2, A3, W2⟩ := hp_2
  try dsimp only [Option.toList, List.nil_append, List.cons_append]
  have e2 : g_2 R = some (.inr (3, [.ref (R + 1), .null, .null, .null, .null, .null, .null, .null])) := by rw [W2 R (by omega), gS_n (by omega), gS_s]; rfl
  have k2 : ∀ q, q ≠ R → q < R + 6 → g_2 q = g_1 q := fun q a1 a2 => by rw [W2 q (by omega), gS_n (by omega), gS_n a1]
  refine z_putF hE d_Re_init_27 fl_Re_23 ct_Re ff_Re_1 rfl ⟨_, _, _, rfl, rfl⟩ (e2) rfl rfl (Nat.le_of_ble_eq_true rfl) ?_
  refine z_aload_n hE d_Re_init_30 rfl ?_
  refine z_new (fs := [.null, .int 0]) hE d_Re_init_31 ct_Na rfl kl_Re_9 is_Na it_Na (by decide) (by omega) (by omega) ?_
  refine z_dup hE d_Re_init_34 rfl ?_
  refine z_bipush (v := nI 20) hE d_Re_init_35 (by decide) ?_
  refine z_callI hE d_Re_init_37 cl_Re_27 (c_Na_init l 20 (by omega) rfl gS_s) rfl (Nat.le_of_ble_eq_true rfl) ⟨by decide, by decide⟩ ⟨by omega, by omega⟩ (fun r_3 g_3 nx_3 hp_3 => ?_) rfl
  try dsimp only [Option.toList, List.nil_append, List.cons_append]
  obtain ⟨rfl, rfl, B3, O3⟩ := hp_3
  try dsimp only [Option.toList, List.nil_append, List.cons_append]
  have e3 : g_3 R = some (.inr (3, [.ref (R + 1), .ref (R + 6), .null, .null, .null, .null, .null, .null])) := by rw [O3 R (by omega) (by omega), gS_n (by omega), gS_s]; rfl
  have k3 : ∀ q, q ≠ R → q < R + 13 → g_3 q = g_2 q := fun q a1 a2 => by rw [O3 q (by omega) (by omega), gS_n (by omega), gS_n a1]
  refine z_putF hE d_Re_init_40 fl_Re_30 ct_Re ff_Re_2 rfl ⟨_, _, _, rfl, rfl⟩ (e3) rfl rfl (Nat.le_of_ble_eq_true rfl) ?_
  refine z_aload_n hE d_Re_init_43 rfl ?_
  refine z_new (fs := [.null, .int 0]) hE d_Re_init_44 ct_Na rfl kl_Re_9 is_Na it_Na (by decide) (by omega) (by omega) ?_
  refine z_dup hE d_Re_init_47 rfl ?_
  refine z_bipush (v := nI 20) hE d_Re_init_48 (by decide) ?_
  refine z_callI hE d_Re_init_50 cl_Re_27 (c_Na_init l 20 (by omega) rfl gS_s) rfl (Nat.le_of_ble_eq_true rfl) ⟨by decide, by decide⟩ ⟨by omega, by omega⟩ (fun r_4 g_4 nx_4 hp_4 => ?_) rfl
  try dsimp only [Option.toList, List.nil_append, List.cons_append]
  obtain ⟨rfl, rfl, B4, O4⟩ := hp_4
  try dsimp only [Option.toList, List.nil_append, List.cons_append]
  have e4 : g_4 R = some (.inr (3, [.ref (R + 1), .ref (R + 6), .ref (R + 13), .null, .null, .null, .null, .null])) := by rw [O4 R (by omega) (by omega), gS_n (by omega), gS_s]; rfl
  have k4 : ∀ q, q ≠ R → q < R + 15 → g_4 q = g_3 q := fun q a1 a2 => by rw [O4 q (by omega) (by omega), gS_n (by omega), gS_n a1]
  refine z_putF hE d_Re_init_53 fl_Re_34 ct_Re ff_Re_3 rfl ⟨_, _, _, rfl, rfl⟩ (e4) rfl rfl (Nat.le_of_ble_eq_true rfl) ?_
  refine z_aload_n hE d_Re_init_56 rfl ?_
  refine z_new (fs := [.null, .int 0]) hE d_Re_init_57 ct_Na rfl kl_Re_9 is_Na it_Na (by decide) (by omega) (by omega) ?_
  refine z_dup hE d_Re_init_60 rfl ?_
  refine z_bipush (v := nI 20) hE d_Re_init_61 (by decide) ?_
  refine z_callI hE d_Re_init_63 cl_Re_27 (c_Na_init l 20 (by omega) rfl gS_s) rfl (Nat.le_of_ble_eq_true rfl) ⟨by decide, by decide⟩ ⟨by omega, by omega⟩ (fun r_5 g_5 nx_5 hp_5 => ?_) rfl
  try dsimp only [Option.toList, List.nil_append, List.cons_append]
  obtain ⟨rfl, rfl, B5, O5⟩ := hp_5
  try dsimp only [Option.toList, List.nil_append, List.cons_append]
  have e5 : g_5 R = some (.inr (3, [.ref (R + 1), .ref (R + 6), .ref (R + 13), .ref (R + 15), .null, .null, .null, .null])) := by rw [O5 R (by omega) (by omega), gS_n (by omega), gS_s]; rfl
  have k5 : ∀ q, q ≠ R → q < R + 17 → g_5 q = g_4 q := fun q a1 a2 => by rw [O5 q (by omega) (by omega), gS_n (by omega), gS_n a1]
  refine z_putF hE d_Re_init_66 fl_Re_37 ct_Re ff_Re_4 rfl ⟨_, _, _, rfl, rfl⟩ (e5) rfl rfl (Nat.le_of_ble_eq_true rfl) ?_
  refine z_aload_n hE d_Re_init_69 rfl ?_
  refine z_new (fs := [.null, .int 0]) hE d_Re_init_70 ct_Na rfl kl_Re_9 is_Na it_Na (by decide) (by omega) (by omega) ?_
  refine z_dup hE d_Re_init_73 rfl ?_
  refine z_bipush (v := nI 20) hE d_Re_init_74 (by decide) ?_
  refine z_callI hE d_Re_init_76 cl_Re_27 (c_Na_init l 20 (by omega) rfl gS_s) rfl (Nat.le_of_ble_eq_true rfl) ⟨by decide, by decide⟩ ⟨by omega, by omega⟩ (fun r_6 g_6 nx_6 hp_6 => ?_) rfl
  try dsimp only [Option.toList, List.nil_append, List.cons_append]
  obtain ⟨rfl, rfl, B6, O6⟩ := hp_6
  try dsimp only [Option.toList, List.nil_append, List.cons_append]
  have e6 : g_6 R = some (.inr (3, [.ref (R + 1), .ref (R + 6), .ref (R + 13), .ref (R + 15), .ref (R + 17), .null, .null, .null])) := by rw [O6 R (by omega) (by omega), gS_n (by omega), gS_s]; rfl
  have k6 : ∀ q, q ≠ R → q < R + 19 → g_6 q = g_5 q := fun q a1 a2 => by rw [O6 q (by omega) (by omega), gS_n (by omega), gS_n a1]
  refine z_putF hE d_Re_init_79 fl_Re_40 ct_Re ff_Re_5 rfl ⟨_, _, _, rfl, rfl⟩ (e6) rfl rfl (Nat.le_of_ble_eq_true rfl) ?_
  refine z_aload_n hE d_Re_init_82 rfl ?_
  refine z_new (fs := [.null, .int 0]) hE d_Re_init_83 ct_Na rfl kl_Re_9 is_Na it_Na (by decide) (by omega) (by omega) ?_
  refine z_dup hE d_Re_init_86 rfl ?_
  refine z_bipush (v := nI 20) hE d_Re_init_87 (by decide) ?_
  refine z_callI hE d_Re_init_89 cl_Re_27 (c_Na_init l 20 (by omega) rfl gS_s) rfl (Nat.le_of_ble_eq_true rfl) ⟨by decide, by decide⟩ ⟨by omega, by omega⟩ (fun r_7 g_7 nx_7 hp_7 => ?_) rfl
  try dsimp only [Option.toList, List.nil_append, List.cons_append]
  obtain ⟨rfl, rfl, B7, O7⟩ := hp_7
  try dsimp only [Option.toList, List.nil_append, List.cons_append]
  have e7 : g_7 R = some (.inr (3, [.ref (R + 1), .ref (R + 6), .ref (R + 13), .ref (R + 15), .ref (R + 17), .ref (R + 19), .null, .null])) := by rw [O7 R (by omega) (by omega), gS_n (by omega), gS_s]; rfl
  have k7 : ∀ q, q ≠ R → q < R + 21 → g_7 q = g_6 q := fun q a1 a2 => by rw [O7 q (by omega) (by omega), gS_n (by omega), gS_n a1]
  refine z_putF hE d_Re_init_92 fl_Re_43 ct_Re ff_Re_6 rfl ⟨_, _, _, rfl, rfl⟩ (e7) rfl rfl (Nat.le_of_ble_eq_true rfl) ?_
  refine z_aload_n hE d_Re_init_95 rfl ?_
  refine z_new (fs := [.null, .int 0]) hE d_Re_init_96 ct_Na rfl kl_Re_9 is_Na it_Na (by decide) (by omega) (by omega) ?_
  refine z_dup hE d_Re_init_99 rfl ?_
  refine z_bipush (v := nI 20) hE d_Re_init_100 (by decide) ?_
  refine z_callI hE d_Re_init_102 cl_Re_27 (c_Na_init l 20 (by omega) rfl gS_s) rfl (Nat.le_of_ble_eq_true rfl) ⟨by decide, by decide⟩ ⟨by omega, by omega⟩ (fun r_8 g_8 nx_8 hp_8 => ?_) rfl
  try dsimp only [Option.toList, List.nil_append, List.cons_append]
  obtain ⟨rfl, rfl, B8, O8⟩ := hp_8
  try dsimp only [Option.toList, List.nil_append, List.cons_append]
  have e8 : g_8 R = some (.inr (3, [.ref (R + 1), .ref (R + 6), .ref (R + 13), .ref (R + 15), .ref (R + 17), .ref (R + 19), .ref (R + 21), .null])) := by rw [O8 R (by omega) (by omega), gS_n (by omega), gS_s]; rfl
  have k8 : ∀ q, q ≠ R → q < R + 23 → g_8 q = g_7 q := fun q a1 a2 => by rw [O8 q (by omega) (by omega), gS_n (by omega), gS_n a1]
  refine z_putF hE d_Re_init_105 fl_Re_46 ct_Re ff_Re_7 rfl ⟨_, _, _, rfl, rfl⟩ (e8) rfl rfl (Nat.le_of_ble_eq_true rfl) ?_
  -- what was made stays
  have mv : ∀ (ga : Gh) (a N v : Nat), R + 1 ≤ a → (∀ q, q = a ∨ q = a + 1 → g_8 q = ga q) → NA ga a N v → NA g_8 a N v := by
    intro ga a N v a1 a2 hN
    obtain ⟨n, d, q1, q2, q3⟩ := hN
    exact ⟨n, d, ⟨by rw [a2 _ (Or.inl rfl)]; exact q1.1, by rw [a2 _ (Or.inr rfl)]; exact q1.2.1, q1.2.2⟩, q2, q3⟩
  have j7 : ∀ q, q ≠ R → q < R + 23 → g_8 q = g_7 q := k8
  have j6 : ∀ q, q ≠ R → q < R + 21 → g_8 q = g_6 q := fun q a b => (j7 q a (by omega)).trans (k7 q a b)
  have j5 : ∀ q, q ≠ R → q < R + 19 → g_8 q = g_5 q := fun q a b => (j6 q a (by omega)).trans (k6 q a b)
  have j4 : ∀ q, q ≠ R → q < R + 17 → g_8 q = g_4 q := fun q a b => (j5 q a (by omega)).trans (k5 q a b)
  have j3 : ∀ q, q ≠ R → q < R + 15 → g_8 q = g_3 q := fun q a b => (j4 q a (by omega)).trans (k4 q a b)
  have j2 : ∀ q, q ≠ R → q < R + 13 → g_8 q = g_2 q := fun q a b => (j3 q a (by omega)).trans (k3 q a b)
  have j1 : ∀ q, q ≠ R → q < R + 6 → g_8 q = g_1 q := fun q a b => (j2 q a (by omega)).trans (k2 q a b)
  refine z_vret hE hQ d_Re_init_108 rfl (by omega) (by omega) ⟨rfl, by omega, ⟨fun _ => 0, ?_, ?_, ?_, fun k hk => ?_⟩, fun q hq => ?_⟩
  · unfold RE; rw [gS_s]; rfl
  · unfold DV
    rw [gS_n (by omega), j2 _ (by omega) (by omega)]
    exact D2
  · rw [gS_n (by omega), j1 _ (by omega) (by omega)]
    exact F1.1
  · have b := kL_b k hk
    refine NA_gS ?_ (by omega) (by omega)
    simp only [kL, List.mem_cons, List.not_mem_nil, or_false] at hk
    rcases hk with rfl | rfl | rfl | rfl | rfl | rfl | rfl | rfl | rfl | rfl | rfl
    · exact mv g_1 _ _ _ (by omega) (fun q hq => j1 q (by omega) (by omega)) F1.2.1
    · exact mv g_1 _ _ _ (by omega) (fun q hq => j1 q (by omega) (by omega)) F1.2.2
    · exact mv g_2 _ _ _ (by omega) (fun q hq => j2 q (by omega) (by omega)) A1
    · exact mv g_2 _ _ _ (by omega) (fun q hq => j2 q (by omega) (by omega)) A2
    · exact mv g_2 _ _ _ (by omega) (fun q hq => j2 q (by omega) (by omega)) A3
    · exact mv g_3 _ _ _ (by omega) (fun q hq => j3 q (by omega) (by omega)) B3
    · exact mv g_4 _ _ _ (by omega) (fun q hq => j4 q (by omega) (by omega)) B4
    · exact mv g_5 _ _ _ (by omega) (fun q hq => j5 q (by omega) (by omega)) B5
    · exact mv g_6 _ _ _ (by omega) (fun q hq => j6 q (by omega) (by omega)) B6
    · exact mv g_7 _ _ _ (by omega) (fun q hq => j7 q (by omega) (by omega)) B7
    · exact B8
  · rcases hq with a | a
    · rw [gS_n (by omega), j1 q (by omega) (by omega), W1 q (by omega), gS_n (by omega)]
    · rw [gS_n (by omega), O8 q (by omega) (by omega), gS_n (by omega), gS_n (by omega), O7 q (by omega) (by omega), gS_n (by omega), gS_n (by omega), O6 q (by omega) (by omega), gS_n (by omega), gS_n (by omega), O5 q (by omega) (by omega), gS_n (by omega), gS_n (by omega), O4 q (by omega) (by omega), gS_n (by omega), gS_n (by omega), O3 q (by omega) (by omega), gS_n (by omega), gS_n (by omega), W2 q (by omega), gS_n (by omega), gS_n (by omega), W1 q (by omega), gS_n (by omega)]
/-- a double's mantissa and the number of twos -/
def dm (b : Nat) : Nat := b % 4503599627370496 + if b / 4503599627370496 % 2048 = 0 then 0 else 4503599627370496
def dw (b : Nat) : Int := ((if b / 4503599627370496 % 2048 = 0 then 1 else b / 4503599627370496 % 2048 : Nat) : Int) - 1075
def dQ (b : Nat) : Qf := mk (if b < 9223372036854775808 then 1 else -1) (dm b * 2 ^ (dw b).toNat) (2 ^ (-dw b).toNat)
theorem dm_lt (b : Nat) : dm b < 9007199254740992 := by unfold dm; split <;> omega
theorem dQ_0 {b : Nat} (h : dm b = 0) : dQ b = (0, 0, 1) := by
  unfold dQ mk
  rw [h, Nat.zero_mul, if_pos rfl, Nat.gcd_zero_left, Nat.zero_div, Nat.div_self (p2_pos _)]
theorem dQ_1 {b m z : Nat} (h : dm b = m * 2 ^ z) (hm : m % 2 = 1) : dQ b = (if b < 9223372036854775808 then 1 else -1, m * 2 ^ (dw b + z).toNat, 2 ^ (-(dw b + z)).toNat) := by
  unfold dQ
  rw [h]
  exact mk_two hm
theorem dQ_ok (b : Nat) : QOK (dQ b) := mk_ok (fun _ => by split; exact Or.inl rfl; exact Or.inr rfl) (p2_pos _)
theorem dm_or {a : Nat} (ha : a < 4503599627370496) : lN a ||| (4503599627370496 : Int64) = lN (a + 4503599627370496) := by
  have h := g_or' (k := 52) (p := 4503599627370496) (a := a) (b := 1) rfl ha (by omega)
  rw [Nat.one_mul] at h
  exact h
theorem w256 : (4294967296 : Nat) ^ 8 = 2 ^ 256 := by decide
set_option maxHeartbeats 1000000 in
theorem c_Re_readDouble (l : Launch) {g : Gh} (nx : Nat) {R b : Nat} {sg : Int32} {v : Nat → Nat} (hV : RV g R sg v) (hb : b < 18446744073709551616) : Ct l m_Re_readDouble 0 0 [.ref R, .long (lN b)] g nx (fun w g' nx' => nx = nx' ∧ gW g g' R (R + 25) ∧ ∃ (s' : Int32) (v' : Nat → Nat), RV g' R s' v' ∧ (QW (dQ b) ∧ w = some (.int 1) ∧ dQ b = (s', v' 2, v' 4) ∨ ¬ QW (dQ b) ∧ w = some (.int 0))) := by
  have r1 := hV.1
  unfold RE at r1
  have r3 := hV.2.2.1
  have dml := dm_lt b
  have hw1 : -1074 ≤ dw b := by unfold dw; split <;> omega
  have hw2 : dw b ≤ 1000 := by unfold dw; split <;> omega
  refine Ct.of (by decide) (Nat.le_of_ble_eq_true rfl) (fun E hE hQ => ?_)
  -- behind the twos
  have tail : ∀ (m z : Nat) (x : Int32) lv, dm b = m * 2 ^ z → (dm b ≠ 0 → m % 2 = 1) → z ≤ 60 → x.toInt = dw b + z → lG lv 0 = some (.ref R) → lG lv 1 = some (.long (lN b)) → lG lv 4 = some (.long (lN m)) → lG lv 6 = some (.int x) → zJ E g nx 0 0 76 lv [] := by
    intro m z x lv hm ho hz hx l0 l1 l4 l6
    refine z_sub (lv' := [(0, .ref R), (1, .long (lN b)), (4, .long (lN m)), (6, .int x)]) (by simp only [List.map, l0, l1, l4, l6]) ?_
    have hmle : m ≤ dm b := by rw [hm]; exact Nat.le_mul_of_pos_right m (p2_pos z)
    have hbt := lN_ti (m := b) hb
    have go : ∀ (y : Int64) lv, szL y = m → (m ≠ 0 → sgL y = if b < 9223372036854775808 then 1 else -1) → (m = 0 → sgL y = 0) → lG lv 0 = some (.ref R) → lG lv 4 = some (.long (lN m)) → lG lv 6 = some (.int x) → zJ E g nx 0 0 94 lv [.long y, .ref (R + 1)] := by
      intro y lv hy hsg hs0 l0 l4 l6
      refine z_sub (lv' := [(0, .ref R), (4, .long (lN m)), (6, .int x)]) (by simp only [List.map, l0, l4, l6]) ?_
      refine z_callV hE d_Re_readDouble_94 cl_Re_105 (c_Fr_becomeWhole l nx (RV_F hV) y) (r3) cb_Fr rfl (Nat.le_of_ble_eq_true rfl) ⟨by decide, by decide⟩ ⟨by omega, by omega⟩ (fun r_1 g_1 nx_1 hp_1 => ?_) rfl
      try dsimp only [Option.toList, List.nil_append, List.cons_append]
      obtain ⟨rfl, rfl, F1, W1⟩ := hp_1
      try dsimp only [Option.toList, List.nil_append, List.cons_append]
      rw [hy] at F1
      have w1 : gW g g_1 R (R + 25) := gW_le W1 (by omega) (by omega)
      have V1 : RV g_1 R (sgL y) (upN (upN v 2 m) 4 1) := by
        refine ⟨?_, ?_, F1.1, fun j hj => ?_⟩
        · unfold RE; rw [W1 R (by omega)]; exact hV.1
        · unfold DV; rw [W1 (R + 6) (by omega)]; exact hV.2.1
        · have hn := hV.2.2.2 j hj
          have c := kL_b j hj
          by_cases j4 : j = 4
          · rw [j4, upN_s]; exact F1.2.2
          · rw [upN_n j4]
            by_cases j2 : j = 2
            · rw [j2, upN_s]; exact F1.2.1
            · rw [upN_n j2]
              have : 6 ≤ j := by
                simp only [kL, List.mem_cons, List.not_mem_nil, or_false] at hj
                omega
              exact NA_W hn W1 (by omega)
      refine z_lload hE d_Re_readDouble_97 rfl ?_
      refine z_lconst (v := lN 0) hE d_Re_readDouble_99 (by decide) ?_
      refine z_lcmp hE d_Re_readDouble_100 ?_
      refine z_if_ne (tgt := 106) hE d_Re_readDouble_101 (by decide) (fun c_101 => ?_) (fun c_101 => ?_)
      · rw [lg_cmp_eq, pk_lEQ (by omega) (by omega)] at c_101
        have hd0 : dm b ≠ 0 := by
          rw [hm]
          have := Nat.mul_pos (Nat.pos_of_ne_zero c_101) (p2_pos z)
          omega
        have hodd := ho hd0
        have hq := dQ_1 hm hodd
        rw [← hx] at hq
        have m1 := V1.1
        unfold RE at m1
        have m3 := V1.2.2.1
        have notw : ∀ lv, ¬ QW (dQ b) → zJ E g_1 nx 0 0 122 lv [] := by
          intro lv hn
          refine z_iconst (v := 0) hE d_Re_readDouble_122 (by decide) ?_
          exact z_zret hE hQ d_Re_readDouble_123 rfl (Nat.le_refl _) (Nat.le_refl _) (Or.inl rfl) ⟨rfl, w1, _, _, V1, Or.inr ⟨hn, rfl⟩⟩
        refine z_iload hE d_Re_readDouble_106 rfl ?_
        refine z_sipush (v := nI 256) hE d_Re_readDouble_108 (by decide) ?_
        refine z_icmp_ge (tgt := 122) hE d_Re_readDouble_111 (by decide) (fun c_111 => ?_) (fun c_111 => ?_)
        · rw [Int32.le_iff_toInt_le, nI_ti (by omega)] at c_111
          refine notw _ (fun q => ?_)
          have q1 := q.1
          rw [hq] at q1
          dsimp only at q1
          have q2 := Nat.mul_le_mul (show 1 ≤ m by omega) (Nat.pow_le_pow_right (show 0 < 2 by decide) (show 256 ≤ x.toInt.toNat by omega))
          rw [w256] at q1
          rw [Nat.one_mul] at q2
          exact absurd q1 (Nat.not_lt_of_le q2)
        · rw [Int32.le_iff_toInt_le, nI_ti (by omega)] at c_111
          refine z_iload hE d_Re_readDouble_114 rfl ?_
          refine z_sipush (v := (-256 : Int32)) hE d_Re_readDouble_116 (by decide) ?_
          refine z_icmp_gt (tgt := 124) hE d_Re_readDouble_119 (by decide) (fun c_119 => ?_) (fun c_119 => ?_)
          · rw [Int32.lt_iff_toInt_lt] at c_119
            have k256 : (-256 : Int32).toInt = -256 := by decide
            rw [k256] at c_119
            have n2 : NA g_1 (R + 2) 20 m := F1.2.1
            obtain ⟨_, _, ⟨K21, -⟩, -⟩ := id n2
            refine z_aload_n hE d_Re_readDouble_124 rfl ?_
            refine z_get hE d_Re_readDouble_125 fl_Re_14 (by assumption) rfl ?_
            refine z_getN hE d_Re_readDouble_128 fl_Re_67 (by assumption) rfl ?_
            refine z_iload hE d_Re_readDouble_131 rfl ?_
            refine z_callV hE d_Re_readDouble_133 cl_Re_136 (c_Na_shiftUpI l nx (p := 2) n2 x (by omega) (Nat.lt_of_le_of_lt hmle (Nat.lt_of_lt_of_le dml (by decide))) (by omega)) (by assumption) cb_Na rfl (Nat.le_of_ble_eq_true rfl) ⟨by decide, by decide⟩ ⟨by omega, by omega⟩ (fun r_2 g_2 nx_2 hp_2 => ?_) rfl
            try dsimp only [Option.toList, List.nil_append, List.cons_append]
            obtain ⟨rfl, rfl, hA2, hO2⟩ := hp_2
            try dsimp only [Option.toList, List.nil_append, List.cons_append]
            have V2 := RV_O V1 (show 2 ∈ kL by decide) hA2 hO2
            have w2 : gW g g_2 R (R + 25) := gW_t w1 (gW_O hO2 (by omega) (by omega))
            have n4 : NA g_2 (R + 4) 20 1 := V2.2.2.2 4 (by decide)
            obtain ⟨_, _, ⟨K41, -⟩, -⟩ := id n4
            have m1 := V2.1
            unfold RE at m1
            have m3 := V2.2.2.1
            have hnx : (-x).toInt = -x.toInt := i_negI (by omega) (by omega)
            refine z_aload_n hE d_Re_readDouble_136 rfl ?_
            refine z_get hE d_Re_readDouble_137 fl_Re_14 (by assumption) rfl ?_
            refine z_getN hE d_Re_readDouble_140 fl_Re_74 (by assumption) rfl ?_
            refine z_iload hE d_Re_readDouble_143 rfl ?_
            refine z_ineg hE d_Re_readDouble_145 (rfl) ?_
            refine z_callV hE d_Re_readDouble_146 cl_Re_136 (c_Na_shiftUpI l nx (p := 1) n4 (-x) (by omega) (by decide) (by omega)) (by assumption) cb_Na rfl (Nat.le_of_ble_eq_true rfl) ⟨by decide, by decide⟩ ⟨by omega, by omega⟩ (fun r_3 g_3 nx_3 hp_3 => ?_) rfl
            try dsimp only [Option.toList, List.nil_append, List.cons_append]
            obtain ⟨rfl, rfl, hA3, hO3⟩ := hp_3
            try dsimp only [Option.toList, List.nil_append, List.cons_append]
            have V3 := RV_O V2 (show 4 ∈ kL by decide) hA3 hO3
            have w3 : gW g g_3 R (R + 25) := gW_t w2 (gW_O hO3 (by omega) (by omega))
            rw [hnx, Nat.one_mul] at V3
            have F3 := RV_F V3
            have e2 : upN (upN (upN (upN v 2 m) 4 1) 2 (m * 2 ^ x.toInt.toNat)) 4 (2 ^ (-x.toInt).toNat) 2 = m * 2 ^ x.toInt.toNat := by rw [upN_n (by decide), upN_s]
            have e4 : upN (upN (upN (upN v 2 m) 4 1) 2 (m * 2 ^ x.toInt.toNat)) 4 (2 ^ (-x.toInt).toNat) 4 = 2 ^ (-x.toInt).toNat := by rw [upN_s]
            have m1 := V3.1
            unfold RE at m1
            have m3 := V3.2.2.1
            refine z_aload_n hE d_Re_readDouble_149 rfl ?_
            refine z_get hE d_Re_readDouble_150 fl_Re_14 (by assumption) rfl ?_
            refine z_callV hE d_Re_readDouble_153 cl_Re_139 (c_Fr_isWide l nx F3) (by assumption) cb_Fr rfl (Nat.le_of_ble_eq_true rfl) ⟨by decide, by decide⟩ ⟨by omega, by omega⟩ (fun r_153 g_153 nx_153 hp_153 => ?_) rfl
            obtain ⟨rfl, rfl, rfl⟩ := hp_153
            try dsimp only [Option.toList, List.nil_append, List.cons_append]
            rw [e2, e4]
            have hqe : dQ b = (sgL y, m * 2 ^ x.toInt.toNat, 2 ^ (-x.toInt).toNat) := by rw [hq, hsg c_101]
            by_cases hwd : m * 2 ^ x.toInt.toNat < 4294967296 ^ 8 ∧ 2 ^ (-x.toInt).toNat < 4294967296 ^ 8
            · rw [if_pos hwd]
              exact z_zret hE hQ d_Re_readDouble_156 rfl (Nat.le_refl _) (Nat.le_refl _) (Or.inr rfl) ⟨rfl, w3, _, _, V3, Or.inl ⟨by rw [hqe]; exact hwd, rfl, by rw [e2, e4]; exact hqe⟩⟩
            · rw [if_neg hwd]
              exact z_zret hE hQ d_Re_readDouble_156 rfl (Nat.le_refl _) (Nat.le_refl _) (Or.inl rfl) ⟨rfl, w3, _, _, V3, Or.inr ⟨by rw [hqe]; exact hwd, rfl⟩⟩
          · rw [Int32.lt_iff_toInt_lt] at c_119
            have k256 : (-256 : Int32).toInt = -256 := by decide
            rw [k256] at c_119
            refine notw _ (fun q => ?_)
            have q1 := q.2
            rw [hq] at q1
            dsimp only at q1
            have q2 := Nat.pow_le_pow_right (show 0 < 2 by decide) (show 256 ≤ (-x.toInt).toNat by omega)
            rw [w256] at q1
            exact absurd q1 (Nat.not_lt_of_le q2)
      · rw [lg_cmp_eq, pk_lEQ (by omega) (by omega)] at c_101
        refine z_iconst (v := 1) hE d_Re_readDouble_104 (by decide) ?_
        have hd0 : dm b = 0 := by rw [hm, c_101, Nat.zero_mul]
        refine z_zret hE hQ d_Re_readDouble_105 rfl (Nat.le_refl _) (Nat.le_refl _) (Or.inr rfl) ⟨rfl, w1, _, _, V1, Or.inl ⟨?_, rfl, ?_⟩⟩
        · rw [dQ_0 hd0]; exact ⟨by decide, by decide⟩
        · rw [dQ_0 hd0, hs0 c_101, upN_s, upN_n (by decide), upN_s, c_101]
    have hmi : (lN m).toInt = m := pk_lT (by omega)
    have hsm : szL (lN m) = m := by unfold szL; rw [hmi]; rfl
    refine z_aload_n hE d_Re_readDouble_76 rfl ?_
    refine z_get hE d_Re_readDouble_77 fl_Re_14 (by assumption) rfl ?_
    refine z_lload_n hE d_Re_readDouble_80 rfl ?_
    refine z_lconst (v := lN 0) hE d_Re_readDouble_81 (by decide) ?_
    refine z_lcmp hE d_Re_readDouble_82 ?_
    refine z_if_ge (tgt := 92) hE d_Re_readDouble_83 (by decide) (fun c_83 => ?_) (fun c_83 => ?_)
    · rw [lg_cmp_ge, Int64.le_iff_toInt_le, hbt] at c_83
      have hblt : b < 9223372036854775808 := by
        have : (lN 0).toInt = 0 := rfl
        split at c_83
        · assumption
        · omega
      refine z_lload hE d_Re_readDouble_92 rfl ?_
      refine go (lN m) _ hsm (fun h => ?_) (fun h => by rw [h]; rfl) rfl rfl rfl
      rw [if_pos hblt]
      unfold sgL
      rw [if_neg, if_neg]
      · intro q; have := congrArg Int64.toInt q; rw [hmi] at this; have h0 : (0 : Int64).toInt = 0 := rfl; omega
      · rw [Int64.lt_iff_toInt_lt, hmi]; have h0 : (0 : Int64).toInt = 0 := rfl; omega
    · rw [lg_cmp_ge, Int64.le_iff_toInt_le, hbt] at c_83
      have hblt : ¬ b < 9223372036854775808 := by
        have : (lN 0).toInt = 0 := rfl
        intro q
        rw [if_pos q] at c_83
        omega
      have hni : (-lN m).toInt = -(m : Int) := by
        rw [Int64.toInt_neg, hmi]
        exact Int.bmod_eq_of_le (by omega) (by omega)
      refine z_lload hE d_Re_readDouble_86 rfl ?_
      refine z_lneg hE d_Re_readDouble_88 (rfl) ?_
      refine z_goto (tgt := 94) hE d_Re_readDouble_89 (by decide) ?_
      refine go (-lN m) _ (by unfold szL; rw [hni]; omega) (fun h => ?_) (fun h => by rw [h]; rfl) rfl rfl rfl
      rw [if_neg hblt]
      unfold sgL
      rw [if_pos]
      rw [Int64.lt_iff_toInt_lt, hni]; have h0 : (0 : Int64).toInt = 0 := rfl; omega
  have loop : ∀ (u i m : Nat) (x : Int32) lv, i + u = 53 → dm b = m * 2 ^ i → x.toInt = dw b + i → lG lv 0 = some (.ref R) → lG lv 1 = some (.long (lN b)) → lG lv 4 = some (.long (lN m)) → lG lv 6 = some (.int x) → lG lv 7 = some (.int (nI i)) → zJ E g nx 0 0 38 lv [] := by
    intro u
    induction u with
    | zero =>
      intro i m x lv hi hm hx l0 l1 l4 l6 l7
      refine z_sub (lv' := [(0, .ref R), (1, .long (lN b)), (4, .long (lN m)), (6, .int x), (7, .int (nI i))]) (by simp only [List.map, l0, l1, l4, l6, l7]) ?_
      have hi53 : i = 53 := by omega
      have hm0 : m = 0 := by
        rcases Nat.eq_zero_or_pos m with q | q
        · exact q
        · have := Nat.mul_le_mul_right (2 ^ i) (show 1 ≤ m from q)
          rw [← hm, Nat.one_mul, hi53] at this
          exact absurd dml (Nat.not_lt_of_le this)
      refine z_iload hE d_Re_readDouble_38 rfl ?_
      refine z_bipush (v := nI 53) hE d_Re_readDouble_40 (by decide) ?_
      refine z_icmp_ge (tgt := 76) hE d_Re_readDouble_42 (by decide) (fun c_42 => ?_) (fun c_42 => ?_)
      · exact tail m i x _ hm (fun h => absurd (by rw [hm, hm0, Nat.zero_mul]) h) (by omega) hx rfl rfl rfl rfl
      · exact absurd ((nI_LE (by omega) (by omega)).mpr (by omega)) c_42
    | succ u ih =>
      intro i m x lv hi hm hx l0 l1 l4 l6 l7
      refine z_sub (lv' := [(0, .ref R), (1, .long (lN b)), (4, .long (lN m)), (6, .int x), (7, .int (nI i))]) (by simp only [List.map, l0, l1, l4, l6, l7]) ?_
      have hmle : m ≤ dm b := by rw [hm]; exact Nat.le_mul_of_pos_right m (p2_pos i)
      refine z_iload hE d_Re_readDouble_38 rfl ?_
      refine z_bipush (v := nI 53) hE d_Re_readDouble_40 (by decide) ?_
      refine z_icmp_ge (tgt := 76) hE d_Re_readDouble_42 (by decide) (fun c_42 => ?_) (fun c_42 => ?_)
      · exact absurd ((nI_LE (by omega) (by omega)).mp c_42) (by omega)
      · refine z_lload hE d_Re_readDouble_45 rfl ?_
        refine z_lconst (v := lN 0) hE d_Re_readDouble_47 (by decide) ?_
        refine z_lcmp hE d_Re_readDouble_48 ?_
        refine z_if_eq (tgt := 76) hE d_Re_readDouble_49 (by decide) (fun c_49 => ?_) (fun c_49 => ?_)
        · rw [lg_cmp_eq, pk_lEQ (by omega) (by omega)] at c_49
          exact tail m i x _ hm (fun h => absurd (by rw [hm, c_49, Nat.zero_mul]) h) (by omega) hx rfl rfl rfl rfl
        · rw [lg_cmp_eq, pk_lEQ (by omega) (by omega)] at c_49
          refine z_lload hE d_Re_readDouble_52 rfl ?_
          refine z_lconst (v := 1) hE d_Re_readDouble_54 (by decide) ?_
          refine z_land (v := lN (m % 2)) hE d_Re_readDouble_55 (g_and1 (by omega)) ?_
          refine z_lconst (v := lN 0) hE d_Re_readDouble_56 (by decide) ?_
          refine z_lcmp hE d_Re_readDouble_57 ?_
          refine z_if_ne (tgt := 76) hE d_Re_readDouble_58 (by decide) (fun c_58 => ?_) (fun c_58 => ?_)
          · rw [lg_cmp_eq, pk_lEQ (by omega) (by omega)] at c_58
            exact tail m i x _ hm (fun _ => by omega) (by omega) hx rfl rfl rfl rfl
          · rw [lg_cmp_eq, pk_lEQ (by omega) (by omega)] at c_58
            refine z_lload hE d_Re_readDouble_61 rfl ?_
            refine z_iconst (v := 1) hE d_Re_readDouble_63 (by decide) ?_
            refine z_lshr (v := lN (m / 2)) hE d_Re_readDouble_64 (pf_shr (d := 1) (by decide) (by omega)) ?_
            refine z_lstore hE d_Re_readDouble_65 (by decide) ?_
            refine z_iinc hE d_Re_readDouble_67 rfl (rfl) (by decide) ?_
            refine z_iinc (v := nI (i + 1)) hE d_Re_readDouble_70 rfl (nI_1 i) (by decide) ?_
            refine z_goto (tgt := 38) hE d_Re_readDouble_73 (by decide) ?_
            refine ih (i + 1) (m / 2) (x + 1) _ (by omega) ?_ ?_ rfl rfl rfl rfl rfl
            · rw [hm, Nat.pow_succ, Nat.mul_comm (2 ^ i) 2, ← Nat.mul_assoc]
              congr 1
              omega
            · rw [Int32.toInt_add]
              rw [Int.bmod_eq_of_le (by show _ ≤ x.toInt + 1; omega) (by show x.toInt + 1 < _; omega)]
              show x.toInt + 1 = _
              omega
  have b0 : lN b &&& 4503599627370495 = lN (b % 4503599627370496) := g_mask (s := 52) (p := 4503599627370496) (by decide) (by decide) hb
  -- behind the hidden bit
  have mid : ∀ lv, lG lv 0 = some (.ref R) → lG lv 1 = some (.long (lN b)) → lG lv 3 = some (.int (nI (b / 4503599627370496 % 2048))) → lG lv 4 = some (.long (lN (dm b))) → zJ E g nx 0 0 24 lv [] := by
    intro lv l0 l1 l3 l4
    refine z_sub (lv' := [(0, .ref R), (1, .long (lN b)), (3, .int (nI (b / 4503599627370496 % 2048))), (4, .long (lN (dm b)))]) (by simp only [List.map, l0, l1, l3, l4]) ?_
    refine z_iload_n hE d_Re_readDouble_24 rfl ?_
    refine z_iconst (v := nI 1) hE d_Re_readDouble_25 (by decide) ?_
    refine z_mmax (v := nI (max (b / 4503599627370496 % 2048) 1)) hE d_Re_readDouble_26 cl_Re_133 (by decide) (Nat.le_of_ble_eq_true rfl) (by omega) (by omega) (i_max (by omega) (by omega)) ?_
    refine z_sipush (v := nI 1075) hE d_Re_readDouble_29 (by decide) ?_
    refine z_isub hE d_Re_readDouble_32 (rfl) ?_
    refine z_istore hE d_Re_readDouble_33 (by decide) ?_
    refine z_iconst (v := nI 0) hE d_Re_readDouble_35 (by decide) ?_
    refine z_istore hE d_Re_readDouble_36 (by decide) ?_
    refine loop 53 0 (dm b) _ _ (by omega) (by rw [Nat.pow_zero, Nat.mul_one]) ?_ rfl rfl rfl rfl rfl
    rw [pk_sub_toInt (by omega) (by omega)]
    unfold dw
    split
    · rename_i h; rw [h]; rfl
    · rw [Nat.max_eq_left (by omega)]; omega
  refine z_lload_n hE d_Re_readDouble_0 rfl ?_
  refine z_callS hE d_Re_readDouble_1 cl_Re_123 (c_Te_exponentOf l g nx b hb) rfl (Nat.le_of_ble_eq_true rfl) ⟨by decide, by decide⟩ ⟨by omega, by omega⟩ (fun r_1 g_1 nx_1 hp_1 => ?_) rfl
  obtain ⟨rfl, rfl, rfl⟩ := hp_1
  try dsimp only [Option.toList, List.nil_append, List.cons_append]
  refine z_istore_n hE d_Re_readDouble_4 rfl (by decide) ?_
  refine z_lload_n hE d_Re_readDouble_5 rfl ?_
  refine z_ldc2 hE d_Re_readDouble_6 cn_Re_129 ?_
  refine z_land (v := lN (b % 4503599627370496)) hE d_Re_readDouble_9 (b0) ?_
  refine z_lstore hE d_Re_readDouble_10 (by decide) ?_
  refine z_iload_n hE d_Re_readDouble_12 rfl ?_
  refine z_if_le (tgt := 24) hE d_Re_readDouble_13 (by decide) (fun c_13 => ?_) (fun c_13 => ?_)
  · have h0 : b / 4503599627370496 % 2048 = 0 := by
      rw [Int32.le_iff_toInt_le, nI_ti (by omega)] at c_13
      have : (0 : Int32).toInt = 0 := rfl
      omega
    refine mid _ rfl rfl rfl ?_
    unfold dm
    rw [if_pos h0]; rfl
  · have h0 : b / 4503599627370496 % 2048 ≠ 0 := by
      rw [Int32.le_iff_toInt_le, nI_ti (by omega)] at c_13
      have : (0 : Int32).toInt = 0 := rfl
      omega
    refine z_lload hE d_Re_readDouble_16 rfl ?_
    refine z_ldc2 hE d_Re_readDouble_18 cn_Re_131 ?_
    refine z_lor (v := lN (dm b)) hE d_Re_readDouble_21 (by unfold dm; rw [if_neg h0]; exact dm_or (by omega)) ?_
    refine z_lstore hE d_Re_readDouble_22 (by decide) ?_
    exact mid _ rfl rfl rfl rfl

