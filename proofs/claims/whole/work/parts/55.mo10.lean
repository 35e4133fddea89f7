/-! the reference: what rows come to -/
theorem c_Mo_filled (l : Launch) {g : Gh} (nx : Nat) {P : Nat} {S : Sx} (hM : MW g P S) (hO : SOK S) (r : Int32) : Ct l m_Mo_filled 0 0 [.ref P, .int r] g nx (pM g P nx (spFilled S r)) := by
  obtain ⟨E0, t, ts, hV, hEQ⟩ := hM
  have h0 := hV.1
  obtain ⟨-, ⟨th, h1, h1'⟩, ⟨sn, A, B, h2, h3, h4, b4, b5, b6⟩, ⟨rm, h5, h5'⟩, -⟩ := id hV
  refine Ct.of (by decide) (Nat.le_of_ble_eq_true rfl) (fun E hE hQ => ?_)
  have out : ∀ lv, ¬ (inI r 0 3) → zJ E g nx 0 0 7 lv [] := by
    intro lv h
    refine z_ldc hE d_Mo_filled_7 cn_Mo_141 ?_
    exact z_iret hE hQ d_Mo_filled_9 rfl (by omega) (by omega) (pM_of (if_neg h) hV hEQ gW_r)
  refine z_iload_n hE d_Mo_filled_0 rfl ?_
  refine z_callS hE d_Mo_filled_1 cl_Mo_221 (c_Mo_isRow l g nx r) rfl (Nat.le_of_ble_eq_true rfl) ⟨by decide, by decide⟩ ⟨by omega, by omega⟩ (fun r_1 g_1 nx_1 hp_1 => ?_) rfl
  obtain ⟨rfl, rfl, rfl⟩ := hp_1
  try dsimp only [Option.toList, List.nil_append, List.cons_append]
  by_cases hr : inI r 0 3
  case neg =>
    rw [if_neg hr]
    refine z_if_ne (tgt := 10) hE d_Mo_filled_4 (by decide) (fun c_ => absurd c_ (by decide)) (fun _ => ?_)
    exact out _ (fun q => hr q)
  rw [if_pos hr]
  refine z_if_ne (tgt := 10) hE d_Mo_filled_4 (by decide) (fun _ => ?_) (fun c_ => absurd c_ (by decide))
  obtain ⟨er, zr, hr2⟩ := fx_of hr (by omega) (by omega)
  refine z_aload_n hE d_Mo_filled_10 rfl ?_
  refine z_get hE d_Mo_filled_11 fl_Mo_23 (by assumption) rfl ?_
  refine z_iload_n hE d_Mo_filled_14 rfl ?_
  rw [er]
  refine z_iald hE d_Mo_filled_15 (by assumption) (nI_in' (by omega : fx r < 4) (by omega)) ?_
  rw [nI_cl (by omega), h5' (fx r) (by omega)]
  refine z_iconst (v := (-1)) hE d_Mo_filled_16 (by decide) ?_
  by_cases hm : S.2.1 (fx r) = -1
  case pos =>
    refine z_icmp_ne (tgt := 26) hE d_Mo_filled_17 (by decide) (fun c_ => absurd c_ (fun w => w hm)) (fun _ => ?_)
    refine z_aload_n hE d_Mo_filled_20 rfl ?_
    refine z_iconst (v := 1) hE d_Mo_filled_21 (by decide) ?_
    refine z_callV hE d_Mo_filled_22 cl_Mo_106 (c_Mo_fail l nx hV 1) (by assumption) cb_Mo rfl (Nat.le_of_ble_eq_true rfl) ⟨by decide, by decide⟩ ⟨by omega, by omega⟩ (fun r_9 g_9 nx_9 hp_9 => ?_) rfl
    try dsimp only [Option.toList, List.nil_append, List.cons_append]
    obtain ⟨rfl, rfl, V9, G9⟩ := hp_9
    try dsimp only [Option.toList, List.nil_append, List.cons_append]
    refine z_iret hE hQ d_Mo_filled_25 rfl (by omega) (by omega) (pM_of (S := sC S 1) ?_ V9 (EQS_c hEQ rfl rfl) (gW_t gW_r (g1_W G9 (by omega) (by omega))))
    unfold spFilled; rw [if_pos hr]; exact if_pos hm
  refine z_icmp_ne (tgt := 26) hE d_Mo_filled_17 (by decide) (fun _ => ?_) (fun c_ => absurd c_ (hm))
  obtain ⟨p, hp, hpe⟩ := (hO.2.1 (fx r) (by omega)).resolve_left hm
  have hspec : spFilled S r = doneS S (nI (cntQ (S.2.2.1 (fx r)) p)) := by unfold spFilled; rw [if_pos hr, if_neg hm, hpe, fx_nI (by omega)]
  have loop : ∀ (u k : Nat), k + u = p → ∀ lv, lG lv 0 = some (.ref P) → lG lv 1 = some (.int (nI (fx r))) → lG lv 2 = some (.int (nI (cntQ (S.2.2.1 (fx r)) k))) → lG lv 3 = some (.int (nI k)) → zJ E g nx 0 0 30 lv [] := by
    intro u
    induction u with
    | zero =>
      intro k  hu  lv l0 l1 l2 l3
      refine z_sub (lv' := [(0, .ref P), (1, .int (nI (fx r))), (2, .int (nI (cntQ (S.2.2.1 (fx r)) k))), (3, .int (nI k))]) (by simp only [List.map, l0, l1, l2, l3]) ?_
      obtain rfl : p = k := by omega
      refine z_iload_n hE d_Mo_filled_30 rfl ?_
      refine z_aload_n hE d_Mo_filled_31 rfl ?_
      refine z_get hE d_Mo_filled_32 fl_Mo_23 (by assumption) rfl ?_
      refine z_iload_n hE d_Mo_filled_35 rfl ?_
      refine z_iald hE d_Mo_filled_36 (by assumption) (nI_in' (by omega : fx r < 4) (by omega)) ?_
      rw [nI_cl (by omega), h5' (fx r) (by omega), hpe]
      refine z_icmp_ge (tgt := 67) hE d_Mo_filled_37 (by decide) (fun _ => ?_) (fun c_ => absurd c_ (fun z => z ((nI_LE (by omega) (by omega)).mpr (by omega))))
      refine z_aload_n hE d_Mo_filled_67 rfl ?_
      refine z_iload_n hE d_Mo_filled_68 rfl ?_
      refine z_callV hE d_Mo_filled_69 cl_Mo_116 (c_Mo_done l nx hV (nI (cntQ (S.2.2.1 (fx r)) p))) (by assumption) cb_Mo rfl (Nat.le_of_ble_eq_true rfl) ⟨by decide, by decide⟩ ⟨by omega, by omega⟩ (fun r_9 g_9 nx_9 hp_9 => ?_) rfl
      try dsimp only [Option.toList, List.nil_append, List.cons_append]
      obtain ⟨rfl, rfl, V9, G9⟩ := hp_9
      try dsimp only [Option.toList, List.nil_append, List.cons_append]
      exact z_iret hE hQ d_Mo_filled_72 rfl (by omega) (by omega) (pM_of (S := sC S 0) hspec V9 (EQS_c hEQ rfl rfl) (g1_W G9 (by omega) (by omega)))
    | succ u ih =>
      intro k  hu  lv l0 l1 l2 l3
      refine z_sub (lv' := [(0, .ref P), (1, .int (nI (fx r))), (2, .int (nI (cntQ (S.2.2.1 (fx r)) k))), (3, .int (nI k))]) (by simp only [List.map, l0, l1, l2, l3]) ?_
      refine z_iload_n hE d_Mo_filled_30 rfl ?_
      refine z_aload_n hE d_Mo_filled_31 rfl ?_
      refine z_get hE d_Mo_filled_32 fl_Mo_23 (by assumption) rfl ?_
      refine z_iload_n hE d_Mo_filled_35 rfl ?_
      refine z_iald hE d_Mo_filled_36 (by assumption) (nI_in' (by omega : fx r < 4) (by omega)) ?_
      rw [nI_cl (by omega), h5' (fx r) (by omega), hpe]
      refine z_icmp_ge (tgt := 67) hE d_Mo_filled_37 (by decide) (fun c_ => absurd c_ (fun z => absurd ((nI_LE (by omega) (by omega)).mp z) (by omega))) (fun _ => ?_)
      have nx1 : ∀ (z : Nat) lv, z = (if (S.2.2.1 (fx r) k).isSome then 1 else 0) → lG lv 0 = some (.ref P) → lG lv 1 = some (.int (nI (fx r))) → lG lv 3 = some (.int (nI k)) → zJ E g nx 0 0 59 lv [.int (nI z), .int (nI (cntQ (S.2.2.1 (fx r)) k))] := by
        intro z lv hz l0 l1 l3
        refine z_sub (lv' := [(0, .ref P), (1, .int (nI (fx r))), (3, .int (nI k))]) (by simp only [List.map, l0, l1, l3]) ?_
        refine z_iadd (v := nI (cntQ (S.2.2.1 (fx r)) (k + 1))) hE d_Mo_filled_59 (by rw [nI_add, hz]; rfl) ?_
        refine z_istore_n hE d_Mo_filled_60 rfl (by decide) ?_
        refine z_iinc (v := nI (k + 1)) hE d_Mo_filled_61 rfl (nI_1 k) (by decide) ?_
        refine z_goto (tgt := 30) hE d_Mo_filled_64 (by decide) ?_
        exact ih (k + 1) (by omega) _ rfl rfl rfl rfl
      refine z_iload_n hE d_Mo_filled_40 rfl ?_
      refine z_aload_n hE d_Mo_filled_41 rfl ?_
      refine z_get hE d_Mo_filled_42 fl_Mo_7 (by assumption) rfl ?_
      refine z_iload_n hE d_Mo_filled_45 rfl ?_
      refine z_iload_n hE d_Mo_filled_46 rfl ?_
      refine z_callS hE d_Mo_filled_47 cl_Mo_224 (c_Mo_placeOf l g nx (fx r) k) rfl (Nat.le_of_ble_eq_true rfl) ⟨by decide, by decide⟩ ⟨by omega, by omega⟩ (fun r_47 g_47 nx_47 hp_47 => ?_) rfl
      obtain ⟨rfl, rfl, rfl⟩ := hp_47
      try dsimp only [Option.toList, List.nil_append, List.cons_append]
      refine z_zald hE d_Mo_filled_50 (by assumption) (nI_in' (by omega : 16 + 10 * fx r + k < 58) (by omega)) ?_
      rw [nI_cl (by omega), h1' _ (by omega), hEQ.2 (fx r) (by omega) k (by omega)]
      cases hs : (S.2.2.1 (fx r) k).isSome with
      | true =>
        rw [if_pos rfl]
        refine z_if_eq (tgt := 58) hE d_Mo_filled_51 (by decide) (fun c_ => absurd c_ (by decide)) (fun _ => ?_)
        refine z_iconst (v := nI 1) hE d_Mo_filled_54 (by decide) ?_
        refine z_goto (tgt := 59) hE d_Mo_filled_55 (by decide) ?_
        exact nx1 1 _ (by rw [hs]; rfl) rfl rfl rfl
      | false =>
        rw [if_neg (by decide)]
        refine z_if_eq (tgt := 58) hE d_Mo_filled_51 (by decide) (fun _ => ?_) (fun c_ => absurd c_ (fun z => z rfl))
        refine z_iconst (v := nI 0) hE d_Mo_filled_58 (by decide) ?_
        exact nx1 0 _ (by rw [hs]; rfl) rfl rfl rfl
  refine z_iconst (v := nI 0) hE d_Mo_filled_26 (by decide) ?_
  refine z_istore_n hE d_Mo_filled_27 rfl (by decide) ?_
  refine z_iconst (v := nI 0) hE d_Mo_filled_28 (by decide) ?_
  refine z_istore_n hE d_Mo_filled_29 rfl (by decide) ?_
  exact loop p 0 (by omega) _ rfl (by rw [← er]; rfl) rfl rfl
theorem mk_0 : mk 0 0 1 = ((0, 0, 1) : Qf) := by unfold mk; rw [if_pos rfl, Nat.gcd_one_right]
theorem QK_0 : QK ((0, 0, 1) : Qf) := ⟨q0_ok, by decide⟩
theorem c_Mo_beginSum (l : Launch) {g : Gh} (nx : Nat) {P : Nat} {E0 : Nat → Option Qf} {pl : Nat → Int32} {c n ts : Int32} {t : Nat → Nat} (hV : MV g P E0 pl c n ts t) : Ct l m_Mo_beginSum 0 0 [.ref P] g nx (fun r g' nx' => r = none ∧ nx = nx' ∧ gW g g' P (P + 14) ∧ ∃ t', MV g' P (upE E0 56 (some (0, 0, 1))) pl c n 0 t') := by
  have h0 := hV.1
  refine Ct.of (by decide) (Nat.le_of_ble_eq_true rfl) (fun E hE hQ => ?_)
  refine z_aload_n hE d_Mo_beginSum_0 rfl ?_
  refine z_get hE d_Mo_beginSum_1 fl_Mo_26 (by assumption) rfl ?_
  refine z_callS hE d_Mo_beginSum_4 cl_Mo_54 (c_Mo_clear l nx (MV_m hV 6 (by omega) (by omega))) rfl (Nat.le_of_ble_eq_true rfl) ⟨by decide, by decide⟩ ⟨by omega, by omega⟩ (fun r_1 g_1 nx_1 hp_1 => ?_) rfl
  try dsimp only [Option.toList, List.nil_append, List.cons_append]
  obtain ⟨rfl, rfl, N1, G1⟩ := hp_1
  try dsimp only [Option.toList, List.nil_append, List.cons_append]
  have V1 := MV_up hV (by omega) N1 G1
  have m1 := V1.1
  have W1 : gW g g_1 P (P + 14) := gW_t gW_r (g1_W G1 (by omega) (by omega))
  refine z_aload_n hE d_Mo_beginSum_7 rfl ?_
  refine z_get hE d_Mo_beginSum_8 fl_Mo_29 (by assumption) rfl ?_
  refine z_lconst (v := lN 1) hE d_Mo_beginSum_11 (by decide) ?_
  refine z_callS hE d_Mo_beginSum_12 cl_Mo_142 (c_Mo_setLong l nx (MV_m V1 7 (by omega) (by omega)) 1 (by omega)) rfl (Nat.le_of_ble_eq_true rfl) ⟨by decide, by decide⟩ ⟨by omega, by omega⟩ (fun r_2 g_2 nx_2 hp_2 => ?_) rfl
  try dsimp only [Option.toList, List.nil_append, List.cons_append]
  obtain ⟨rfl, rfl, N2, G2⟩ := hp_2
  try dsimp only [Option.toList, List.nil_append, List.cons_append]
  have V2 := MV_up V1 (by omega) N2 G2
  have m2 := V2.1
  have W2 : gW g g_2 P (P + 14) := gW_t W1 (g1_W G2 (by omega) (by omega))
  refine z_aload_n hE d_Mo_beginSum_15 rfl ?_
  refine z_iconst (v := 0) hE d_Mo_beginSum_16 (by decide) ?_
  refine z_put hE d_Mo_beginSum_17 fl_Mo_99 ct_Mo ff_Mo_9 (by assumption) rfl rfl (Nat.le_of_ble_eq_true rfl) ?_
  have V3 := MV_put V2 c n 0
  have m3 := V3.1
  have W3 : gW g (gS g_2 P (oM P c n 0)) P (P + 14) := gW_t W2 (gW_S (Nat.le_refl _) (by omega))
  refine z_aload_n hE d_Mo_beginSum_20 rfl ?_
  refine z_bipush (v := nI 56) hE d_Mo_beginSum_21 (by decide) ?_
  refine z_callV hE d_Mo_beginSum_23 cl_Mo_102 (c_Mo_store l nx (f := 56) V3 (by omega) (by exact Nat.zero_lt_one) (by exact (by decide : 2 * 1 ≤ 65536 ^ 56))) (by assumption) cb_Mo rfl (Nat.le_of_ble_eq_true rfl) ⟨by decide, by decide⟩ ⟨by omega, by omega⟩ (fun r_4 g_4 nx_4 hp_4 => ?_) rfl
  try dsimp only [Option.toList, List.nil_append, List.cons_append]
  obtain ⟨rfl, W4, t4, H⟩ := hp_4
  have em : mk 0 (upN (upN t 6 0) 7 1 6) (upN (upN t 6 0) 7 1 7) = (0, 0, 1) := mk_0
  rw [em] at H
  obtain ⟨-, rfl, V4⟩ | ⟨hw, -⟩ := H
  · try dsimp only [Option.toList, List.nil_append, List.cons_append]
    refine z_istore_n hE d_Mo_beginSum_26 rfl (by decide) ?_
    exact z_vret hE hQ d_Mo_beginSum_27 rfl (by omega) (by omega) ⟨rfl, rfl, gW_t W3 W4, t4, V4⟩
  · exact absurd QK_0.2 hw
theorem c_Mo_addPlace (l : Launch) {g : Gh} (nx : Nat) {r k : Nat} {x y : Qf} {P : Nat} {E0 : Nat → Option Qf} {pl : Nat → Int32} {c n ts : Int32} {t : Nat → Nat} (hV : MV g P E0 pl c n ts t) (hr : r < 4) (hk : k < 10) (hx : E0 56 = some x) (hy : E0 (16 + 10 * r + k) = some y) (kx : QK x) (ky : QK y) : Ct l m_Mo_addPlace 0 0 [.ref P, .int (nI r), .int (nI k)] g nx (fun z g' nx' => nx = nx' ∧ gW g g' P (P + 14) ∧ ∃ t' ts', QW (addQ x y y.1) ∧ z = some (.int 1) ∧ MV g' P (upE E0 56 (some (addQ x y y.1))) pl c n ts' t' ∨ ¬ QW (addQ x y y.1) ∧ z = some (.int 0) ∧ MV g' P E0 pl c n ts' t') := by
  have h0 := hV.1
  refine Ct.of (by decide) (Nat.le_of_ble_eq_true rfl) (fun E hE hQ => ?_)
  refine z_aload_n hE d_Mo_addPlace_0 rfl ?_
  refine z_bipush (v := nI 56) hE d_Mo_addPlace_1 (by decide) ?_
  refine z_iload_n hE d_Mo_addPlace_3 rfl ?_
  refine z_iload_n hE d_Mo_addPlace_4 rfl ?_
  refine z_callS hE d_Mo_addPlace_5 cl_Mo_224 (c_Mo_placeOf l g nx r k) rfl (Nat.le_of_ble_eq_true rfl) ⟨by decide, by decide⟩ ⟨by omega, by omega⟩ (fun r_5 g_5 nx_5 hp_5 => ?_) rfl
  obtain ⟨rfl, rfl, rfl⟩ := hp_5
  try dsimp only [Option.toList, List.nil_append, List.cons_append]
  refine z_iconst (v := 1) hE d_Mo_addPlace_8 (by decide) ?_
  refine z_callV hE d_Mo_addPlace_9 cl_Mo_155 (c_Mo_sumOf l nx (a := 56) (b := 16 + 10 * r + k) hV (by omega) (by omega) hx hy kx ky 1 (Or.inl rfl)) (by assumption) cb_Mo rfl (Nat.le_of_ble_eq_true rfl) ⟨by decide, by decide⟩ ⟨by omega, by omega⟩ (fun r_1 g_1 nx_1 hp_1 => ?_) rfl
  try dsimp only [Option.toList, List.nil_append, List.cons_append]
  obtain ⟨rfl, rfl, W1, t1, ts1, V1, e1, e7⟩ := hp_1
  try dsimp only [Option.toList, List.nil_append, List.cons_append]
  have m1 := V1.1
  rw [Int32.mul_one] at e1
  have wB := w816 kx.2.2 ky.2.2
  have e56 : 65536 ^ 32 * 4 ≤ 65536 ^ 56 := by decide
  refine z_aload_n hE d_Mo_addPlace_12 rfl ?_
  refine z_bipush (v := nI 56) hE d_Mo_addPlace_13 (by decide) ?_
  refine z_callV hE d_Mo_addPlace_15 cl_Mo_102 (c_Mo_store l nx (f := 56) V1 (by omega) (by rw [e7]; exact Nat.mul_pos kx.1.2.2 ky.1.2.2) (by rw [e7]; omega)) (by assumption) cb_Mo rfl (Nat.le_of_ble_eq_true rfl) ⟨by decide, by decide⟩ ⟨by omega, by omega⟩ (fun r_4 g_4 nx_4 hp_4 => ?_) rfl
  try dsimp only [Option.toList, List.nil_append, List.cons_append]
  obtain ⟨rfl, W4, t4, H⟩ := hp_4
  rw [e1] at H
  obtain ⟨hw, rfl, V4⟩ | ⟨hw, rfl, V4⟩ := H
  · try dsimp only [Option.toList, List.nil_append, List.cons_append]
    exact z_zret hE hQ d_Mo_addPlace_18 rfl (by omega) (by omega) (Or.inr rfl) ⟨rfl, gW_t W1 W4, t4, ts1, Or.inl ⟨hw, rfl, V4⟩⟩
  · try dsimp only [Option.toList, List.nil_append, List.cons_append]
    exact z_zret hE hQ d_Mo_addPlace_18 rfl (by omega) (by omega) (Or.inl rfl) ⟨rfl, gW_t W1 W4, t4, ts1, Or.inr ⟨hw, rfl, V4⟩⟩
theorem upE_o {E : Nat → Option Qf} {f j : Nat} {q : Option Qf} (h : j ≠ f) : upE E f q j = E j := if_neg h
theorem upE_s {E : Nat → Option Qf} {f : Nat} {q : Option Qf} : upE E f q f = q := if_pos rfl
theorem cnt_full {H : Nat → Option Qf} : ∀ {p : Nat}, ¬ cntQ H p < p → ∀ k, k < p → ∃ q, H k = some q := by
  intro p h k hk
  cases hq : H k with
  | none => exact absurd (cntQ_none hq hk) h
  | some q => exact ⟨q, rfl⟩
theorem cnt_s (H : Nat → Option Qf) (k : Nat) : cntQ H (k + 1) < k + 1 ↔ cntQ H k < k ∨ H k = none := by
  have h1 := cntQ_le H k
  have h2 : cntQ H (k + 1) = cntQ H k + if (H k).isSome then 1 else 0 := rfl
  rw [h2]
  cases hq : H k with
  | none => simp only [Option.isSome_none, Bool.false_eq_true, if_false]; constructor; intro _; exact Or.inr trivial; intro _; omega
  | some q => simp only [Option.isSome_some, if_true]; constructor; intro _; exact Or.inl (by omega); rintro (z | z); omega; cases z
theorem c_Mo_summed (l : Launch) {g : Gh} (nx : Nat) {P r : Nat} {E0 : Nat → Option Qf} {S : Sx} {ts : Int32} {t : Nat → Nat} (hV : MV g P E0 S.2.1 S.2.2.2.1 S.2.2.2.2 ts t) (hEQ : EQS E0 S) (hO : SOK S) (hr : r < 4) : Ct l m_Mo_summed 0 0 [.ref P, .int (nI r)] g nx (fun z g' nx' => nx = nx' ∧ gW g g' P (P + 14) ∧ ∃ E' t' ts' c', MV g' P E' S.2.1 c' S.2.2.2.2 ts' t' ∧ EQS E' S ∧ ((S.2.1 r = -1 ∨ cntQ (S.2.2.1 r) (fx (S.2.1 r)) < fx (S.2.1 r)) ∧ z = some (.int 0) ∧ c' = 1 ∨ ¬ (S.2.1 r = -1 ∨ cntQ (S.2.2.1 r) (fx (S.2.1 r)) < fx (S.2.1 r)) ∧ (sq (S.2.2.1 r) (fx (S.2.1 r)) = none ∧ z = some (.int 0) ∧ c' = 6 ∨ ∃ q, sq (S.2.2.1 r) (fx (S.2.1 r)) = some q ∧ QK q ∧ E' 56 = some q ∧ z = some (.int 1) ∧ c' = 0))) := by
  have h0 := hV.1
  obtain ⟨-, -, -, ⟨rm, h5, h5'⟩, -⟩ := id hV
  refine Ct.of (by decide) (Nat.le_of_ble_eq_true rfl) (fun E hE hQ => ?_)
  have last : ∀ (g' : Gh) (E' : Nat → Option Qf) (t' : Nat → Nat) (ts' c' : Int32) lv, MV g' P E' S.2.1 c' S.2.2.2.2 ts' t' → EQS E' S → gW g g' P (P + 14) → ((S.2.1 r = -1 ∨ cntQ (S.2.2.1 r) (fx (S.2.1 r)) < fx (S.2.1 r)) ∧ c' = 1 ∨ ¬ (S.2.1 r = -1 ∨ cntQ (S.2.2.1 r) (fx (S.2.1 r)) < fx (S.2.1 r)) ∧ (sq (S.2.2.1 r) (fx (S.2.1 r)) = none ∧ c' = 6 ∨ ∃ q, sq (S.2.2.1 r) (fx (S.2.1 r)) = some q ∧ QK q ∧ E' 56 = some q ∧ c' = 0)) → lG lv 0 = some (.ref P) → zJ E g' nx 0 0 110 lv [] := by
    intro g' E' t' ts' c' lv V' S' W' H l0
    refine z_sub (lv' := [(0, .ref P)]) (by simp only [List.map, l0]) ?_
    have m' := V'.1
    refine z_aload_n hE d_Mo_summed_110 rfl ?_
    refine z_get hE d_Mo_summed_111 fl_Mo_50 (by assumption) rfl ?_
    rcases H with ⟨q1, rfl⟩ | ⟨q1, ⟨q2, rfl⟩ | ⟨q, q2, q3, q4, rfl⟩⟩
    · refine z_if_ne (tgt := 121) hE d_Mo_summed_114 (by decide) (fun _ => ?_) (fun c_ => absurd c_ (by decide))
      refine z_iconst (v := 0) hE d_Mo_summed_121 (by decide) ?_
      exact z_zret hE hQ d_Mo_summed_122 rfl (by omega) (by omega) (Or.inl rfl) ⟨rfl, W', E', t', ts', 1, V', S', Or.inl ⟨q1, rfl, rfl⟩⟩
    · refine z_if_ne (tgt := 121) hE d_Mo_summed_114 (by decide) (fun _ => ?_) (fun c_ => absurd c_ (by decide))
      refine z_iconst (v := 0) hE d_Mo_summed_121 (by decide) ?_
      exact z_zret hE hQ d_Mo_summed_122 rfl (by omega) (by omega) (Or.inl rfl) ⟨rfl, W', E', t', ts', 6, V', S', Or.inr ⟨q1, Or.inl ⟨q2, rfl, rfl⟩⟩⟩
    · refine z_if_ne (tgt := 121) hE d_Mo_summed_114 (by decide) (fun c_ => absurd c_ (fun w => w rfl)) (fun _ => ?_)
      refine z_iconst (v := 1) hE d_Mo_summed_117 (by decide) ?_
      refine z_goto (tgt := 122) hE d_Mo_summed_118 (by decide) ?_
      exact z_zret hE hQ d_Mo_summed_122 rfl (by omega) (by omega) (Or.inr rfl) ⟨rfl, W', E', t', ts', 0, V', S', Or.inr ⟨q1, Or.inr ⟨q, q2, q3, q4, rfl, rfl⟩⟩⟩
  refine z_aload_n hE d_Mo_summed_0 rfl ?_
  refine z_aload_n hE d_Mo_summed_1 rfl ?_
  refine z_get hE d_Mo_summed_2 fl_Mo_23 (by assumption) rfl ?_
  refine z_iload_n hE d_Mo_summed_5 rfl ?_
  refine z_iald hE d_Mo_summed_6 (by assumption) (nI_in' hr (by omega)) ?_
  rw [nI_cl (by omega), h5' r hr]
  refine z_iconst (v := (-1)) hE d_Mo_summed_7 (by decide) ?_
  by_cases hm : S.2.1 r = -1
  case pos =>
    refine z_icmp_ne (tgt := 15) hE d_Mo_summed_8 (by decide) (fun c_ => absurd c_ (fun w => w hm)) (fun _ => ?_)
    refine z_iconst (v := 1) hE d_Mo_summed_11 (by decide) ?_
    refine z_goto (tgt := 16) hE d_Mo_summed_12 (by decide) ?_
    refine z_put hE d_Mo_summed_16 fl_Mo_50 ct_Mo ff_Mo_5 (by assumption) rfl rfl (Nat.le_of_ble_eq_true rfl) ?_
    have V1 := MV_put hV 1 S.2.2.2.2 ts
    have m1 := V1.1
    obtain ⟨-, -, -, ⟨rm1, k5, k5'⟩, -⟩ := id V1
    refine z_iconst (v := nI 0) hE d_Mo_summed_19 (by decide) ?_
    refine z_istore_n hE d_Mo_summed_20 rfl (by decide) ?_
    refine z_iload_n hE d_Mo_summed_21 rfl ?_
    refine z_aload_n hE d_Mo_summed_22 rfl ?_
    refine z_get hE d_Mo_summed_23 fl_Mo_23 (by assumption) rfl ?_
    refine z_iload_n hE d_Mo_summed_26 rfl ?_
    refine z_iald hE d_Mo_summed_27 (by assumption) (nI_in' hr (by omega)) ?_
    rw [nI_cl (by omega), k5' r hr, hm]
    refine z_icmp_ge (tgt := 62) hE d_Mo_summed_28 (by decide) (fun _ => ?_) (fun c_ => absurd c_ (fun w => w (by decide)))
    refine z_aload_n hE d_Mo_summed_62 rfl ?_
    refine z_callV hE d_Mo_summed_63 cl_Mo_227 (c_Mo_beginSum l nx V1) (by assumption) cb_Mo rfl (Nat.le_of_ble_eq_true rfl) ⟨by decide, by decide⟩ ⟨by omega, by omega⟩ (fun r_1 g_1 nx_1 hp_1 => ?_) rfl
    try dsimp only [Option.toList, List.nil_append, List.cons_append]
    obtain ⟨rfl, rfl, W2, t2, V2⟩ := hp_1
    try dsimp only [Option.toList, List.nil_append, List.cons_append]
    have m2 := V2.1
    obtain ⟨-, -, -, ⟨rm2, i5, i5'⟩, -⟩ := id V2
    refine z_iconst (v := nI 0) hE d_Mo_summed_66 (by decide) ?_
    refine z_istore_n hE d_Mo_summed_67 rfl (by decide) ?_
    refine z_iload_n hE d_Mo_summed_68 rfl ?_
    refine z_aload_n hE d_Mo_summed_69 rfl ?_
    refine z_get hE d_Mo_summed_70 fl_Mo_23 (by assumption) rfl ?_
    refine z_iload_n hE d_Mo_summed_73 rfl ?_
    refine z_iald hE d_Mo_summed_74 (by assumption) (nI_in' hr (by omega)) ?_
    rw [nI_cl (by omega), i5' r hr, hm]
    refine z_icmp_ge (tgt := 110) hE d_Mo_summed_75 (by decide) (fun _ => ?_) (fun c_ => absurd c_ (fun w => w (by decide)))
    exact last _ _ _ _ _ _ V2 (EQS_o hEQ (by omega)) (gW_t (gW_S (Nat.le_refl _) (by omega)) W2) (Or.inl ⟨Or.inl hm, rfl⟩) rfl
  refine z_icmp_ne (tgt := 15) hE d_Mo_summed_8 (by decide) (fun _ => ?_) (fun c_ => absurd c_ (hm))
  obtain ⟨p, hp, hpe⟩ := (hO.2.1 r hr).resolve_left hm
  have hfe : fx (S.2.1 r) = p := by rw [hpe, fx_nI (by omega)]
  rw [hfe] at hQ last
  refine z_iconst (v := 0) hE d_Mo_summed_15 (by decide) ?_
  refine z_put hE d_Mo_summed_16 fl_Mo_50 ct_Mo ff_Mo_5 (by assumption) rfl rfl (Nat.le_of_ble_eq_true rfl) ?_
  have V1 := MV_put hV 0 S.2.2.2.2 ts
  have W1 : gW g (gS g P (oM P 0 S.2.2.2.2 ts)) P (P + 14) := gW_S (Nat.le_refl _) (by omega)
  have loop2 : ∀ (u k : Nat) (g' : Gh) (E' : Nat → Option Qf) (t' : Nat → Nat) (ts' : Int32) (q : Qf), k + u = p → ¬ cntQ (S.2.2.1 r) p < p → MV g' P E' S.2.1 0 S.2.2.2.2 ts' t' → EQS E' S → gW g g' P (P + 14) → sq (S.2.2.1 r) k = some q → QK q → E' 56 = some q → ∀ lv, lG lv 0 = some (.ref P) → lG lv 1 = some (.int (nI r)) → lG lv 2 = some (.int (nI k)) → zJ E g' nx 0 0 68 lv [] := by
    intro u
    induction u with
    | zero =>
      intro k g' E' t' ts' q hu hf V2 S2 W2 hq kq eq lv l0 l1 l2
      refine z_sub (lv' := [(0, .ref P), (1, .int (nI r)), (2, .int (nI k))]) (by simp only [List.map, l0, l1, l2]) ?_
      obtain rfl : p = k := by omega
      have m2 := V2.1
      obtain ⟨-, -, -, ⟨rm2, i5, i5'⟩, -⟩ := id V2
      refine z_iload_n hE d_Mo_summed_68 rfl ?_
      refine z_aload_n hE d_Mo_summed_69 rfl ?_
      refine z_get hE d_Mo_summed_70 fl_Mo_23 (by assumption) rfl ?_
      refine z_iload_n hE d_Mo_summed_73 rfl ?_
      refine z_iald hE d_Mo_summed_74 (by assumption) (nI_in' hr (by omega)) ?_
      rw [nI_cl (by omega), i5' r hr, hpe]
      refine z_icmp_ge (tgt := 110) hE d_Mo_summed_75 (by decide) (fun _ => ?_) (fun c_ => absurd c_ (fun z => z ((nI_LE (by omega) (by omega)).mpr (by omega))))
      exact last _ _ _ _ _ _ V2 S2 W2 (Or.inr ⟨fun w => w.elim hm hf, Or.inr ⟨q, hq, kq, eq, rfl⟩⟩) rfl
    | succ u ih =>
      intro k g' E' t' ts' q hu hf V2 S2 W2 hq kq eq lv l0 l1 l2
      refine z_sub (lv' := [(0, .ref P), (1, .int (nI r)), (2, .int (nI k))]) (by simp only [List.map, l0, l1, l2]) ?_
      have m2 := V2.1
      obtain ⟨-, -, -, ⟨rm2, i5, i5'⟩, -⟩ := id V2
      refine z_iload_n hE d_Mo_summed_68 rfl ?_
      refine z_aload_n hE d_Mo_summed_69 rfl ?_
      refine z_get hE d_Mo_summed_70 fl_Mo_23 (by assumption) rfl ?_
      refine z_iload_n hE d_Mo_summed_73 rfl ?_
      refine z_iald hE d_Mo_summed_74 (by assumption) (nI_in' hr (by omega)) ?_
      rw [nI_cl (by omega), i5' r hr, hpe]
      refine z_icmp_ge (tgt := 110) hE d_Mo_summed_75 (by decide) (fun c_ => absurd c_ (fun z => absurd ((nI_LE (by omega) (by omega)).mp z) (by omega))) (fun _ => ?_)
      obtain ⟨y, hy⟩ := cnt_full hf k (by omega)
      have ky := hO.2.2 r hr k (by omega) y hy
      have ey : E' (16 + 10 * r + k) = some y := (S2.2 r hr k (by omega)).trans hy
      refine z_aload_n hE d_Mo_summed_78 rfl ?_
      refine z_get hE d_Mo_summed_79 fl_Mo_50 (by assumption) rfl ?_
      refine z_if_ne (tgt := 110) hE d_Mo_summed_82 (by decide) (fun c_ => absurd c_ (fun w => w rfl)) (fun _ => ?_)
      refine z_aload_n hE d_Mo_summed_85 rfl ?_
      refine z_aload_n hE d_Mo_summed_86 rfl ?_
      refine z_iload_n hE d_Mo_summed_87 rfl ?_
      refine z_iload_n hE d_Mo_summed_88 rfl ?_
      refine z_callV hE d_Mo_summed_89 cl_Mo_230 (c_Mo_addPlace l nx V2 hr (by omega) eq ey kq ky) (by assumption) cb_Mo rfl (Nat.le_of_ble_eq_true rfl) ⟨by decide, by decide⟩ ⟨by omega, by omega⟩ (fun r_3 g_3 nx_3 hp_3 => ?_) rfl
      try dsimp only [Option.toList, List.nil_append, List.cons_append]
      obtain ⟨rfl, W3, t3, ts3, H⟩ := hp_3
      have hsk : sq (S.2.2.1 r) (k + 1) = if QW (addQ q y y.1) then some (addQ q y y.1) else none := by
        show (match sq (S.2.2.1 r) k, S.2.2.1 r k with | some t, some q => if QW (addQ t q q.1) then some (addQ t q q.1) else none | _, _ => none) = _
        rw [hq, hy]
      obtain ⟨hw, rfl, V3⟩ | ⟨hw, rfl, V3⟩ := H
      · try dsimp only [Option.toList, List.nil_append, List.cons_append]
        rw [if_pos hw] at hsk
        have m3 := V3.1
        refine z_if_eq (tgt := 99) hE d_Mo_summed_92 (by decide) (fun c_ => absurd c_ (by decide)) (fun _ => ?_)
        refine z_iconst (v := 0) hE d_Mo_summed_95 (by decide) ?_
        refine z_goto (tgt := 101) hE d_Mo_summed_96 (by decide) ?_
        refine z_put hE d_Mo_summed_101 fl_Mo_50 ct_Mo ff_Mo_5 (by assumption) rfl rfl (Nat.le_of_ble_eq_true rfl) ?_
        have V4 := MV_put V3 0 S.2.2.2.2 ts3
        refine z_iinc (v := nI (k + 1)) hE d_Mo_summed_104 rfl (nI_1 k) (by decide) ?_
        refine z_goto (tgt := 68) hE d_Mo_summed_107 (by decide) ?_
        exact ih (k + 1) _ _ _ _ _ (by omega) hf V4 (EQS_o S2 (by omega)) (gW_t (gW_t W2 W3) (gW_S (Nat.le_refl _) (by omega))) hsk ⟨addQ_ok kq.1 ky.1, hw⟩ upE_s _ rfl rfl rfl
      · try dsimp only [Option.toList, List.nil_append, List.cons_append]
        rw [if_neg hw] at hsk
        have m3 := V3.1
        refine z_if_eq (tgt := 99) hE d_Mo_summed_92 (by decide) (fun _ => ?_) (fun c_ => absurd c_ (by decide))
        refine z_bipush (v := 6) hE d_Mo_summed_99 (by decide) ?_
        refine z_put hE d_Mo_summed_101 fl_Mo_50 ct_Mo ff_Mo_5 (by assumption) rfl rfl (Nat.le_of_ble_eq_true rfl) ?_
        have V4 := MV_put V3 6 S.2.2.2.2 ts3
        have m4 := V4.1
        have W4 : gW g (gS g_3 P (oM P 6 S.2.2.2.2 ts3)) P (P + 14) := gW_t (gW_t W2 W3) (gW_S (Nat.le_refl _) (by omega))
        obtain ⟨-, -, -, ⟨rm4, j5, j5'⟩, -⟩ := id V4
        refine z_iinc (v := nI (k + 1)) hE d_Mo_summed_104 rfl (nI_1 k) (by decide) ?_
        refine z_goto (tgt := 68) hE d_Mo_summed_107 (by decide) ?_
        refine z_iload_n hE d_Mo_summed_68 rfl ?_
        refine z_aload_n hE d_Mo_summed_69 rfl ?_
        refine z_get hE d_Mo_summed_70 fl_Mo_23 (by assumption) rfl ?_
        refine z_iload_n hE d_Mo_summed_73 rfl ?_
        refine z_iald hE d_Mo_summed_74 (by assumption) (nI_in' hr (by omega)) ?_
        rw [nI_cl (by omega), j5' r hr, hpe]
        by_cases hkp : p ≤ k + 1
        · refine z_icmp_ge (tgt := 110) hE d_Mo_summed_75 (by decide) (fun _ => ?_) (fun c_ => absurd c_ (fun w => w ((nI_LE (by omega) (by omega)).mpr hkp)))
          exact last _ _ _ _ _ _ V4 S2 W4 (Or.inr ⟨fun w => w.elim hm hf, Or.inl ⟨sq_none hsk (by omega), rfl⟩⟩) rfl
        · refine z_icmp_ge (tgt := 110) hE d_Mo_summed_75 (by decide) (fun c_ => absurd c_ (fun w => hkp ((nI_LE (by omega) (by omega)).mp w))) (fun _ => ?_)
          refine z_aload_n hE d_Mo_summed_78 rfl ?_
          refine z_get hE d_Mo_summed_79 fl_Mo_50 (by assumption) rfl ?_
          refine z_if_ne (tgt := 110) hE d_Mo_summed_82 (by decide) (fun _ => ?_) (fun c_ => absurd c_ (by decide))
          exact last _ _ _ _ _ _ V4 S2 W4 (Or.inr ⟨fun w => w.elim hm hf, Or.inl ⟨sq_none hsk (by omega), rfl⟩⟩) rfl
  have loop : ∀ (u k : Nat) (g' : Gh) (c' : Int32), k + u = p → MV g' P E0 S.2.1 c' S.2.2.2.2 ts t → gW g g' P (P + 14) → c' = (if cntQ (S.2.2.1 r) k < k then 1 else 0) → ∀ lv, lG lv 0 = some (.ref P) → lG lv 1 = some (.int (nI r)) → lG lv 2 = some (.int (nI k)) → zJ E g' nx 0 0 21 lv [] := by
    intro u
    induction u with
    | zero =>
      intro k g' c' hu V2 W2 hc lv l0 l1 l2
      refine z_sub (lv' := [(0, .ref P), (1, .int (nI r)), (2, .int (nI k))]) (by simp only [List.map, l0, l1, l2]) ?_
      obtain rfl : p = k := by omega
      have m2 := V2.1
      obtain ⟨-, ⟨th2, i1, i1'⟩, -, ⟨rm2, i5, i5'⟩, -⟩ := id V2
      refine z_iload_n hE d_Mo_summed_21 rfl ?_
      refine z_aload_n hE d_Mo_summed_22 rfl ?_
      refine z_get hE d_Mo_summed_23 fl_Mo_23 (by assumption) rfl ?_
      refine z_iload_n hE d_Mo_summed_26 rfl ?_
      refine z_iald hE d_Mo_summed_27 (by assumption) (nI_in' hr (by omega)) ?_
      rw [nI_cl (by omega), i5' r hr, hpe]
      refine z_icmp_ge (tgt := 62) hE d_Mo_summed_28 (by decide) (fun _ => ?_) (fun c_ => absurd c_ (fun z => z ((nI_LE (by omega) (by omega)).mpr (by omega))))
      refine z_aload_n hE d_Mo_summed_62 rfl ?_
      refine z_callV hE d_Mo_summed_63 cl_Mo_227 (c_Mo_beginSum l nx V2) (by assumption) cb_Mo rfl (Nat.le_of_ble_eq_true rfl) ⟨by decide, by decide⟩ ⟨by omega, by omega⟩ (fun r_1 g_1 nx_1 hp_1 => ?_) rfl
      try dsimp only [Option.toList, List.nil_append, List.cons_append]
      obtain ⟨rfl, rfl, W3, t3, V3⟩ := hp_1
      try dsimp only [Option.toList, List.nil_append, List.cons_append]
      have W3 := gW_t W2 W3
      refine z_iconst (v := nI 0) hE d_Mo_summed_66 (by decide) ?_
      refine z_istore_n hE d_Mo_summed_67 rfl (by decide) ?_
      by_cases hf : cntQ (S.2.2.1 r) p < p
      · rw [if_pos hf] at hc
        subst hc
        have m3 := V3.1
        obtain ⟨-, -, -, ⟨rm3, j5, j5'⟩, -⟩ := id V3
        refine z_iload_n hE d_Mo_summed_68 rfl ?_
        refine z_aload_n hE d_Mo_summed_69 rfl ?_
        refine z_get hE d_Mo_summed_70 fl_Mo_23 (by assumption) rfl ?_
        refine z_iload_n hE d_Mo_summed_73 rfl ?_
        refine z_iald hE d_Mo_summed_74 (by assumption) (nI_in' hr (by omega)) ?_
        rw [nI_cl (by omega), j5' r hr, hpe]
        by_cases hkp : p ≤ 0
        · refine z_icmp_ge (tgt := 110) hE d_Mo_summed_75 (by decide) (fun _ => ?_) (fun c_ => absurd c_ (fun w => w ((nI_LE (by omega) (by omega)).mpr hkp)))
          exact last _ _ _ _ _ _ V3 (EQS_o hEQ (by omega)) W3 (Or.inl ⟨Or.inr hf, rfl⟩) rfl
        · refine z_icmp_ge (tgt := 110) hE d_Mo_summed_75 (by decide) (fun c_ => absurd c_ (fun w => hkp ((nI_LE (by omega) (by omega)).mp w))) (fun _ => ?_)
          refine z_aload_n hE d_Mo_summed_78 rfl ?_
          refine z_get hE d_Mo_summed_79 fl_Mo_50 (by assumption) rfl ?_
          refine z_if_ne (tgt := 110) hE d_Mo_summed_82 (by decide) (fun _ => ?_) (fun c_ => absurd c_ (by decide))
          exact last _ _ _ _ _ _ V3 (EQS_o hEQ (by omega)) W3 (Or.inl ⟨Or.inr hf, rfl⟩) rfl
      · rw [if_neg hf] at hc
        subst hc
        exact loop2 p 0 _ _ _ _ (0, 0, 1) (by omega) hf V3 (EQS_o hEQ (by omega)) W3 rfl QK_0 upE_s _ rfl rfl rfl
    | succ u ih =>
      intro k g' c' hu V2 W2 hc lv l0 l1 l2
      refine z_sub (lv' := [(0, .ref P), (1, .int (nI r)), (2, .int (nI k))]) (by simp only [List.map, l0, l1, l2]) ?_
      have m2 := V2.1
      obtain ⟨-, ⟨th2, i1, i1'⟩, -, ⟨rm2, i5, i5'⟩, -⟩ := id V2
      refine z_iload_n hE d_Mo_summed_21 rfl ?_
      refine z_aload_n hE d_Mo_summed_22 rfl ?_
      refine z_get hE d_Mo_summed_23 fl_Mo_23 (by assumption) rfl ?_
      refine z_iload_n hE d_Mo_summed_26 rfl ?_
      refine z_iald hE d_Mo_summed_27 (by assumption) (nI_in' hr (by omega)) ?_
      rw [nI_cl (by omega), i5' r hr, hpe]
      refine z_icmp_ge (tgt := 62) hE d_Mo_summed_28 (by decide) (fun c_ => absurd c_ (fun z => absurd ((nI_LE (by omega) (by omega)).mp z) (by omega))) (fun _ => ?_)
      have nx1 : ∀ (z : Int32) lv, z = (if cntQ (S.2.2.1 r) (k + 1) < k + 1 then 1 else 0) → lG lv 0 = some (.ref P) → lG lv 1 = some (.int (nI r)) → lG lv 2 = some (.int (nI k)) → zJ E g' nx 0 0 53 lv [.int z, .ref P] := by
        intro z lv hz l0 l1 l2
        refine z_sub (lv' := [(0, .ref P), (1, .int (nI r)), (2, .int (nI k))]) (by simp only [List.map, l0, l1, l2]) ?_
        refine z_put hE d_Mo_summed_53 fl_Mo_50 ct_Mo ff_Mo_5 (by assumption) rfl rfl (Nat.le_of_ble_eq_true rfl) ?_
        have V3 := MV_put V2 z S.2.2.2.2 ts
        refine z_iinc (v := nI (k + 1)) hE d_Mo_summed_56 rfl (nI_1 k) (by decide) ?_
        refine z_goto (tgt := 21) hE d_Mo_summed_59 (by decide) ?_
        exact ih (k + 1) _ z (by omega) V3 (gW_t W2 (gW_S (Nat.le_refl _) (by omega))) hz _ rfl rfl rfl
      have hcs := cnt_s (S.2.2.1 r) k
      refine z_aload_n hE d_Mo_summed_31 rfl ?_
      refine z_aload_n hE d_Mo_summed_32 rfl ?_
      refine z_get hE d_Mo_summed_33 fl_Mo_7 (by assumption) rfl ?_
      refine z_iload_n hE d_Mo_summed_36 rfl ?_
      refine z_iload_n hE d_Mo_summed_37 rfl ?_
      refine z_callS hE d_Mo_summed_38 cl_Mo_224 (c_Mo_placeOf l g' nx r k) rfl (Nat.le_of_ble_eq_true rfl) ⟨by decide, by decide⟩ ⟨by omega, by omega⟩ (fun r_38 g_38 nx_38 hp_38 => ?_) rfl
      obtain ⟨rfl, rfl, rfl⟩ := hp_38
      try dsimp only [Option.toList, List.nil_append, List.cons_append]
      refine z_zald hE d_Mo_summed_41 (by assumption) (nI_in' (by omega : 16 + 10 * r + k < 58) (by omega)) ?_
      rw [nI_cl (by omega), i1' _ (by omega), hEQ.2 r hr k (by omega)]
      cases hs : S.2.2.1 r k with
      | none =>
        rw [show (none : Option Qf).isSome = false from rfl, if_neg (by decide)]
        refine z_if_eq (tgt := 52) hE d_Mo_summed_42 (by decide) (fun _ => ?_) (fun c_ => absurd c_ (fun z => z rfl))
        refine z_iconst (v := 1) hE d_Mo_summed_52 (by decide) ?_
        exact nx1 1 _ (by rw [if_pos (hcs.mpr (Or.inr hs))]) rfl rfl rfl
      | some q =>
        rw [show (some q).isSome = true from rfl, if_pos rfl]
        refine z_if_eq (tgt := 52) hE d_Mo_summed_42 (by decide) (fun c_ => absurd c_ (by decide)) (fun _ => ?_)
        refine z_aload_n hE d_Mo_summed_45 rfl ?_
        refine z_get hE d_Mo_summed_46 fl_Mo_50 (by assumption) rfl ?_
        refine z_goto (tgt := 53) hE d_Mo_summed_49 (by decide) ?_
        refine nx1 c' _ ?_ rfl rfl rfl
        rw [hc]
        by_cases h : cntQ (S.2.2.1 r) k < k
        · rw [if_pos h, if_pos (hcs.mpr (Or.inl h))]
        · rw [if_neg h, if_neg (fun w => (hcs.mp w).elim h (fun y => by rw [hs] at y; cases y))]
  refine z_iconst (v := nI 0) hE d_Mo_summed_19 (by decide) ?_
  refine z_istore_n hE d_Mo_summed_20 rfl (by decide) ?_
  exact loop p 0 _ 0 (by omega) V1 W1 rfl _ rfl rfl rfl
theorem c_Mo_sum (l : Launch) {g : Gh} (nx : Nat) {P : Nat} {S : Sx} (hM : MW g P S) (hO : SOK S) (f r : Int32) : Ct l m_Mo_sum 0 0 [.ref P, .int f, .int r] g nx (pM g P nx (spSum S f r)) := by
  obtain ⟨E0, t, ts, hV, hEQ⟩ := hM
  have h0 := hV.1
  obtain ⟨-, ⟨th, h1, h1'⟩, ⟨sn, A, B, h2, h3, h4, b4, b5, b6⟩, ⟨rm, h5, h5'⟩, -⟩ := id hV
  refine Ct.of (by decide) (Nat.le_of_ble_eq_true rfl) (fun E hE hQ => ?_)
  have out : ∀ lv, ¬ (inI f 0 15 ∧ inI r 0 3) → zJ E g nx 0 0 14 lv [] := by
    intro lv h
    refine z_ldc hE d_Mo_sum_14 cn_Mo_141 ?_
    exact z_iret hE hQ d_Mo_sum_16 rfl (by omega) (by omega) (pM_of (if_neg h) hV hEQ gW_r)
  refine z_iload_n hE d_Mo_sum_0 rfl ?_
  refine z_callS hE d_Mo_sum_1 cl_Mo_138 (c_Mo_isFraction l g nx f) rfl (Nat.le_of_ble_eq_true rfl) ⟨by decide, by decide⟩ ⟨by omega, by omega⟩ (fun r_1 g_1 nx_1 hp_1 => ?_) rfl
  obtain ⟨rfl, rfl, rfl⟩ := hp_1
  try dsimp only [Option.toList, List.nil_append, List.cons_append]
  by_cases hf : inI f 0 15
  case neg =>
    rw [if_neg hf]
    refine z_if_eq (tgt := 14) hE d_Mo_sum_4 (by decide) (fun _ => ?_) (fun c_ => absurd c_ (by decide))
    exact out _ (fun q => hf q.1)
  rw [if_pos hf]
  refine z_if_eq (tgt := 14) hE d_Mo_sum_4 (by decide) (fun c_ => absurd c_ (by decide)) (fun _ => ?_)
  refine z_iload_n hE d_Mo_sum_7 rfl ?_
  refine z_callS hE d_Mo_sum_8 cl_Mo_221 (c_Mo_isRow l g nx r) rfl (Nat.le_of_ble_eq_true rfl) ⟨by decide, by decide⟩ ⟨by omega, by omega⟩ (fun r_8 g_8 nx_8 hp_8 => ?_) rfl
  obtain ⟨rfl, rfl, rfl⟩ := hp_8
  try dsimp only [Option.toList, List.nil_append, List.cons_append]
  by_cases hr : inI r 0 3
  case neg =>
    rw [if_neg hr]
    refine z_if_ne (tgt := 17) hE d_Mo_sum_11 (by decide) (fun c_ => absurd c_ (by decide)) (fun _ => ?_)
    exact out _ (fun q => hr q.2)
  rw [if_pos hr]
  refine z_if_ne (tgt := 17) hE d_Mo_sum_11 (by decide) (fun _ => ?_) (fun c_ => absurd c_ (by decide))
  obtain ⟨ef, zf, hf2⟩ := fx_of hf (by omega) (by omega)
  obtain ⟨er, zr, hr2⟩ := fx_of hr (by omega) (by omega)
  refine z_aload_n hE d_Mo_sum_17 rfl ?_
  refine z_iload_n hE d_Mo_sum_18 rfl ?_
  rw [er]
  refine z_callV hE d_Mo_sum_19 cl_Mo_234 (c_Mo_summed l nx hV hEQ hO (by omega : fx r < 4)) (by assumption) cb_Mo rfl (Nat.le_of_ble_eq_true rfl) ⟨by decide, by decide⟩ ⟨by omega, by omega⟩ (fun r_1 g_1 nx_1 hp_1 => ?_) rfl
  try dsimp only [Option.toList, List.nil_append, List.cons_append]
  obtain ⟨rfl, W1, E1, t1, ts1, c1, V1, S1, H⟩ := hp_1
  have m1 := V1.1
  obtain ⟨h, rfl, rfl⟩ | ⟨h, ⟨hs, rfl, rfl⟩ | ⟨q, hs, kq, eq, rfl, rfl⟩⟩ := H
  · try dsimp only [Option.toList, List.nil_append, List.cons_append]
    refine z_if_ne (tgt := 27) hE d_Mo_sum_22 (by decide) (fun c_ => absurd c_ (by decide)) (fun _ => ?_)
    refine z_iconst (v := 0) hE d_Mo_sum_25 (by decide) ?_
    exact z_iret hE hQ d_Mo_sum_26 rfl (by omega) (by omega) (pM_of (S := sC S 1) (by unfold spSum; rw [if_pos ⟨hf, hr⟩]; exact if_pos h) V1 (EQS_c S1 rfl rfl) W1)
  · try dsimp only [Option.toList, List.nil_append, List.cons_append]
    refine z_if_ne (tgt := 27) hE d_Mo_sum_22 (by decide) (fun c_ => absurd c_ (by decide)) (fun _ => ?_)
    refine z_iconst (v := 0) hE d_Mo_sum_25 (by decide) ?_
    exact z_iret hE hQ d_Mo_sum_26 rfl (by omega) (by omega) (pM_of (S := sC S 6) (by unfold spSum; rw [if_pos ⟨hf, hr⟩, if_neg h, hs]; rfl) V1 (EQS_c S1 rfl rfl) W1)
  · try dsimp only [Option.toList, List.nil_append, List.cons_append]
    refine z_if_ne (tgt := 27) hE d_Mo_sum_22 (by decide) (fun _ => ?_) (fun c_ => absurd c_ (by decide))
    refine z_aload_n hE d_Mo_sum_27 rfl ?_
    refine z_bipush (v := nI 56) hE d_Mo_sum_28 (by decide) ?_
    refine z_aload_n hE d_Mo_sum_30 rfl ?_
    refine z_get hE d_Mo_sum_31 fl_Mo_26 (by assumption) rfl ?_
    refine z_aload_n hE d_Mo_sum_34 rfl ?_
    refine z_get hE d_Mo_sum_35 fl_Mo_29 (by assumption) rfl ?_
    refine z_callV hE d_Mo_sum_38 cl_Mo_119 (c_Mo_take l nx (f := 56) (i := 6) (j := 7) V1 (by omega) eq (by omega) (by omega) (by omega) (by omega) (by omega)) (by assumption) cb_Mo rfl (Nat.le_of_ble_eq_true rfl) ⟨by decide, by decide⟩ ⟨by omega, by omega⟩ (fun r_2 g_2 nx_2 hp_2 => ?_) rfl
    try dsimp only [Option.toList, List.nil_append, List.cons_append]
    obtain ⟨rfl, rfl, V2, G2⟩ := hp_2
    try dsimp only [Option.toList, List.nil_append, List.cons_append]
    have m2 := V2.1
    have W2 : gW g g_2 P (P + 14) := gW_t W1 (g2_W G2 (by omega) (by omega) (by omega) (by omega))
    obtain ⟨-, -, ⟨sn2, A2, B2, k2, -, -, -, -, k6⟩, -⟩ := id V2
    have sq2 := (k6 56 (by omega) q eq).1
    refine z_aload_n hE d_Mo_sum_41 rfl ?_
    refine z_aload_n hE d_Mo_sum_42 rfl ?_
    refine z_get hE d_Mo_sum_43 fl_Mo_13 (by assumption) rfl ?_
    refine z_bipush (v := nI 56) hE d_Mo_sum_46 (by decide) ?_
    refine z_iald hE d_Mo_sum_48 (by assumption) (nI_in' (by omega : 56 < 58) (by omega)) ?_
    rw [nI_cl (by omega), sq2]
    refine z_put hE d_Mo_sum_49 fl_Mo_99 ct_Mo ff_Mo_9 (by assumption) rfl rfl (Nat.le_of_ble_eq_true rfl) ?_
    have V3 := MV_put V2 0 S.2.2.2.2 q.1
    have m3 := V3.1
    have e8 : 4294967296 ^ 8 * 4 ≤ 65536 ^ 56 := by decide
    have qw := kq.2.2
    refine z_aload_n hE d_Mo_sum_52 rfl ?_
    refine z_iload_n hE d_Mo_sum_53 rfl ?_
    rw [ef]
    refine z_callV hE d_Mo_sum_54 cl_Mo_146 (c_Mo_made l nx (S := sC S 0) V3 (EQS_c S1 rfl rfl) (by omega : fx f < 16) (by exact kq.1.2.2) (by show 2 * q.2.2 ≤ _; omega)) (by assumption) cb_Mo rfl (Nat.le_of_ble_eq_true rfl) ⟨by decide, by decide⟩ ⟨by omega, by omega⟩ (fun r_8 g_8 nx_8 hp_8 => ?_) rfl
    try dsimp only [Option.toList, List.nil_append, List.cons_append]
    refine z_mret hE hQ d_Mo_sum_57 rfl (by omega) (by omega) (gW_t W2 (gW_S (Nat.le_refl _) (by omega))) ?_ hp_8
    show spSum S f r = mkS (sC S 0) (fx f) (mk q.1 q.2.1 q.2.2)
    rw [mk_Q kq.1]
    have e1 : spSum S f r = mkS S (fx f) q := by unfold spSum; rw [if_pos ⟨hf, hr⟩, if_neg h, hs]
    rw [e1]; rfl
theorem one_iff {q : Qf} (h : QOK q) : (q.1 = 1 ∧ q.2.1 = q.2.2) ↔ (0 < q.1 ∧ q.2.1 = 1 ∧ q.2.2 = 1) := by
  obtain ⟨s, a, b⟩ := q
  obtain ⟨h1, h2, h3⟩ := h
  dsimp only at *
  constructor
  · rintro ⟨rfl, rfl⟩
    rw [Nat.gcd_self] at h2
    exact ⟨by decide, h2, h2⟩
  · rintro ⟨z1, rfl, rfl⟩
    rcases h1 with ⟨z, -⟩ | ⟨z, -⟩ | ⟨z, -⟩
    · rw [z] at z1; exact absurd z1 (by decide)
    · exact ⟨z, rfl⟩
    · rw [z] at z1; exact absurd z1 (by decide)
theorem c_Mo_isOne (l : Launch) {g : Gh} (nx : Nat) {f : Nat} {q : Qf} {P : Nat} {E0 : Nat → Option Qf} {pl : Nat → Int32} {c n ts : Int32} {t : Nat → Nat} (hV : MV g P E0 pl c n ts t) (hf : f < 58) (hq : E0 f = some q) (kq : QOK q) : Ct l m_Mo_isOne 0 0 [.ref P, .int (nI f)] g nx (fun r g' nx' => r = some (.int (if 0 < q.1 ∧ q.2.1 = 1 ∧ q.2.2 = 1 then 1 else 0)) ∧ nx = nx' ∧ MV g' P E0 pl c n ts (upN (upN t 8 q.2.1) 9 q.2.2) ∧ g2 g g' (P + 8) (P + 9)) := by
  have h0 := hV.1
  refine Ct.of (by decide) (Nat.le_of_ble_eq_true rfl) (fun E hE hQ => ?_)
  refine z_aload_n hE d_Mo_isOne_0 rfl ?_
  refine z_iload_n hE d_Mo_isOne_1 rfl ?_
  refine z_aload_n hE d_Mo_isOne_2 rfl ?_
  refine z_get hE d_Mo_isOne_3 fl_Mo_32 (by assumption) rfl ?_
  refine z_aload_n hE d_Mo_isOne_6 rfl ?_
  refine z_get hE d_Mo_isOne_7 fl_Mo_35 (by assumption) rfl ?_
  refine z_callV hE d_Mo_isOne_10 cl_Mo_119 (c_Mo_take l nx (i := 8) (j := 9) hV hf hq (by omega) (by omega) (by omega) (by omega) (by omega)) (by assumption) cb_Mo rfl (Nat.le_of_ble_eq_true rfl) ⟨by decide, by decide⟩ ⟨by omega, by omega⟩ (fun r_1 g_1 nx_1 hp_1 => ?_) rfl
  try dsimp only [Option.toList, List.nil_append, List.cons_append]
  obtain ⟨rfl, rfl, V1, G1⟩ := hp_1
  try dsimp only [Option.toList, List.nil_append, List.cons_append]
  have m1 := V1.1
  have N8 : MA g_1 (P + 8) q.2.1 := MV_m V1 8 (by omega) (by omega)
  have N9 : MA g_1 (P + 9) q.2.2 := MV_m V1 9 (by omega) (by omega)
  obtain ⟨-, -, ⟨sn2, A2, B2, k2, -, -, -, -, k6⟩, -⟩ := id V1
  have sq2 := (k6 f hf q hq).1
  have ho := one_iff kq
  have no : ∀ lv, ¬ (q.1 = 1 ∧ q.2.1 = q.2.2) → zJ E g_1 nx 0 0 41 lv [] := by
    intro lv h
    refine z_iconst (v := 0) hE d_Mo_isOne_41 (by decide) ?_
    exact z_zret hE hQ d_Mo_isOne_42 rfl (by omega) (by omega) (Or.inl rfl) ⟨by rw [if_neg (fun w => h (ho.mpr w))], rfl, V1, G1⟩
  refine z_aload_n hE d_Mo_isOne_13 rfl ?_
  refine z_get hE d_Mo_isOne_14 fl_Mo_13 (by assumption) rfl ?_
  refine z_iload_n hE d_Mo_isOne_17 rfl ?_
  refine z_iald hE d_Mo_isOne_18 (by assumption) (nI_in' hf (by omega)) ?_
  rw [nI_cl (by omega), sq2]
  refine z_iconst (v := 1) hE d_Mo_isOne_19 (by decide) ?_
  by_cases h1 : q.1 = 1
  case neg =>
    refine z_icmp_ne (tgt := 41) hE d_Mo_isOne_20 (by decide) (fun _ => ?_) (fun c_ => absurd c_ (h1))
    exact no _ (fun w => h1 w.1)
  refine z_icmp_ne (tgt := 41) hE d_Mo_isOne_20 (by decide) (fun c_ => absurd c_ (fun w => w h1)) (fun _ => ?_)
  refine z_aload_n hE d_Mo_isOne_23 rfl ?_
  refine z_get hE d_Mo_isOne_24 fl_Mo_32 (by assumption) rfl ?_
  refine z_aload_n hE d_Mo_isOne_27 rfl ?_
  refine z_get hE d_Mo_isOne_28 fl_Mo_35 (by assumption) rfl ?_
  refine z_callS hE d_Mo_isOne_31 cl_Mo_69 (c_Mo_compared l nx N8 N9) rfl (Nat.le_of_ble_eq_true rfl) ⟨by decide, by decide⟩ ⟨by omega, by omega⟩ (fun r_31 g_31 nx_31 hp_31 => ?_) rfl
  obtain ⟨rfl, rfl, rfl⟩ := hp_31
  try dsimp only [Option.toList, List.nil_append, List.cons_append]
  by_cases h2 : q.2.1 = q.2.2
  · rw [show cmpN q.2.1 q.2.2 = 0 by unfold cmpN; rw [if_neg (by omega), if_pos h2]]
    refine z_if_ne (tgt := 41) hE d_Mo_isOne_34 (by decide) (fun c_ => absurd c_ (fun w => w rfl)) (fun _ => ?_)
    refine z_iconst (v := 1) hE d_Mo_isOne_37 (by decide) ?_
    refine z_goto (tgt := 42) hE d_Mo_isOne_38 (by decide) ?_
    exact z_zret hE hQ d_Mo_isOne_42 rfl (by omega) (by omega) (Or.inr rfl) ⟨by rw [if_pos (ho.mp ⟨h1, h2⟩)], rfl, V1, G1⟩
  · have hc : cmpN q.2.1 q.2.2 ≠ 0 := by unfold cmpN; rw [if_neg h2]; split <;> decide
    refine z_if_ne (tgt := 41) hE d_Mo_isOne_34 (by decide) (fun _ => ?_) (fun c_ => absurd c_ (hc))
    exact no _ (fun w => h2 w.2)
theorem c_Mo_one (l : Launch) {g : Gh} (nx : Nat) {P : Nat} {S : Sx} (hM : MW g P S) (hO : SOK S) (r : Int32) : Ct l m_Mo_one 0 0 [.ref P, .int r] g nx (pM g P nx (spOne S r)) := by
  obtain ⟨E0, t, ts, hV, hEQ⟩ := hM
  have h0 := hV.1
  obtain ⟨-, ⟨th, h1, h1'⟩, ⟨sn, A, B, h2, h3, h4, b4, b5, b6⟩, ⟨rm, h5, h5'⟩, -⟩ := id hV
  refine Ct.of (by decide) (Nat.le_of_ble_eq_true rfl) (fun E hE hQ => ?_)
  have out : ∀ lv, ¬ (inI r 0 3) → zJ E g nx 0 0 7 lv [] := by
    intro lv h
    refine z_ldc hE d_Mo_one_7 cn_Mo_141 ?_
    exact z_iret hE hQ d_Mo_one_9 rfl (by omega) (by omega) (pM_of (if_neg h) hV hEQ gW_r)
  refine z_iload_n hE d_Mo_one_0 rfl ?_
  refine z_callS hE d_Mo_one_1 cl_Mo_221 (c_Mo_isRow l g nx r) rfl (Nat.le_of_ble_eq_true rfl) ⟨by decide, by decide⟩ ⟨by omega, by omega⟩ (fun r_1 g_1 nx_1 hp_1 => ?_) rfl
  obtain ⟨rfl, rfl, rfl⟩ := hp_1
  try dsimp only [Option.toList, List.nil_append, List.cons_append]
  by_cases hr : inI r 0 3
  case neg =>
    rw [if_neg hr]
    refine z_if_ne (tgt := 10) hE d_Mo_one_4 (by decide) (fun c_ => absurd c_ (by decide)) (fun _ => ?_)
    exact out _ (fun q => hr q)
  rw [if_pos hr]
  refine z_if_ne (tgt := 10) hE d_Mo_one_4 (by decide) (fun _ => ?_) (fun c_ => absurd c_ (by decide))
  obtain ⟨er, zr, hr2⟩ := fx_of hr (by omega) (by omega)
  refine z_aload_n hE d_Mo_one_10 rfl ?_
  refine z_iload_n hE d_Mo_one_11 rfl ?_
  rw [er]
  refine z_callV hE d_Mo_one_12 cl_Mo_234 (c_Mo_summed l nx hV hEQ hO (by omega : fx r < 4)) (by assumption) cb_Mo rfl (Nat.le_of_ble_eq_true rfl) ⟨by decide, by decide⟩ ⟨by omega, by omega⟩ (fun r_1 g_1 nx_1 hp_1 => ?_) rfl
  try dsimp only [Option.toList, List.nil_append, List.cons_append]
  obtain ⟨rfl, W1, E1, t1, ts1, c1, V1, S1, H⟩ := hp_1
  have m1 := V1.1
  obtain ⟨h, rfl, rfl⟩ | ⟨h, ⟨hs, rfl, rfl⟩ | ⟨q, hs, kq, eq, rfl, rfl⟩⟩ := H
  · try dsimp only [Option.toList, List.nil_append, List.cons_append]
    refine z_if_eq (tgt := 31) hE d_Mo_one_15 (by decide) (fun _ => ?_) (fun c_ => absurd c_ (by decide))
    refine z_iconst (v := 0) hE d_Mo_one_31 (by decide) ?_
    exact z_iret hE hQ d_Mo_one_32 rfl (by omega) (by omega) (pM_of (S := sC S 1) (by unfold spOne; rw [if_pos hr]; exact if_pos h) V1 (EQS_c S1 rfl rfl) W1)
  · try dsimp only [Option.toList, List.nil_append, List.cons_append]
    refine z_if_eq (tgt := 31) hE d_Mo_one_15 (by decide) (fun _ => ?_) (fun c_ => absurd c_ (by decide))
    refine z_iconst (v := 0) hE d_Mo_one_31 (by decide) ?_
    exact z_iret hE hQ d_Mo_one_32 rfl (by omega) (by omega) (pM_of (S := sC S 6) (by unfold spOne; rw [if_pos hr, if_neg h, hs]; rfl) V1 (EQS_c S1 rfl rfl) W1)
  · try dsimp only [Option.toList, List.nil_append, List.cons_append]
    have hspec : spOne S r = doneS S (if 0 < q.1 ∧ q.2.1 = 1 ∧ q.2.2 = 1 then 1 else 0) := by unfold spOne; rw [if_pos hr, if_neg h, hs]
    refine z_if_eq (tgt := 31) hE d_Mo_one_15 (by decide) (fun c_ => absurd c_ (by decide)) (fun _ => ?_)
    refine z_aload_n hE d_Mo_one_18 rfl ?_
    refine z_bipush (v := nI 56) hE d_Mo_one_19 (by decide) ?_
    refine z_callV hE d_Mo_one_21 cl_Mo_237 (c_Mo_isOne l nx (f := 56) V1 (by omega) eq kq.1) (by assumption) cb_Mo rfl (Nat.le_of_ble_eq_true rfl) ⟨by decide, by decide⟩ ⟨by omega, by omega⟩ (fun r_2 g_2 nx_2 hp_2 => ?_) rfl
    try dsimp only [Option.toList, List.nil_append, List.cons_append]
    obtain ⟨rfl, rfl, V2, G2⟩ := hp_2
    try dsimp only [Option.toList, List.nil_append, List.cons_append]
    have m2 := V2.1
    have W2 : gW g g_2 P (P + 14) := gW_t W1 (g2_W G2 (by omega) (by omega) (by omega) (by omega))
    by_cases ho : 0 < q.1 ∧ q.2.1 = 1 ∧ q.2.2 = 1
    · rw [if_pos ho]
      refine z_if_eq (tgt := 31) hE d_Mo_one_24 (by decide) (fun c_ => absurd c_ (by decide)) (fun _ => ?_)
      refine z_iconst (v := 1) hE d_Mo_one_27 (by decide) ?_
      refine z_goto (tgt := 32) hE d_Mo_one_28 (by decide) ?_
      exact z_iret hE hQ d_Mo_one_32 rfl (by omega) (by omega) (pM_of (S := sC S 0) (by rw [hspec, if_pos ho]; rfl) V2 (EQS_c S1 rfl rfl) W2)
    · rw [if_neg ho]
      refine z_if_eq (tgt := 31) hE d_Mo_one_24 (by decide) (fun _ => ?_) (fun c_ => absurd c_ (by decide))
      refine z_iconst (v := 0) hE d_Mo_one_31 (by decide) ?_
      exact z_iret hE hQ d_Mo_one_32 rfl (by omega) (by omega) (pM_of (S := sC S 0) (by rw [hspec, if_neg ho]; rfl) V2 (EQS_c S1 rfl rfl) W2)
theorem c_Mo_pick (l : Launch) {g : Gh} (nx : Nat) {P : Nat} {S : Sx} (hM : MW g P S) (hO : SOK S) (r a : Int32) : Ct l m_Mo_pick 0 0 [.ref P, .int r, .int a] g nx (pM g P nx (spPick S r a)) := by
  obtain ⟨E0, t, ts, hV, hEQ⟩ := hM
  have h0 := hV.1
  obtain ⟨-, ⟨th, h1, h1'⟩, ⟨sn, A, B, h2, h3, h4, b4, b5, b6⟩, ⟨rm, h5, h5'⟩, -⟩ := id hV
  refine Ct.of (by decide) (Nat.le_of_ble_eq_true rfl) (fun E hE hQ => ?_)
  have out : ∀ lv, ¬ (inI r 0 3 ∧ inI a 0 15) → zJ E g nx 0 0 14 lv [] := by
    intro lv h
    refine z_ldc hE d_Mo_pick_14 cn_Mo_141 ?_
    exact z_iret hE hQ d_Mo_pick_16 rfl (by omega) (by omega) (pM_of (if_neg h) hV hEQ gW_r)
  refine z_iload_n hE d_Mo_pick_0 rfl ?_
  refine z_callS hE d_Mo_pick_1 cl_Mo_221 (c_Mo_isRow l g nx r) rfl (Nat.le_of_ble_eq_true rfl) ⟨by decide, by decide⟩ ⟨by omega, by omega⟩ (fun r_1 g_1 nx_1 hp_1 => ?_) rfl
  obtain ⟨rfl, rfl, rfl⟩ := hp_1
  try dsimp only [Option.toList, List.nil_append, List.cons_append]
  by_cases hr : inI r 0 3
  case neg =>
    rw [if_neg hr]
    refine z_if_eq (tgt := 14) hE d_Mo_pick_4 (by decide) (fun _ => ?_) (fun c_ => absurd c_ (by decide))
    exact out _ (fun q => hr q.1)
  rw [if_pos hr]
  refine z_if_eq (tgt := 14) hE d_Mo_pick_4 (by decide) (fun c_ => absurd c_ (by decide)) (fun _ => ?_)
  refine z_iload_n hE d_Mo_pick_7 rfl ?_
  refine z_callS hE d_Mo_pick_8 cl_Mo_138 (c_Mo_isFraction l g nx a) rfl (Nat.le_of_ble_eq_true rfl) ⟨by decide, by decide⟩ ⟨by omega, by omega⟩ (fun r_8 g_8 nx_8 hp_8 => ?_) rfl
  obtain ⟨rfl, rfl, rfl⟩ := hp_8
  try dsimp only [Option.toList, List.nil_append, List.cons_append]
  by_cases ha : inI a 0 15
  case neg =>
    rw [if_neg ha]
    refine z_if_ne (tgt := 17) hE d_Mo_pick_11 (by decide) (fun c_ => absurd c_ (by decide)) (fun _ => ?_)
    exact out _ (fun q => ha q.2)
  rw [if_pos ha]
  refine z_if_ne (tgt := 17) hE d_Mo_pick_11 (by decide) (fun _ => ?_) (fun c_ => absurd c_ (by decide))
  obtain ⟨er, zr, hr2⟩ := fx_of hr (by omega) (by omega)
  obtain ⟨ea, za, ha2⟩ := fx_of ha (by omega) (by omega)
  have none1 : ∀ lv, (S.2.1 (fx r) = -1 ∨ S.1 (fx a) = none) → lG lv 0 = some (.ref P) → zJ E g nx 0 0 36 lv [] := by
    intro lv h l0
    refine z_sub (lv' := [(0, .ref P)]) (by simp only [List.map, l0]) ?_
    refine z_aload_n hE d_Mo_pick_36 rfl ?_
    refine z_iconst (v := 1) hE d_Mo_pick_37 (by decide) ?_
    refine z_callV hE d_Mo_pick_38 cl_Mo_106 (c_Mo_fail l nx hV 1) (by assumption) cb_Mo rfl (Nat.le_of_ble_eq_true rfl) ⟨by decide, by decide⟩ ⟨by omega, by omega⟩ (fun r_9 g_9 nx_9 hp_9 => ?_) rfl
    try dsimp only [Option.toList, List.nil_append, List.cons_append]
    obtain ⟨rfl, rfl, V9, G9⟩ := hp_9
    try dsimp only [Option.toList, List.nil_append, List.cons_append]
    refine z_iret hE hQ d_Mo_pick_41 rfl (by omega) (by omega) (pM_of (S := sC S 1) ?_ V9 (EQS_c hEQ rfl rfl) (gW_t gW_r (g1_W G9 (by omega) (by omega))))
    unfold spPick
    rw [if_pos ⟨hr, ha⟩]
    cases hq : S.1 (fx a) with
    | none => rfl
    | some q =>
      rcases h with h | h
      · exact if_pos h
      · rw [hq] at h; cases h
  refine z_aload_n hE d_Mo_pick_17 rfl ?_
  refine z_get hE d_Mo_pick_18 fl_Mo_23 (by assumption) rfl ?_
  refine z_iload_n hE d_Mo_pick_21 rfl ?_
  rw [er]
  refine z_iald hE d_Mo_pick_22 (by assumption) (nI_in' (by omega : fx r < 4) (by omega)) ?_
  rw [nI_cl (by omega), h5' (fx r) (by omega)]
  refine z_iconst (v := (-1)) hE d_Mo_pick_23 (by decide) ?_
  by_cases hm : S.2.1 (fx r) = -1
  case pos =>
    refine z_icmp_eq (tgt := 36) hE d_Mo_pick_24 (by decide) (fun _ => ?_) (fun c_ => absurd c_ (fun w => w hm))
    exact none1 _ (Or.inl hm) rfl
  refine z_icmp_eq (tgt := 36) hE d_Mo_pick_24 (by decide) (fun c_ => absurd c_ (hm)) (fun _ => ?_)
  refine z_aload_n hE d_Mo_pick_27 rfl ?_
  refine z_get hE d_Mo_pick_28 fl_Mo_7 (by assumption) rfl ?_
  refine z_iload_n hE d_Mo_pick_31 rfl ?_
  rw [ea]
  refine z_zald hE d_Mo_pick_32 (by assumption) (nI_in' (by omega : fx a < 58) (by omega)) ?_
  rw [nI_cl (by omega), h1' (fx a) (by omega), hEQ.1 (fx a) (by omega)]
  obtain ⟨x, hx⟩ | hx : (∃ x, S.1 (fx a) = some x) ∨ S.1 (fx a) = none := by cases S.1 (fx a); exact Or.inr rfl; exact Or.inl ⟨_, rfl⟩
  case inr =>
    rw [hx, show (none : Option Qf).isSome = false from rfl, if_neg (by decide)]
    refine z_if_ne (tgt := 42) hE d_Mo_pick_33 (by decide) (fun c_ => absurd c_ (fun z => z rfl)) (fun _ => ?_)
    exact none1 _ (Or.inr hx) rfl
  rw [hx, show (some x).isSome = true from rfl, if_pos rfl]
  refine z_if_ne (tgt := 42) hE d_Mo_pick_33 (by decide) (fun _ => ?_) (fun c_ => absurd c_ (by decide))
  have kx := S_q hO (by omega) hx
  have ex := (hEQ.1 (fx a) (by omega)).trans hx
  obtain ⟨p, hp, hpe⟩ := (hO.2.1 (fx r) (by omega)).resolve_left hm
  have hspec : spPick S r a = (.int (pq (S.2.2.1 (fx r)) x p 0 (0, 0, 1)).1, sC S (pq (S.2.2.1 (fx r)) x p 0 (0, 0, 1)).2) := by unfold spPick; rw [if_pos ⟨hr, ha⟩, hx]; show (if S.2.1 (fx r) = -1 then _ else _) = _; rw [if_neg hm, hpe, fx_nI (by omega)]
  refine z_aload_n hE d_Mo_pick_42 rfl ?_
  refine z_callV hE d_Mo_pick_43 cl_Mo_227 (c_Mo_beginSum l nx hV) (by assumption) cb_Mo rfl (Nat.le_of_ble_eq_true rfl) ⟨by decide, by decide⟩ ⟨by omega, by omega⟩ (fun r_1 g_1 nx_1 hp_1 => ?_) rfl
  try dsimp only [Option.toList, List.nil_append, List.cons_append]
  obtain ⟨rfl, rfl, W1, t1, V1⟩ := hp_1
  try dsimp only [Option.toList, List.nil_append, List.cons_append]
  have loop : ∀ (u k : Nat) (g' : Gh) (E' : Nat → Option Qf) (t' : Nat → Nat) (ts' : Int32) (q : Qf), k + u = p → MV g' P E' S.2.1 S.2.2.2.1 S.2.2.2.2 ts' t' → EQS E' S → gW g g' P (P + 14) → spPick S r a = (.int (pq (S.2.2.1 (fx r)) x u k q).1, sC S (pq (S.2.2.1 (fx r)) x u k q).2) → QK q → E' 56 = some q → ∀ lv, lG lv 0 = some (.ref P) → lG lv 1 = some (.int (nI (fx r))) → lG lv 2 = some (.int (nI (fx a))) → lG lv 3 = some (.int (nI k)) → zJ E g' nx 0 0 48 lv [] := by
    intro u
    induction u with
    | zero =>
      intro k g' E' t' ts' q hu V2 S2 W2 hs kq eq lv l0 l1 l2 l3
      refine z_sub (lv' := [(0, .ref P), (1, .int (nI (fx r))), (2, .int (nI (fx a))), (3, .int (nI k))]) (by simp only [List.map, l0, l1, l2, l3]) ?_
      obtain rfl : p = k := by omega
      have m2 := V2.1
      obtain ⟨-, ⟨th2, i1, i1'⟩, -, ⟨rm2, i5, i5'⟩, -⟩ := id V2
      refine z_iload_n hE d_Mo_pick_48 rfl ?_
      refine z_aload_n hE d_Mo_pick_49 rfl ?_
      refine z_get hE d_Mo_pick_50 fl_Mo_23 (by assumption) rfl ?_
      refine z_iload_n hE d_Mo_pick_53 rfl ?_
      refine z_iald hE d_Mo_pick_54 (by assumption) (nI_in' (by omega : fx r < 4) (by omega)) ?_
      rw [nI_cl (by omega), i5' (fx r) (by omega), hpe]
      refine z_icmp_ge (tgt := 115) hE d_Mo_pick_55 (by decide) (fun _ => ?_) (fun c_ => absurd c_ (fun z => z ((nI_LE (by omega) (by omega)).mpr (by omega))))
      refine z_aload_n hE d_Mo_pick_115 rfl ?_
      refine z_iconst (v := (-1)) hE d_Mo_pick_116 (by decide) ?_
      refine z_callV hE d_Mo_pick_117 cl_Mo_116 (c_Mo_done l nx V2 (-1)) (by assumption) cb_Mo rfl (Nat.le_of_ble_eq_true rfl) ⟨by decide, by decide⟩ ⟨by omega, by omega⟩ (fun r_9 g_9 nx_9 hp_9 => ?_) rfl
      try dsimp only [Option.toList, List.nil_append, List.cons_append]
      obtain ⟨rfl, rfl, V9, G9⟩ := hp_9
      try dsimp only [Option.toList, List.nil_append, List.cons_append]
      exact z_iret hE hQ d_Mo_pick_120 rfl (by omega) (by omega) (pM_of (S := sC S 0) hs V9 (EQS_c S2 rfl rfl) (gW_t W2 (g1_W G9 (by omega) (by omega))))
    | succ u ih =>
      intro k g' E' t' ts' q hu V2 S2 W2 hs kq eq lv l0 l1 l2 l3
      refine z_sub (lv' := [(0, .ref P), (1, .int (nI (fx r))), (2, .int (nI (fx a))), (3, .int (nI k))]) (by simp only [List.map, l0, l1, l2, l3]) ?_
      have m2 := V2.1
      obtain ⟨-, ⟨th2, i1, i1'⟩, -, ⟨rm2, i5, i5'⟩, -⟩ := id V2
      refine z_iload_n hE d_Mo_pick_48 rfl ?_
      refine z_aload_n hE d_Mo_pick_49 rfl ?_
      refine z_get hE d_Mo_pick_50 fl_Mo_23 (by assumption) rfl ?_
      refine z_iload_n hE d_Mo_pick_53 rfl ?_
      refine z_iald hE d_Mo_pick_54 (by assumption) (nI_in' (by omega : fx r < 4) (by omega)) ?_
      rw [nI_cl (by omega), i5' (fx r) (by omega), hpe]
      refine z_icmp_ge (tgt := 115) hE d_Mo_pick_55 (by decide) (fun c_ => absurd c_ (fun z => absurd ((nI_LE (by omega) (by omega)).mp z) (by omega))) (fun _ => ?_)
      refine z_aload_n hE d_Mo_pick_58 rfl ?_
      refine z_get hE d_Mo_pick_59 fl_Mo_7 (by assumption) rfl ?_
      refine z_iload_n hE d_Mo_pick_62 rfl ?_
      refine z_iload_n hE d_Mo_pick_63 rfl ?_
      refine z_callS hE d_Mo_pick_64 cl_Mo_224 (c_Mo_placeOf l g' nx (fx r) k) rfl (Nat.le_of_ble_eq_true rfl) ⟨by decide, by decide⟩ ⟨by omega, by omega⟩ (fun r_64 g_64 nx_64 hp_64 => ?_) rfl
      obtain ⟨rfl, rfl, rfl⟩ := hp_64
      try dsimp only [Option.toList, List.nil_append, List.cons_append]
      refine z_zald hE d_Mo_pick_67 (by assumption) (nI_in' (by omega : 16 + 10 * fx r + k < 58) (by omega)) ?_
      rw [nI_cl (by omega), i1' _ (by omega), S2.2 (fx r) (by omega) k (by omega)]
      obtain ⟨y, hy⟩ | hy : (∃ y, S.2.2.1 (fx r) k = some y) ∨ S.2.2.1 (fx r) k = none := by cases S.2.2.1 (fx r) k; exact Or.inr rfl; exact Or.inl ⟨_, rfl⟩
      case inr =>
        rw [hy, show (none : Option Qf).isSome = false from rfl, if_neg (by decide)]
        refine z_if_ne (tgt := 77) hE d_Mo_pick_68 (by decide) (fun c_ => absurd c_ (fun z => z rfl)) (fun _ => ?_)
        have hpq : pq (S.2.2.1 (fx r)) x (u + 1) k q = (0, 1) := by unfold pq; rw [hy]
        rw [hpq] at hs
        refine z_aload_n hE d_Mo_pick_71 rfl ?_
        refine z_iconst (v := 1) hE d_Mo_pick_72 (by decide) ?_
        refine z_callV hE d_Mo_pick_73 cl_Mo_106 (c_Mo_fail l nx V2 1) (by assumption) cb_Mo rfl (Nat.le_of_ble_eq_true rfl) ⟨by decide, by decide⟩ ⟨by omega, by omega⟩ (fun r_9 g_9 nx_9 hp_9 => ?_) rfl
        try dsimp only [Option.toList, List.nil_append, List.cons_append]
        obtain ⟨rfl, rfl, V9, G9⟩ := hp_9
        try dsimp only [Option.toList, List.nil_append, List.cons_append]
        exact z_iret hE hQ d_Mo_pick_76 rfl (by omega) (by omega) (pM_of (S := sC S 1) hs V9 (EQS_c S2 rfl rfl) (gW_t W2 (g1_W G9 (by omega) (by omega))))
      rw [hy, show (some y).isSome = true from rfl, if_pos rfl]
      refine z_if_ne (tgt := 77) hE d_Mo_pick_68 (by decide) (fun _ => ?_) (fun c_ => absurd c_ (by decide))
      have ky := hO.2.2 (fx r) (by omega) k (by omega) y hy
      have ey : E' (16 + 10 * fx r + k) = some y := (S2.2 (fx r) (by omega) k (by omega)).trans hy
      have hpq : pq (S.2.2.1 (fx r)) x (u + 1) k q = if QW (addQ q y y.1) then (if 0 < cmpQ (addQ q y y.1) x then (nI k, 0) else pq (S.2.2.1 (fx r)) x u (k + 1) (addQ q y y.1)) else (0, 6) := by
        show (match S.2.2.1 (fx r) k with | none => _ | some q => _) = _
        rw [hy]
      rw [hpq] at hs
      refine z_aload_n hE d_Mo_pick_77 rfl ?_
      refine z_iload_n hE d_Mo_pick_78 rfl ?_
      refine z_iload_n hE d_Mo_pick_79 rfl ?_
      refine z_callV hE d_Mo_pick_80 cl_Mo_230 (c_Mo_addPlace l nx V2 (by omega : fx r < 4) (by omega) eq ey kq ky) (by assumption) cb_Mo rfl (Nat.le_of_ble_eq_true rfl) ⟨by decide, by decide⟩ ⟨by omega, by omega⟩ (fun r_3 g_3 nx_3 hp_3 => ?_) rfl
      try dsimp only [Option.toList, List.nil_append, List.cons_append]
      obtain ⟨rfl, W3, t3, ts3, H⟩ := hp_3
      have W3 := gW_t W2 W3
      obtain ⟨hw, rfl, V3⟩ | ⟨hw, rfl, V3⟩ := H
      case inr =>
        try dsimp only [Option.toList, List.nil_append, List.cons_append]
        rw [if_neg hw] at hs
        have m3 := V3.1
        refine z_if_ne (tgt := 93) hE d_Mo_pick_83 (by decide) (fun c_ => absurd c_ (by decide)) (fun _ => ?_)
        refine z_aload_n hE d_Mo_pick_86 rfl ?_
        refine z_bipush (v := 6) hE d_Mo_pick_87 (by decide) ?_
        refine z_callV hE d_Mo_pick_89 cl_Mo_106 (c_Mo_fail l nx V3 6) (by assumption) cb_Mo rfl (Nat.le_of_ble_eq_true rfl) ⟨by decide, by decide⟩ ⟨by omega, by omega⟩ (fun r_9 g_9 nx_9 hp_9 => ?_) rfl
        try dsimp only [Option.toList, List.nil_append, List.cons_append]
        obtain ⟨rfl, rfl, V9, G9⟩ := hp_9
        try dsimp only [Option.toList, List.nil_append, List.cons_append]
        exact z_iret hE hQ d_Mo_pick_92 rfl (by omega) (by omega) (pM_of (S := sC S 6) hs V9 (EQS_c S2 rfl rfl) (gW_t W3 (g1_W G9 (by omega) (by omega))))
      try dsimp only [Option.toList, List.nil_append, List.cons_append]
      rw [if_pos hw] at hs
      have m3 := V3.1
      have k3 : QK (addQ q y y.1) := ⟨addQ_ok kq.1 ky.1, hw⟩
      have S3 : EQS (upE E' 56 (some (addQ q y y.1))) S := EQS_o S2 (by omega)
      have ex3 : upE E' 56 (some (addQ q y y.1)) (fx a) = some x := (S3.1 (fx a) (by omega)).trans hx
      refine z_if_ne (tgt := 93) hE d_Mo_pick_83 (by decide) (fun _ => ?_) (fun c_ => absurd c_ (by decide))
      refine z_aload_n hE d_Mo_pick_93 rfl ?_
      refine z_bipush (v := nI 56) hE d_Mo_pick_94 (by decide) ?_
      refine z_iload_n hE d_Mo_pick_96 rfl ?_
      refine z_callV hE d_Mo_pick_97 cl_Mo_165 (c_Mo_orderOf l nx (a := 56) (b := fx a) V3 (by omega) (by omega) upE_s ex3 k3 kx) (by assumption) cb_Mo rfl (Nat.le_of_ble_eq_true rfl) ⟨by decide, by decide⟩ ⟨by omega, by omega⟩ (fun r_4 g_4 nx_4 hp_4 => ?_) rfl
      try dsimp only [Option.toList, List.nil_append, List.cons_append]
      obtain ⟨rfl, rfl, W4, t4, V4⟩ := hp_4
      try dsimp only [Option.toList, List.nil_append, List.cons_append]
      have W4 := gW_t W3 W4
      have m4 := V4.1
      by_cases hg : 0 < cmpQ (addQ q y y.1) x
      · rw [if_pos hg] at hs
        refine z_if_le (tgt := 109) hE d_Mo_pick_100 (by decide) (fun c_ => absurd c_ (fun z => i32_lt0.mpr hg z)) (fun _ => ?_)
        refine z_aload_n hE d_Mo_pick_103 rfl ?_
        refine z_iload_n hE d_Mo_pick_104 rfl ?_
        refine z_callV hE d_Mo_pick_105 cl_Mo_116 (c_Mo_done l nx V4 (nI k)) (by assumption) cb_Mo rfl (Nat.le_of_ble_eq_true rfl) ⟨by decide, by decide⟩ ⟨by omega, by omega⟩ (fun r_9 g_9 nx_9 hp_9 => ?_) rfl
        try dsimp only [Option.toList, List.nil_append, List.cons_append]
        obtain ⟨rfl, rfl, V9, G9⟩ := hp_9
        try dsimp only [Option.toList, List.nil_append, List.cons_append]
        exact z_iret hE hQ d_Mo_pick_108 rfl (by omega) (by omega) (pM_of (S := sC S 0) hs V9 (EQS_c S3 rfl rfl) (gW_t W4 (g1_W G9 (by omega) (by omega))))
      · rw [if_neg hg] at hs
        refine z_if_le (tgt := 109) hE d_Mo_pick_100 (by decide) (fun _ => ?_) (fun c_ => absurd c_ (fun z => hg (i32_lt0.mp z)))
        refine z_iinc (v := nI (k + 1)) hE d_Mo_pick_109 rfl (nI_1 k) (by decide) ?_
        refine z_goto (tgt := 48) hE d_Mo_pick_112 (by decide) ?_
        exact ih (k + 1) _ _ _ _ _ (by omega) V4 S3 W4 hs k3 upE_s _ rfl rfl rfl rfl
  refine z_iconst (v := nI 0) hE d_Mo_pick_46 (by decide) ?_
  refine z_istore_n hE d_Mo_pick_47 rfl (by decide) ?_
  exact loop p 0 _ _ _ _ (0, 0, 1) (by omega) V1 (EQS_o hEQ (by omega)) W1 hspec QK_0 upE_s _ rfl (by rw [← er]; rfl) (by rw [← ea]; rfl) rfl

