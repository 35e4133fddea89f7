/-! the law: its calls -/
theorem lw_case9 (l : Launch) {E : zE} (hE : zOk E l m_Lw_law 600000 7302250) {b L : Nat} {xs : Nat → Int32} (hX : zX E b L xs) (hL : L ≤ 3072) {O k nx c s : Nat} {g : Gh} {S : Sx} (hC : CW g O nx S) (hM : MW g (O + 48) S) (hk : 6 * k + 6 ≤ L) (hc : c ≤ 100000) (hs : s ≤ 1000000) (next : ∀ (g2 : Gh) (n2 c2 s2 : Nat) (S2 : Sx), CW g2 O n2 S2 → MW g2 (O + 48) S2 → c2 ≤ c + 5 → s2 ≤ s + 47 → ∀ lv, lG lv 0 = some (.ref b) → lG lv 1 = some (.ref O) → lG lv 2 = some (.ref (O + 48)) → lG lv 3 = some (.int (nI (6 * k))) → zJ E g2 n2 c2 s2 1167 lv []) : zJ E g nx c s 535 [(0, .ref b), (1, .ref O), (2, .ref (O + 48)), (3, .int (nI (6 * k)))] [] := by
  have hn := CW_n hC
  have hS := CW_S hC
  obtain ⟨sg0, v0, w0, hV0⟩ := id hC
  have m0 := hV0.1
  refine z_aload_n hE d_Lw_law_535 rfl ?_
  refine z_aload_n hE d_Lw_law_536 rfl ?_
  refine z_iload_n hE d_Lw_law_537 rfl ?_
  refine z_iconst (v := nI 1) hE d_Lw_law_538 (by decide) ?_
  refine z_iadd (v := nI (6 * k + 1)) hE d_Lw_law_539 (nI_add _ _) ?_
  refine z_sld hE d_Lw_law_540 hX (nI_in' (by omega : 6 * k + 1 < L) (by omega)) ?_
  rw [nI_cl (by omega)]
  refine z_callV hE d_Lw_law_541 cl_Lw_57 (c_Od_sign l hC (xs (6 * k + 1))) (by assumption) cb_Od rfl (Nat.le_of_ble_eq_true rfl) ⟨by decide, by decide⟩ ⟨by omega, by omega⟩ (fun r_1 g_1 nx_1 hp_1 => ?_) rfl
  try dsimp only [Option.toList, List.nil_append, List.cons_append]
  obtain ⟨e1, hn1, C1, X1⟩ := hp_1
  obtain ⟨z, hz⟩ : ∃ z, (spSign S (xs (6 * k + 1))).1 = .int z := by
    unfold spSign
    repeat' (first | exact ⟨_, rfl⟩ | exact mkS_int _ _ _ | split)
  rw [hz] at e1
  subst e1
  try dsimp only [Option.toList, List.nil_append, List.cons_append]
  have M1 : MW g_1 (O + 48) S := MW_X hM (fun q a b => X1 q (by omega) (by omega))
  obtain ⟨E1, t1, ts1, V1, -⟩ := id M1
  have m1 := V1.1
  refine z_aload_n hE d_Lw_law_544 rfl ?_
  refine z_aload_n hE d_Lw_law_545 rfl ?_
  refine z_iload_n hE d_Lw_law_546 rfl ?_
  refine z_iconst (v := nI 1) hE d_Lw_law_547 (by decide) ?_
  refine z_iadd (v := nI (6 * k + 1)) hE d_Lw_law_548 (nI_add _ _) ?_
  refine z_sld hE d_Lw_law_549 hX (nI_in' (by omega : 6 * k + 1 < L) (by omega)) ?_
  rw [nI_cl (by omega)]
  refine z_callV hE d_Lw_law_550 cl_Lw_60 (c_Mo_sign l nx_1 M1 hS (xs (6 * k + 1))) (by assumption) cb_Mo rfl (Nat.le_of_ble_eq_true rfl) ⟨by decide, by decide⟩ ⟨by omega, by omega⟩ (fun r_2 g_2 nx_2 hp_2 => ?_) rfl
  try dsimp only [Option.toList, List.nil_append, List.cons_append]
  obtain ⟨e2, rfl, M2, W2⟩ := hp_2
  rw [hz] at e2
  subst e2
  try dsimp only [Option.toList, List.nil_append, List.cons_append]
  refine z_icmp_eq (tgt := 1167) hE d_Lw_law_553 (by decide) (fun _ => ?_) (fun c_ => absurd c_ (fun w => w rfl))
  exact next _ _ _ _ _ (CW_W C1 W2) M2 (by omega) (by omega) _ rfl rfl rfl rfl
theorem lw_case10 (l : Launch) {E : zE} (hE : zOk E l m_Lw_law 600000 7302250) {b L : Nat} {xs : Nat → Int32} (hX : zX E b L xs) (hL : L ≤ 3072) {O k nx c s : Nat} {g : Gh} {S : Sx} (hC : CW g O nx S) (hM : MW g (O + 48) S) (hk : 6 * k + 6 ≤ L) (hc : c ≤ 100000) (hs : s ≤ 1000000) (next : ∀ (g2 : Gh) (n2 c2 s2 : Nat) (S2 : Sx), CW g2 O n2 S2 → MW g2 (O + 48) S2 → c2 ≤ c + 5 → s2 ≤ s + 47 → ∀ lv, lG lv 0 = some (.ref b) → lG lv 1 = some (.ref O) → lG lv 2 = some (.ref (O + 48)) → lG lv 3 = some (.int (nI (6 * k))) → zJ E g2 n2 c2 s2 1167 lv []) : zJ E g nx c s 558 [(0, .ref b), (1, .ref O), (2, .ref (O + 48)), (3, .int (nI (6 * k)))] [] := by
  have hn := CW_n hC
  have hS := CW_S hC
  obtain ⟨sg0, v0, w0, hV0⟩ := id hC
  have m0 := hV0.1
  refine z_aload_n hE d_Lw_law_558 rfl ?_
  refine z_aload_n hE d_Lw_law_559 rfl ?_
  refine z_iload_n hE d_Lw_law_560 rfl ?_
  refine z_iconst (v := nI 1) hE d_Lw_law_561 (by decide) ?_
  refine z_iadd (v := nI (6 * k + 1)) hE d_Lw_law_562 (nI_add _ _) ?_
  refine z_sld hE d_Lw_law_563 hX (nI_in' (by omega : 6 * k + 1 < L) (by omega)) ?_
  rw [nI_cl (by omega)]
  refine z_callV hE d_Lw_law_564 cl_Lw_61 (c_Od_small l hC (xs (6 * k + 1))) (by assumption) cb_Od rfl (Nat.le_of_ble_eq_true rfl) ⟨by decide, by decide⟩ ⟨by omega, by omega⟩ (fun r_1 g_1 nx_1 hp_1 => ?_) rfl
  try dsimp only [Option.toList, List.nil_append, List.cons_append]
  obtain ⟨e1, hn1, C1, X1⟩ := hp_1
  obtain ⟨z, hz⟩ : ∃ z, (spSmall S (xs (6 * k + 1))).1 = .int z := by
    unfold spSmall
    repeat' (first | exact ⟨_, rfl⟩ | exact mkS_int _ _ _ | split)
  rw [hz] at e1
  subst e1
  try dsimp only [Option.toList, List.nil_append, List.cons_append]
  have M1 : MW g_1 (O + 48) S := MW_X hM (fun q a b => X1 q (by omega) (by omega))
  obtain ⟨E1, t1, ts1, V1, -⟩ := id M1
  have m1 := V1.1
  refine z_aload_n hE d_Lw_law_567 rfl ?_
  refine z_aload_n hE d_Lw_law_568 rfl ?_
  refine z_iload_n hE d_Lw_law_569 rfl ?_
  refine z_iconst (v := nI 1) hE d_Lw_law_570 (by decide) ?_
  refine z_iadd (v := nI (6 * k + 1)) hE d_Lw_law_571 (nI_add _ _) ?_
  refine z_sld hE d_Lw_law_572 hX (nI_in' (by omega : 6 * k + 1 < L) (by omega)) ?_
  rw [nI_cl (by omega)]
  refine z_callV hE d_Lw_law_573 cl_Lw_64 (c_Mo_small l nx_1 M1 hS (xs (6 * k + 1))) (by assumption) cb_Mo rfl (Nat.le_of_ble_eq_true rfl) ⟨by decide, by decide⟩ ⟨by omega, by omega⟩ (fun r_2 g_2 nx_2 hp_2 => ?_) rfl
  try dsimp only [Option.toList, List.nil_append, List.cons_append]
  obtain ⟨e2, rfl, M2, W2⟩ := hp_2
  rw [hz] at e2
  subst e2
  try dsimp only [Option.toList, List.nil_append, List.cons_append]
  refine z_icmp_eq (tgt := 1167) hE d_Lw_law_576 (by decide) (fun _ => ?_) (fun c_ => absurd c_ (fun w => w rfl))
  exact next _ _ _ _ _ (CW_W C1 W2) M2 (by omega) (by omega) _ rfl rfl rfl rfl
theorem lw_case11 (l : Launch) {E : zE} (hE : zOk E l m_Lw_law 600000 7302250) {b L : Nat} {xs : Nat → Int32} (hX : zX E b L xs) (hL : L ≤ 3072) {O k nx c s : Nat} {g : Gh} {S : Sx} (hC : CW g O nx S) (hM : MW g (O + 48) S) (hk : 6 * k + 6 ≤ L) (hc : c ≤ 100000) (hs : s ≤ 1000000) (next : ∀ (g2 : Gh) (n2 c2 s2 : Nat) (S2 : Sx), CW g2 O n2 S2 → MW g2 (O + 48) S2 → c2 ≤ c + 5 → s2 ≤ s + 47 → ∀ lv, lG lv 0 = some (.ref b) → lG lv 1 = some (.ref O) → lG lv 2 = some (.ref (O + 48)) → lG lv 3 = some (.int (nI (6 * k))) → zJ E g2 n2 c2 s2 1167 lv []) : zJ E g nx c s 581 [(0, .ref b), (1, .ref O), (2, .ref (O + 48)), (3, .int (nI (6 * k)))] [] := by
  have hn := CW_n hC
  have hS := CW_S hC
  obtain ⟨sg0, v0, w0, hV0⟩ := id hC
  have m0 := hV0.1
  refine z_aload_n hE d_Lw_law_581 rfl ?_
  refine z_aload_n hE d_Lw_law_582 rfl ?_
  refine z_iload_n hE d_Lw_law_583 rfl ?_
  refine z_iconst (v := nI 1) hE d_Lw_law_584 (by decide) ?_
  refine z_iadd (v := nI (6 * k + 1)) hE d_Lw_law_585 (nI_add _ _) ?_
  refine z_sld hE d_Lw_law_586 hX (nI_in' (by omega : 6 * k + 1 < L) (by omega)) ?_
  rw [nI_cl (by omega)]
  refine z_aload_n hE d_Lw_law_587 rfl ?_
  refine z_iload_n hE d_Lw_law_588 rfl ?_
  refine z_iconst (v := nI 2) hE d_Lw_law_589 (by decide) ?_
  refine z_iadd (v := nI (6 * k + 2)) hE d_Lw_law_590 (nI_add _ _) ?_
  refine z_sld hE d_Lw_law_591 hX (nI_in' (by omega : 6 * k + 2 < L) (by omega)) ?_
  rw [nI_cl (by omega)]
  refine z_callV hE d_Lw_law_592 cl_Lw_65 (c_Od_limbs l hC (xs (6 * k + 1)) (xs (6 * k + 2))) (by assumption) cb_Od rfl (Nat.le_of_ble_eq_true rfl) ⟨by decide, by decide⟩ ⟨by omega, by omega⟩ (fun r_1 g_1 nx_1 hp_1 => ?_) rfl
  try dsimp only [Option.toList, List.nil_append, List.cons_append]
  obtain ⟨e1, hn1, C1, X1⟩ := hp_1
  obtain ⟨z, hz⟩ : ∃ z, (spLimbs S (xs (6 * k + 1)) (xs (6 * k + 2))).1 = .int z := by
    unfold spLimbs
    repeat' (first | exact ⟨_, rfl⟩ | exact mkS_int _ _ _ | split)
  rw [hz] at e1
  subst e1
  try dsimp only [Option.toList, List.nil_append, List.cons_append]
  have M1 : MW g_1 (O + 48) S := MW_X hM (fun q a b => X1 q (by omega) (by omega))
  obtain ⟨E1, t1, ts1, V1, -⟩ := id M1
  have m1 := V1.1
  refine z_aload_n hE d_Lw_law_595 rfl ?_
  refine z_aload_n hE d_Lw_law_596 rfl ?_
  refine z_iload_n hE d_Lw_law_597 rfl ?_
  refine z_iconst (v := nI 1) hE d_Lw_law_598 (by decide) ?_
  refine z_iadd (v := nI (6 * k + 1)) hE d_Lw_law_599 (nI_add _ _) ?_
  refine z_sld hE d_Lw_law_600 hX (nI_in' (by omega : 6 * k + 1 < L) (by omega)) ?_
  rw [nI_cl (by omega)]
  refine z_aload_n hE d_Lw_law_601 rfl ?_
  refine z_iload_n hE d_Lw_law_602 rfl ?_
  refine z_iconst (v := nI 2) hE d_Lw_law_603 (by decide) ?_
  refine z_iadd (v := nI (6 * k + 2)) hE d_Lw_law_604 (nI_add _ _) ?_
  refine z_sld hE d_Lw_law_605 hX (nI_in' (by omega : 6 * k + 2 < L) (by omega)) ?_
  rw [nI_cl (by omega)]
  refine z_callV hE d_Lw_law_606 cl_Lw_68 (c_Mo_limbs l nx_1 M1 hS (xs (6 * k + 1)) (xs (6 * k + 2))) (by assumption) cb_Mo rfl (Nat.le_of_ble_eq_true rfl) ⟨by decide, by decide⟩ ⟨by omega, by omega⟩ (fun r_2 g_2 nx_2 hp_2 => ?_) rfl
  try dsimp only [Option.toList, List.nil_append, List.cons_append]
  obtain ⟨e2, rfl, M2, W2⟩ := hp_2
  rw [hz] at e2
  subst e2
  try dsimp only [Option.toList, List.nil_append, List.cons_append]
  refine z_icmp_eq (tgt := 1167) hE d_Lw_law_609 (by decide) (fun _ => ?_) (fun c_ => absurd c_ (fun w => w rfl))
  exact next _ _ _ _ _ (CW_W C1 W2) M2 (by omega) (by omega) _ rfl rfl rfl rfl
theorem lw_case12 (l : Launch) {E : zE} (hE : zOk E l m_Lw_law 600000 7302250) {b L : Nat} {xs : Nat → Int32} (hX : zX E b L xs) (hL : L ≤ 3072) {O k nx c s : Nat} {g : Gh} {S : Sx} (hC : CW g O nx S) (hM : MW g (O + 48) S) (hk : 6 * k + 6 ≤ L) (hc : c ≤ 100000) (hs : s ≤ 1000000) (next : ∀ (g2 : Gh) (n2 c2 s2 : Nat) (S2 : Sx), CW g2 O n2 S2 → MW g2 (O + 48) S2 → c2 ≤ c + 5 → s2 ≤ s + 47 → ∀ lv, lG lv 0 = some (.ref b) → lG lv 1 = some (.ref O) → lG lv 2 = some (.ref (O + 48)) → lG lv 3 = some (.int (nI (6 * k))) → zJ E g2 n2 c2 s2 1167 lv []) : zJ E g nx c s 614 [(0, .ref b), (1, .ref O), (2, .ref (O + 48)), (3, .int (nI (6 * k)))] [] := by
  have hn := CW_n hC
  have hS := CW_S hC
  obtain ⟨sg0, v0, w0, hV0⟩ := id hC
  have m0 := hV0.1
  refine z_aload_n hE d_Lw_law_614 rfl ?_
  refine z_aload_n hE d_Lw_law_615 rfl ?_
  refine z_iload_n hE d_Lw_law_616 rfl ?_
  refine z_iconst (v := nI 1) hE d_Lw_law_617 (by decide) ?_
  refine z_iadd (v := nI (6 * k + 1)) hE d_Lw_law_618 (nI_add _ _) ?_
  refine z_sld hE d_Lw_law_619 hX (nI_in' (by omega : 6 * k + 1 < L) (by omega)) ?_
  rw [nI_cl (by omega)]
  refine z_aload_n hE d_Lw_law_620 rfl ?_
  refine z_iload_n hE d_Lw_law_621 rfl ?_
  refine z_iconst (v := nI 2) hE d_Lw_law_622 (by decide) ?_
  refine z_iadd (v := nI (6 * k + 2)) hE d_Lw_law_623 (nI_add _ _) ?_
  refine z_sld hE d_Lw_law_624 hX (nI_in' (by omega : 6 * k + 2 < L) (by omega)) ?_
  rw [nI_cl (by omega)]
  refine z_aload_n hE d_Lw_law_625 rfl ?_
  refine z_iload_n hE d_Lw_law_626 rfl ?_
  refine z_iconst (v := nI 3) hE d_Lw_law_627 (by decide) ?_
  refine z_iadd (v := nI (6 * k + 3)) hE d_Lw_law_628 (nI_add _ _) ?_
  refine z_sld hE d_Lw_law_629 hX (nI_in' (by omega : 6 * k + 3 < L) (by omega)) ?_
  rw [nI_cl (by omega)]
  refine z_callV hE d_Lw_law_630 cl_Lw_69 (c_Od_limb l hC (xs (6 * k + 1)) (xs (6 * k + 2)) (xs (6 * k + 3))) (by assumption) cb_Od rfl (Nat.le_of_ble_eq_true rfl) ⟨by decide, by decide⟩ ⟨by omega, by omega⟩ (fun r_1 g_1 nx_1 hp_1 => ?_) rfl
  try dsimp only [Option.toList, List.nil_append, List.cons_append]
  obtain ⟨e1, hn1, C1, X1⟩ := hp_1
  obtain ⟨z, hz⟩ : ∃ z, (spLimb S (xs (6 * k + 1)) (xs (6 * k + 2)) (xs (6 * k + 3))).1 = .long z := by
    unfold spLimb
    repeat' (first | exact ⟨_, rfl⟩ | exact mkS_int _ _ _ | split)
  rw [hz] at e1
  subst e1
  try dsimp only [Option.toList, List.nil_append, List.cons_append]
  have M1 : MW g_1 (O + 48) S := MW_X hM (fun q a b => X1 q (by omega) (by omega))
  obtain ⟨E1, t1, ts1, V1, -⟩ := id M1
  have m1 := V1.1
  refine z_aload_n hE d_Lw_law_633 rfl ?_
  refine z_aload_n hE d_Lw_law_634 rfl ?_
  refine z_iload_n hE d_Lw_law_635 rfl ?_
  refine z_iconst (v := nI 1) hE d_Lw_law_636 (by decide) ?_
  refine z_iadd (v := nI (6 * k + 1)) hE d_Lw_law_637 (nI_add _ _) ?_
  refine z_sld hE d_Lw_law_638 hX (nI_in' (by omega : 6 * k + 1 < L) (by omega)) ?_
  rw [nI_cl (by omega)]
  refine z_aload_n hE d_Lw_law_639 rfl ?_
  refine z_iload_n hE d_Lw_law_640 rfl ?_
  refine z_iconst (v := nI 2) hE d_Lw_law_641 (by decide) ?_
  refine z_iadd (v := nI (6 * k + 2)) hE d_Lw_law_642 (nI_add _ _) ?_
  refine z_sld hE d_Lw_law_643 hX (nI_in' (by omega : 6 * k + 2 < L) (by omega)) ?_
  rw [nI_cl (by omega)]
  refine z_aload_n hE d_Lw_law_644 rfl ?_
  refine z_iload_n hE d_Lw_law_645 rfl ?_
  refine z_iconst (v := nI 3) hE d_Lw_law_646 (by decide) ?_
  refine z_iadd (v := nI (6 * k + 3)) hE d_Lw_law_647 (nI_add _ _) ?_
  refine z_sld hE d_Lw_law_648 hX (nI_in' (by omega : 6 * k + 3 < L) (by omega)) ?_
  rw [nI_cl (by omega)]
  refine z_callV hE d_Lw_law_649 cl_Lw_73 (c_Mo_limb l nx_1 M1 hS (xs (6 * k + 1)) (xs (6 * k + 2)) (xs (6 * k + 3))) (by assumption) cb_Mo rfl (Nat.le_of_ble_eq_true rfl) ⟨by decide, by decide⟩ ⟨by omega, by omega⟩ (fun r_2 g_2 nx_2 hp_2 => ?_) rfl
  try dsimp only [Option.toList, List.nil_append, List.cons_append]
  obtain ⟨e2, rfl, M2, W2⟩ := hp_2
  rw [hz] at e2
  subst e2
  try dsimp only [Option.toList, List.nil_append, List.cons_append]
  refine z_lcmp hE d_Lw_law_652 ?_
  refine z_if_eq (tgt := 1167) hE d_Lw_law_653 (by decide) (fun _ => ?_) (fun c_ => absurd c_ (fun w => w (by rw [lg_cmp_eq])))
  exact next _ _ _ _ _ (CW_W C1 W2) M2 (by omega) (by omega) _ rfl rfl rfl rfl
theorem lw_case13 (l : Launch) {E : zE} (hE : zOk E l m_Lw_law 600000 7302250) {b L : Nat} {xs : Nat → Int32} (hX : zX E b L xs) (hL : L ≤ 3072) {O k nx c s : Nat} {g : Gh} {S : Sx} (hC : CW g O nx S) (hM : MW g (O + 48) S) (hk : 6 * k + 6 ≤ L) (hc : c ≤ 100000) (hs : s ≤ 1000000) (next : ∀ (g2 : Gh) (n2 c2 s2 : Nat) (S2 : Sx), CW g2 O n2 S2 → MW g2 (O + 48) S2 → c2 ≤ c + 5 → s2 ≤ s + 47 → ∀ lv, lG lv 0 = some (.ref b) → lG lv 1 = some (.ref O) → lG lv 2 = some (.ref (O + 48)) → lG lv 3 = some (.int (nI (6 * k))) → zJ E g2 n2 c2 s2 1167 lv []) : zJ E g nx c s 658 [(0, .ref b), (1, .ref O), (2, .ref (O + 48)), (3, .int (nI (6 * k)))] [] := by
  have hn := CW_n hC
  have hS := CW_S hC
  obtain ⟨sg0, v0, w0, hV0⟩ := id hC
  have m0 := hV0.1
  refine z_aload_n hE d_Lw_law_658 rfl ?_
  refine z_aload_n hE d_Lw_law_659 rfl ?_
  refine z_iload_n hE d_Lw_law_660 rfl ?_
  refine z_iconst (v := nI 1) hE d_Lw_law_661 (by decide) ?_
  refine z_iadd (v := nI (6 * k + 1)) hE d_Lw_law_662 (nI_add _ _) ?_
  refine z_sld hE d_Lw_law_663 hX (nI_in' (by omega : 6 * k + 1 < L) (by omega)) ?_
  rw [nI_cl (by omega)]
  refine z_aload_n hE d_Lw_law_664 rfl ?_
  refine z_iload_n hE d_Lw_law_665 rfl ?_
  refine z_iconst (v := nI 2) hE d_Lw_law_666 (by decide) ?_
  refine z_iadd (v := nI (6 * k + 2)) hE d_Lw_law_667 (nI_add _ _) ?_
  refine z_sld hE d_Lw_law_668 hX (nI_in' (by omega : 6 * k + 2 < L) (by omega)) ?_
  rw [nI_cl (by omega)]
  refine z_aload_n hE d_Lw_law_669 rfl ?_
  refine z_iload_n hE d_Lw_law_670 rfl ?_
  refine z_iconst (v := nI 3) hE d_Lw_law_671 (by decide) ?_
  refine z_iadd (v := nI (6 * k + 3)) hE d_Lw_law_672 (nI_add _ _) ?_
  refine z_sld hE d_Lw_law_673 hX (nI_in' (by omega : 6 * k + 3 < L) (by omega)) ?_
  rw [nI_cl (by omega)]
  refine z_callV hE d_Lw_law_674 cl_Lw_74 (c_Od_round l hC (xs (6 * k + 1)) (xs (6 * k + 2)) (xs (6 * k + 3))) (by assumption) cb_Od rfl (Nat.le_of_ble_eq_true rfl) ⟨by decide, by decide⟩ ⟨by omega, by omega⟩ (fun r_1 g_1 nx_1 hp_1 => ?_) rfl
  try dsimp only [Option.toList, List.nil_append, List.cons_append]
  obtain ⟨e1, hn1, C1, X1⟩ := hp_1
  obtain ⟨z, hz⟩ : ∃ z, (spRound S (xs (6 * k + 1)) (xs (6 * k + 2)) (xs (6 * k + 3))).1 = .long z := by
    unfold spRound
    repeat' (first | exact ⟨_, rfl⟩ | exact mkS_int _ _ _ | split)
  rw [hz] at e1
  subst e1
  try dsimp only [Option.toList, List.nil_append, List.cons_append]
  have M1 : MW g_1 (O + 48) S := MW_X hM (fun q a b => X1 q (by omega) (by omega))
  obtain ⟨E1, t1, ts1, V1, -⟩ := id M1
  have m1 := V1.1
  refine z_aload_n hE d_Lw_law_677 rfl ?_
  refine z_aload_n hE d_Lw_law_678 rfl ?_
  refine z_iload_n hE d_Lw_law_679 rfl ?_
  refine z_iconst (v := nI 1) hE d_Lw_law_680 (by decide) ?_
  refine z_iadd (v := nI (6 * k + 1)) hE d_Lw_law_681 (nI_add _ _) ?_
  refine z_sld hE d_Lw_law_682 hX (nI_in' (by omega : 6 * k + 1 < L) (by omega)) ?_
  rw [nI_cl (by omega)]
  refine z_aload_n hE d_Lw_law_683 rfl ?_
  refine z_iload_n hE d_Lw_law_684 rfl ?_
  refine z_iconst (v := nI 2) hE d_Lw_law_685 (by decide) ?_
  refine z_iadd (v := nI (6 * k + 2)) hE d_Lw_law_686 (nI_add _ _) ?_
  refine z_sld hE d_Lw_law_687 hX (nI_in' (by omega : 6 * k + 2 < L) (by omega)) ?_
  rw [nI_cl (by omega)]
  refine z_aload_n hE d_Lw_law_688 rfl ?_
  refine z_iload_n hE d_Lw_law_689 rfl ?_
  refine z_iconst (v := nI 3) hE d_Lw_law_690 (by decide) ?_
  refine z_iadd (v := nI (6 * k + 3)) hE d_Lw_law_691 (nI_add _ _) ?_
  refine z_sld hE d_Lw_law_692 hX (nI_in' (by omega : 6 * k + 3 < L) (by omega)) ?_
  rw [nI_cl (by omega)]
  refine z_callV hE d_Lw_law_693 cl_Lw_77 (c_Mo_round l nx_1 M1 hS (xs (6 * k + 1)) (xs (6 * k + 2)) (xs (6 * k + 3))) (by assumption) cb_Mo rfl (Nat.le_of_ble_eq_true rfl) ⟨by decide, by decide⟩ ⟨by omega, by omega⟩ (fun r_2 g_2 nx_2 hp_2 => ?_) rfl
  try dsimp only [Option.toList, List.nil_append, List.cons_append]
  obtain ⟨e2, rfl, M2, W2⟩ := hp_2
  rw [hz] at e2
  subst e2
  try dsimp only [Option.toList, List.nil_append, List.cons_append]
  refine z_lcmp hE d_Lw_law_696 ?_
  refine z_if_eq (tgt := 1167) hE d_Lw_law_697 (by decide) (fun _ => ?_) (fun c_ => absurd c_ (fun w => w (by rw [lg_cmp_eq])))
  exact next _ _ _ _ _ (CW_W C1 W2) M2 (by omega) (by omega) _ rfl rfl rfl rfl
theorem lw_case14 (l : Launch) {E : zE} (hE : zOk E l m_Lw_law 600000 7302250) {b L : Nat} {xs : Nat → Int32} (hX : zX E b L xs) (hL : L ≤ 3072) {O k nx c s : Nat} {g : Gh} {S : Sx} (hC : CW g O nx S) (hM : MW g (O + 48) S) (hk : 6 * k + 6 ≤ L) (hc : c ≤ 100000) (hs : s ≤ 1000000) (next : ∀ (g2 : Gh) (n2 c2 s2 : Nat) (S2 : Sx), CW g2 O n2 S2 → MW g2 (O + 48) S2 → c2 ≤ c + 5 → s2 ≤ s + 47 → ∀ lv, lG lv 0 = some (.ref b) → lG lv 1 = some (.ref O) → lG lv 2 = some (.ref (O + 48)) → lG lv 3 = some (.int (nI (6 * k))) → zJ E g2 n2 c2 s2 1167 lv []) : zJ E g nx c s 702 [(0, .ref b), (1, .ref O), (2, .ref (O + 48)), (3, .int (nI (6 * k)))] [] := by
  have hn := CW_n hC
  have hS := CW_S hC
  obtain ⟨sg0, v0, w0, hV0⟩ := id hC
  have m0 := hV0.1
  refine z_aload_n hE d_Lw_law_702 rfl ?_
  refine z_aload_n hE d_Lw_law_703 rfl ?_
  refine z_iload_n hE d_Lw_law_704 rfl ?_
  refine z_iconst (v := nI 1) hE d_Lw_law_705 (by decide) ?_
  refine z_iadd (v := nI (6 * k + 1)) hE d_Lw_law_706 (nI_add _ _) ?_
  refine z_sld hE d_Lw_law_707 hX (nI_in' (by omega : 6 * k + 1 < L) (by omega)) ?_
  rw [nI_cl (by omega)]
  refine z_aload_n hE d_Lw_law_708 rfl ?_
  refine z_iload_n hE d_Lw_law_709 rfl ?_
  refine z_iconst (v := nI 2) hE d_Lw_law_710 (by decide) ?_
  refine z_iadd (v := nI (6 * k + 2)) hE d_Lw_law_711 (nI_add _ _) ?_
  refine z_sld hE d_Lw_law_712 hX (nI_in' (by omega : 6 * k + 2 < L) (by omega)) ?_
  rw [nI_cl (by omega)]
  refine z_callV hE d_Lw_law_713 cl_Lw_78 (c_Od_real l hC (xs (6 * k + 1)) (xs (6 * k + 2))) (by assumption) cb_Od rfl (Nat.le_of_ble_eq_true rfl) ⟨by decide, by decide⟩ ⟨by omega, by omega⟩ (fun r_1 g_1 nx_1 hp_1 => ?_) rfl
  try dsimp only [Option.toList, List.nil_append, List.cons_append]
  obtain ⟨e1, hn1, C1, X1⟩ := hp_1
  obtain ⟨z, hz⟩ : ∃ z, (spReal S (xs (6 * k + 1)) (xs (6 * k + 2))).1 = .long z := by
    unfold spReal
    repeat' (first | exact ⟨_, rfl⟩ | exact mkS_int _ _ _ | split)
  rw [hz] at e1
  subst e1
  try dsimp only [Option.toList, List.nil_append, List.cons_append]
  have M1 : MW g_1 (O + 48) S := MW_X hM (fun q a b => X1 q (by omega) (by omega))
  obtain ⟨E1, t1, ts1, V1, -⟩ := id M1
  have m1 := V1.1
  refine z_aload_n hE d_Lw_law_716 rfl ?_
  refine z_aload_n hE d_Lw_law_717 rfl ?_
  refine z_iload_n hE d_Lw_law_718 rfl ?_
  refine z_iconst (v := nI 1) hE d_Lw_law_719 (by decide) ?_
  refine z_iadd (v := nI (6 * k + 1)) hE d_Lw_law_720 (nI_add _ _) ?_
  refine z_sld hE d_Lw_law_721 hX (nI_in' (by omega : 6 * k + 1 < L) (by omega)) ?_
  rw [nI_cl (by omega)]
  refine z_aload_n hE d_Lw_law_722 rfl ?_
  refine z_iload_n hE d_Lw_law_723 rfl ?_
  refine z_iconst (v := nI 2) hE d_Lw_law_724 (by decide) ?_
  refine z_iadd (v := nI (6 * k + 2)) hE d_Lw_law_725 (nI_add _ _) ?_
  refine z_sld hE d_Lw_law_726 hX (nI_in' (by omega : 6 * k + 2 < L) (by omega)) ?_
  rw [nI_cl (by omega)]
  refine z_callV hE d_Lw_law_727 cl_Lw_82 (c_Mo_real l nx_1 M1 hS (xs (6 * k + 1)) (xs (6 * k + 2))) (by assumption) cb_Mo rfl (Nat.le_of_ble_eq_true rfl) ⟨by decide, by decide⟩ ⟨by omega, by omega⟩ (fun r_2 g_2 nx_2 hp_2 => ?_) rfl
  try dsimp only [Option.toList, List.nil_append, List.cons_append]
  obtain ⟨e2, rfl, M2, W2⟩ := hp_2
  rw [hz] at e2
  subst e2
  try dsimp only [Option.toList, List.nil_append, List.cons_append]
  refine z_lcmp hE d_Lw_law_730 ?_
  refine z_if_eq (tgt := 1167) hE d_Lw_law_731 (by decide) (fun _ => ?_) (fun c_ => absurd c_ (fun w => w (by rw [lg_cmp_eq])))
  exact next _ _ _ _ _ (CW_W C1 W2) M2 (by omega) (by omega) _ rfl rfl rfl rfl
theorem lw_case15 (l : Launch) {E : zE} (hE : zOk E l m_Lw_law 600000 7302250) {b L : Nat} {xs : Nat → Int32} (hX : zX E b L xs) (hL : L ≤ 3072) {O k nx c s : Nat} {g : Gh} {S : Sx} (hC : CW g O nx S) (hM : MW g (O + 48) S) (hk : 6 * k + 6 ≤ L) (hc : c ≤ 100000) (hs : s ≤ 1000000) (next : ∀ (g2 : Gh) (n2 c2 s2 : Nat) (S2 : Sx), CW g2 O n2 S2 → MW g2 (O + 48) S2 → c2 ≤ c + 5 → s2 ≤ s + 47 → ∀ lv, lG lv 0 = some (.ref b) → lG lv 1 = some (.ref O) → lG lv 2 = some (.ref (O + 48)) → lG lv 3 = some (.int (nI (6 * k))) → zJ E g2 n2 c2 s2 1167 lv []) : zJ E g nx c s 736 [(0, .ref b), (1, .ref O), (2, .ref (O + 48)), (3, .int (nI (6 * k)))] [] := by
  have hn := CW_n hC
  have hS := CW_S hC
  obtain ⟨sg0, v0, w0, hV0⟩ := id hC
  have m0 := hV0.1
  refine z_aload_n hE d_Lw_law_736 rfl ?_
  refine z_aload_n hE d_Lw_law_737 rfl ?_
  refine z_iload_n hE d_Lw_law_738 rfl ?_
  refine z_iconst (v := nI 1) hE d_Lw_law_739 (by decide) ?_
  refine z_iadd (v := nI (6 * k + 1)) hE d_Lw_law_740 (nI_add _ _) ?_
  refine z_sld hE d_Lw_law_741 hX (nI_in' (by omega : 6 * k + 1 < L) (by omega)) ?_
  rw [nI_cl (by omega)]
  refine z_aload_n hE d_Lw_law_742 rfl ?_
  refine z_iload_n hE d_Lw_law_743 rfl ?_
  refine z_iconst (v := nI 2) hE d_Lw_law_744 (by decide) ?_
  refine z_iadd (v := nI (6 * k + 2)) hE d_Lw_law_745 (nI_add _ _) ?_
  refine z_sld hE d_Lw_law_746 hX (nI_in' (by omega : 6 * k + 2 < L) (by omega)) ?_
  rw [nI_cl (by omega)]
  refine z_i2l hE d_Lw_law_747 (rfl) ?_
  refine z_bipush (v := nI 32) hE d_Lw_law_748 (by decide) ?_
  refine z_lshl hE d_Lw_law_750 (rfl) ?_
  refine z_aload_n hE d_Lw_law_751 rfl ?_
  refine z_iload_n hE d_Lw_law_752 rfl ?_
  refine z_iconst (v := nI 3) hE d_Lw_law_753 (by decide) ?_
  refine z_iadd (v := nI (6 * k + 3)) hE d_Lw_law_754 (nI_add _ _) ?_
  refine z_sld hE d_Lw_law_755 hX (nI_in' (by omega : 6 * k + 3 < L) (by omega)) ?_
  rw [nI_cl (by omega)]
  refine z_i2l hE d_Lw_law_756 (rfl) ?_
  refine z_ldc2 hE d_Lw_law_757 cn_Lw_18 ?_
  refine z_land hE d_Lw_law_760 (rfl) ?_
  refine z_lor hE d_Lw_law_761 (rfl) ?_
  refine z_callV hE d_Lw_law_762 cl_Lw_83 (c_Od_from l hC (xs (6 * k + 1)) ((((xs (6 * k + 2)).toInt64) <<< ((nI 32).toInt64 &&& 63)) ||| (((xs (6 * k + 3)).toInt64) &&& 4294967295))) (by assumption) cb_Od rfl (Nat.le_of_ble_eq_true rfl) ⟨by decide, by decide⟩ ⟨by omega, by omega⟩ (fun r_1 g_1 nx_1 hp_1 => ?_) rfl
  try dsimp only [Option.toList, List.nil_append, List.cons_append]
  obtain ⟨e1, hn1, C1, X1⟩ := hp_1
  obtain ⟨z, hz⟩ : ∃ z, (spFrom S (xs (6 * k + 1)) ((((xs (6 * k + 2)).toInt64) <<< ((nI 32).toInt64 &&& 63)) ||| (((xs (6 * k + 3)).toInt64) &&& 4294967295))).1 = .int z := by
    unfold spFrom
    repeat' (first | exact ⟨_, rfl⟩ | exact mkS_int _ _ _ | split)
  rw [hz] at e1
  subst e1
  try dsimp only [Option.toList, List.nil_append, List.cons_append]
  have M1 : MW g_1 (O + 48) S := MW_X hM (fun q a b => X1 q (by omega) (by omega))
  obtain ⟨E1, t1, ts1, V1, -⟩ := id M1
  have m1 := V1.1
  refine z_aload_n hE d_Lw_law_765 rfl ?_
  refine z_aload_n hE d_Lw_law_766 rfl ?_
  refine z_iload_n hE d_Lw_law_767 rfl ?_
  refine z_iconst (v := nI 1) hE d_Lw_law_768 (by decide) ?_
  refine z_iadd (v := nI (6 * k + 1)) hE d_Lw_law_769 (nI_add _ _) ?_
  refine z_sld hE d_Lw_law_770 hX (nI_in' (by omega : 6 * k + 1 < L) (by omega)) ?_
  rw [nI_cl (by omega)]
  refine z_aload_n hE d_Lw_law_771 rfl ?_
  refine z_iload_n hE d_Lw_law_772 rfl ?_
  refine z_iconst (v := nI 2) hE d_Lw_law_773 (by decide) ?_
  refine z_iadd (v := nI (6 * k + 2)) hE d_Lw_law_774 (nI_add _ _) ?_
  refine z_sld hE d_Lw_law_775 hX (nI_in' (by omega : 6 * k + 2 < L) (by omega)) ?_
  rw [nI_cl (by omega)]
  refine z_i2l hE d_Lw_law_776 (rfl) ?_
  refine z_bipush (v := nI 32) hE d_Lw_law_777 (by decide) ?_
  refine z_lshl hE d_Lw_law_779 (rfl) ?_
  refine z_aload_n hE d_Lw_law_780 rfl ?_
  refine z_iload_n hE d_Lw_law_781 rfl ?_
  refine z_iconst (v := nI 3) hE d_Lw_law_782 (by decide) ?_
  refine z_iadd (v := nI (6 * k + 3)) hE d_Lw_law_783 (nI_add _ _) ?_
  refine z_sld hE d_Lw_law_784 hX (nI_in' (by omega : 6 * k + 3 < L) (by omega)) ?_
  rw [nI_cl (by omega)]
  refine z_i2l hE d_Lw_law_785 (rfl) ?_
  refine z_ldc2 hE d_Lw_law_786 cn_Lw_18 ?_
  refine z_land hE d_Lw_law_789 (rfl) ?_
  refine z_lor hE d_Lw_law_790 (rfl) ?_
  refine z_callV hE d_Lw_law_791 cl_Lw_87 (c_Mo_from l nx_1 M1 hS (xs (6 * k + 1)) ((((xs (6 * k + 2)).toInt64) <<< ((nI 32).toInt64 &&& 63)) ||| (((xs (6 * k + 3)).toInt64) &&& 4294967295))) (by assumption) cb_Mo rfl (Nat.le_of_ble_eq_true rfl) ⟨by decide, by decide⟩ ⟨by omega, by omega⟩ (fun r_2 g_2 nx_2 hp_2 => ?_) rfl
  try dsimp only [Option.toList, List.nil_append, List.cons_append]
  obtain ⟨e2, rfl, M2, W2⟩ := hp_2
  rw [hz] at e2
  subst e2
  try dsimp only [Option.toList, List.nil_append, List.cons_append]
  refine z_icmp_eq (tgt := 1167) hE d_Lw_law_794 (by decide) (fun _ => ?_) (fun c_ => absurd c_ (fun w => w rfl))
  exact next _ _ _ _ _ (CW_W C1 W2) M2 (by omega) (by omega) _ rfl rfl rfl rfl
theorem lw_case16 (l : Launch) {E : zE} (hE : zOk E l m_Lw_law 600000 7302250) {b L : Nat} {xs : Nat → Int32} (hX : zX E b L xs) (hL : L ≤ 3072) {O k nx c s : Nat} {g : Gh} {S : Sx} (hC : CW g O nx S) (hM : MW g (O + 48) S) (hk : 6 * k + 6 ≤ L) (hc : c ≤ 100000) (hs : s ≤ 1000000) (next : ∀ (g2 : Gh) (n2 c2 s2 : Nat) (S2 : Sx), CW g2 O n2 S2 → MW g2 (O + 48) S2 → c2 ≤ c + 5 → s2 ≤ s + 47 → ∀ lv, lG lv 0 = some (.ref b) → lG lv 1 = some (.ref O) → lG lv 2 = some (.ref (O + 48)) → lG lv 3 = some (.int (nI (6 * k))) → zJ E g2 n2 c2 s2 1167 lv []) : zJ E g nx c s 799 [(0, .ref b), (1, .ref O), (2, .ref (O + 48)), (3, .int (nI (6 * k)))] [] := by
  have hn := CW_n hC
  have hS := CW_S hC
  obtain ⟨sg0, v0, w0, hV0⟩ := id hC
  have m0 := hV0.1
  refine z_aload_n hE d_Lw_law_799 rfl ?_
  refine z_aload_n hE d_Lw_law_800 rfl ?_
  refine z_iload_n hE d_Lw_law_801 rfl ?_
  refine z_iconst (v := nI 1) hE d_Lw_law_802 (by decide) ?_
  refine z_iadd (v := nI (6 * k + 1)) hE d_Lw_law_803 (nI_add _ _) ?_
  refine z_sld hE d_Lw_law_804 hX (nI_in' (by omega : 6 * k + 1 < L) (by omega)) ?_
  rw [nI_cl (by omega)]
  refine z_aload_n hE d_Lw_law_805 rfl ?_
  refine z_iload_n hE d_Lw_law_806 rfl ?_
  refine z_iconst (v := nI 2) hE d_Lw_law_807 (by decide) ?_
  refine z_iadd (v := nI (6 * k + 2)) hE d_Lw_law_808 (nI_add _ _) ?_
  refine z_sld hE d_Lw_law_809 hX (nI_in' (by omega : 6 * k + 2 < L) (by omega)) ?_
  rw [nI_cl (by omega)]
  refine z_i2l hE d_Lw_law_810 (rfl) ?_
  refine z_bipush (v := nI 32) hE d_Lw_law_811 (by decide) ?_
  refine z_lshl hE d_Lw_law_813 (rfl) ?_
  refine z_aload_n hE d_Lw_law_814 rfl ?_
  refine z_iload_n hE d_Lw_law_815 rfl ?_
  refine z_iconst (v := nI 3) hE d_Lw_law_816 (by decide) ?_
  refine z_iadd (v := nI (6 * k + 3)) hE d_Lw_law_817 (nI_add _ _) ?_
  refine z_sld hE d_Lw_law_818 hX (nI_in' (by omega : 6 * k + 3 < L) (by omega)) ?_
  rw [nI_cl (by omega)]
  refine z_i2l hE d_Lw_law_819 (rfl) ?_
  refine z_ldc2 hE d_Lw_law_820 cn_Lw_18 ?_
  refine z_land hE d_Lw_law_823 (rfl) ?_
  refine z_lor hE d_Lw_law_824 (rfl) ?_
  refine z_aload_n hE d_Lw_law_825 rfl ?_
  refine z_iload_n hE d_Lw_law_826 rfl ?_
  refine z_iconst (v := nI 4) hE d_Lw_law_827 (by decide) ?_
  refine z_iadd (v := nI (6 * k + 4)) hE d_Lw_law_828 (nI_add _ _) ?_
  refine z_sld hE d_Lw_law_829 hX (nI_in' (by omega : 6 * k + 4 < L) (by omega)) ?_
  rw [nI_cl (by omega)]
  refine z_i2l hE d_Lw_law_830 (rfl) ?_
  refine z_bipush (v := nI 32) hE d_Lw_law_831 (by decide) ?_
  refine z_lshl hE d_Lw_law_833 (rfl) ?_
  refine z_aload_n hE d_Lw_law_834 rfl ?_
  refine z_iload_n hE d_Lw_law_835 rfl ?_
  refine z_iconst (v := nI 5) hE d_Lw_law_836 (by decide) ?_
  refine z_iadd (v := nI (6 * k + 5)) hE d_Lw_law_837 (nI_add _ _) ?_
  refine z_sld hE d_Lw_law_838 hX (nI_in' (by omega : 6 * k + 5 < L) (by omega)) ?_
  rw [nI_cl (by omega)]
  refine z_i2l hE d_Lw_law_839 (rfl) ?_
  refine z_ldc2 hE d_Lw_law_840 cn_Lw_18 ?_
  refine z_land hE d_Lw_law_843 (rfl) ?_
  refine z_lor hE d_Lw_law_844 (rfl) ?_
  refine z_callV hE d_Lw_law_845 cl_Lw_88 (c_Od_exact l hC (xs (6 * k + 1)) ((((xs (6 * k + 2)).toInt64) <<< ((nI 32).toInt64 &&& 63)) ||| (((xs (6 * k + 3)).toInt64) &&& 4294967295)) ((((xs (6 * k + 4)).toInt64) <<< ((nI 32).toInt64 &&& 63)) ||| (((xs (6 * k + 5)).toInt64) &&& 4294967295))) (by assumption) cb_Od rfl (Nat.le_of_ble_eq_true rfl) ⟨by decide, by decide⟩ ⟨by omega, by omega⟩ (fun r_1 g_1 nx_1 hp_1 => ?_) rfl
  try dsimp only [Option.toList, List.nil_append, List.cons_append]
  obtain ⟨e1, hn1, C1, X1⟩ := hp_1
  obtain ⟨z, hz⟩ : ∃ z, (spExact S (xs (6 * k + 1)) ((((xs (6 * k + 2)).toInt64) <<< ((nI 32).toInt64 &&& 63)) ||| (((xs (6 * k + 3)).toInt64) &&& 4294967295)) ((((xs (6 * k + 4)).toInt64) <<< ((nI 32).toInt64 &&& 63)) ||| (((xs (6 * k + 5)).toInt64) &&& 4294967295))).1 = .long z := by
    unfold spExact
    repeat' (first | exact ⟨_, rfl⟩ | exact mkS_int _ _ _ | split)
  rw [hz] at e1
  subst e1
  try dsimp only [Option.toList, List.nil_append, List.cons_append]
  have M1 : MW g_1 (O + 48) S := MW_X hM (fun q a b => X1 q (by omega) (by omega))
  obtain ⟨E1, t1, ts1, V1, -⟩ := id M1
  have m1 := V1.1
  refine z_aload_n hE d_Lw_law_848 rfl ?_
  refine z_aload_n hE d_Lw_law_849 rfl ?_
  refine z_iload_n hE d_Lw_law_850 rfl ?_
  refine z_iconst (v := nI 1) hE d_Lw_law_851 (by decide) ?_
  refine z_iadd (v := nI (6 * k + 1)) hE d_Lw_law_852 (nI_add _ _) ?_
  refine z_sld hE d_Lw_law_853 hX (nI_in' (by omega : 6 * k + 1 < L) (by omega)) ?_
  rw [nI_cl (by omega)]
  refine z_aload_n hE d_Lw_law_854 rfl ?_
  refine z_iload_n hE d_Lw_law_855 rfl ?_
  refine z_iconst (v := nI 2) hE d_Lw_law_856 (by decide) ?_
  refine z_iadd (v := nI (6 * k + 2)) hE d_Lw_law_857 (nI_add _ _) ?_
  refine z_sld hE d_Lw_law_858 hX (nI_in' (by omega : 6 * k + 2 < L) (by omega)) ?_
  rw [nI_cl (by omega)]
  refine z_i2l hE d_Lw_law_859 (rfl) ?_
  refine z_bipush (v := nI 32) hE d_Lw_law_860 (by decide) ?_
  refine z_lshl hE d_Lw_law_862 (rfl) ?_
  refine z_aload_n hE d_Lw_law_863 rfl ?_
  refine z_iload_n hE d_Lw_law_864 rfl ?_
  refine z_iconst (v := nI 3) hE d_Lw_law_865 (by decide) ?_
  refine z_iadd (v := nI (6 * k + 3)) hE d_Lw_law_866 (nI_add _ _) ?_
  refine z_sld hE d_Lw_law_867 hX (nI_in' (by omega : 6 * k + 3 < L) (by omega)) ?_
  rw [nI_cl (by omega)]
  refine z_i2l hE d_Lw_law_868 (rfl) ?_
  refine z_ldc2 hE d_Lw_law_869 cn_Lw_18 ?_
  refine z_land hE d_Lw_law_872 (rfl) ?_
  refine z_lor hE d_Lw_law_873 (rfl) ?_
  refine z_aload_n hE d_Lw_law_874 rfl ?_
  refine z_iload_n hE d_Lw_law_875 rfl ?_
  refine z_iconst (v := nI 4) hE d_Lw_law_876 (by decide) ?_
  refine z_iadd (v := nI (6 * k + 4)) hE d_Lw_law_877 (nI_add _ _) ?_
  refine z_sld hE d_Lw_law_878 hX (nI_in' (by omega : 6 * k + 4 < L) (by omega)) ?_
  rw [nI_cl (by omega)]
  refine z_i2l hE d_Lw_law_879 (rfl) ?_
  refine z_bipush (v := nI 32) hE d_Lw_law_880 (by decide) ?_
  refine z_lshl hE d_Lw_law_882 (rfl) ?_
  refine z_aload_n hE d_Lw_law_883 rfl ?_
  refine z_iload_n hE d_Lw_law_884 rfl ?_
  refine z_iconst (v := nI 5) hE d_Lw_law_885 (by decide) ?_
  refine z_iadd (v := nI (6 * k + 5)) hE d_Lw_law_886 (nI_add _ _) ?_
  refine z_sld hE d_Lw_law_887 hX (nI_in' (by omega : 6 * k + 5 < L) (by omega)) ?_
  rw [nI_cl (by omega)]
  refine z_i2l hE d_Lw_law_888 (rfl) ?_
  refine z_ldc2 hE d_Lw_law_889 cn_Lw_18 ?_
  refine z_land hE d_Lw_law_892 (rfl) ?_
  refine z_lor hE d_Lw_law_893 (rfl) ?_
  refine z_callV hE d_Lw_law_894 cl_Lw_92 (c_Mo_exact l nx_1 M1 hS (xs (6 * k + 1)) ((((xs (6 * k + 2)).toInt64) <<< ((nI 32).toInt64 &&& 63)) ||| (((xs (6 * k + 3)).toInt64) &&& 4294967295)) ((((xs (6 * k + 4)).toInt64) <<< ((nI 32).toInt64 &&& 63)) ||| (((xs (6 * k + 5)).toInt64) &&& 4294967295))) (by assumption) cb_Mo rfl (Nat.le_of_ble_eq_true rfl) ⟨by decide, by decide⟩ ⟨by omega, by omega⟩ (fun r_2 g_2 nx_2 hp_2 => ?_) rfl
  try dsimp only [Option.toList, List.nil_append, List.cons_append]
  obtain ⟨e2, rfl, M2, W2⟩ := hp_2
  rw [hz] at e2
  subst e2
  try dsimp only [Option.toList, List.nil_append, List.cons_append]
  refine z_lcmp hE d_Lw_law_897 ?_
  refine z_if_eq (tgt := 1167) hE d_Lw_law_898 (by decide) (fun _ => ?_) (fun c_ => absurd c_ (fun w => w (by rw [lg_cmp_eq])))
  exact next _ _ _ _ _ (CW_W C1 W2) M2 (by omega) (by omega) _ rfl rfl rfl rfl

