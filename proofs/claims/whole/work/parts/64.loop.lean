/-! the law: its loop -/
theorem lw_loop (l : Launch) {E : zE} (hE : zOk E l m_Lw_law 600000 7302250) {b L : Nat} {xs : Nat → Int32} (hX : zX E b L xs) (hL : L ≤ 3072) {O : Nat} (hend : ∀ (g : Gh) (nx c s : Nat) lv, c ≤ 600000 → s ≤ 7302250 → zJ E g nx c s 1174 lv [.int 1]) : ∀ (u k : Nat) (g : Gh) (nx c s : Nat) (S : Sx), L ≤ 6 * k + u → 6 * k ≤ L → CW g O nx S → MW g (O + 48) S → c ≤ 100 + 5 * k → s ≤ 3000 + 47 * k → ∀ lv, lG lv 0 = some (.ref b) → lG lv 1 = some (.ref O) → lG lv 2 = some (.ref (O + 48)) → lG lv 3 = some (.int (nI (6 * k))) → zJ E g nx c s 18 lv [] := by
  intro u
  induction u with
  | zero =>
    intro k g nx c s S hu hk hC hM hc hs lv l0 l1 l2 l3
    refine z_sub (lv' := [(0, .ref b), (1, .ref O), (2, .ref (O + 48)), (3, .int (nI (6 * k)))]) (by simp only [List.map, l0, l1, l2, l3]) ?_
    have e6 : (nI L - nI 6).toInt = (L : Int) - 6 := pk_sub_toInt (by omega) (by omega)
    refine z_iload_n hE d_Lw_law_18 rfl ?_
    refine z_aload_n hE d_Lw_law_19 rfl ?_
    refine z_slen hE d_Lw_law_20 hX ?_
    refine z_bipush (v := nI 6) hE d_Lw_law_21 (by decide) ?_
    refine z_isub hE d_Lw_law_23 (rfl) ?_
    refine z_icmp_gt (tgt := 1173) hE d_Lw_law_24 (by decide) (fun _ => ?_) (fun c_ => absurd c_ (fun w => w (by rw [Int32.lt_iff_toInt_lt, e6, nI_ti (by omega)]; omega)))
    refine z_iconst (v := 1) hE d_Lw_law_1173 (by decide) ?_
    exact hend _ _ _ _ _ (by omega) (by omega)
  | succ u ih =>
    intro k g nx c s S hu hk hC hM hc hs lv l0 l1 l2 l3
    refine z_sub (lv' := [(0, .ref b), (1, .ref O), (2, .ref (O + 48)), (3, .int (nI (6 * k)))]) (by simp only [List.map, l0, l1, l2, l3]) ?_
    have e6 : (nI L - nI 6).toInt = (L : Int) - 6 := pk_sub_toInt (by omega) (by omega)
    refine z_iload_n hE d_Lw_law_18 rfl ?_
    refine z_aload_n hE d_Lw_law_19 rfl ?_
    refine z_slen hE d_Lw_law_20 hX ?_
    refine z_bipush (v := nI 6) hE d_Lw_law_21 (by decide) ?_
    refine z_isub hE d_Lw_law_23 (rfl) ?_
    by_cases hk6 : 6 * k + 6 ≤ L
    case neg =>
      refine z_icmp_gt (tgt := 1173) hE d_Lw_law_24 (by decide) (fun _ => ?_) (fun c_ => absurd c_ (fun w => w (by rw [Int32.lt_iff_toInt_lt, e6, nI_ti (by omega)]; omega)))
      refine z_iconst (v := 1) hE d_Lw_law_1173 (by decide) ?_
      exact hend _ _ _ _ _ (by omega) (by omega)
    refine z_icmp_gt (tgt := 1173) hE d_Lw_law_24 (by decide) (fun c_ => absurd c_ (fun w => by rw [Int32.lt_iff_toInt_lt, e6, nI_ti (by omega)] at w; omega)) (fun _ => ?_)
    have next : ∀ (g2 : Gh) (n2 c2 s2 : Nat) (S2 : Sx), CW g2 O n2 S2 → MW g2 (O + 48) S2 → c2 ≤ c + 5 → s2 ≤ s + 47 → ∀ lv, lG lv 0 = some (.ref b) → lG lv 1 = some (.ref O) → lG lv 2 = some (.ref (O + 48)) → lG lv 3 = some (.int (nI (6 * k))) → zJ E g2 n2 c2 s2 1167 lv [] := by
      intro g2 n2 c2 s2 S2 C2 M2 hc2 hs2 lv l0 l1 l2 l3
      refine z_sub (lv' := [(0, .ref b), (1, .ref O), (2, .ref (O + 48)), (3, .int (nI (6 * k)))]) (by simp only [List.map, l0, l1, l2, l3]) ?_
      refine z_iinc (v := nI (6 * (k + 1))) hE d_Lw_law_1167 rfl (nI_add (6 * k) 6) (by decide) ?_
      refine z_goto (tgt := 18) hE d_Lw_law_1170 (by decide) ?_
      exact ih (k + 1) g2 n2 c2 s2 S2 (by omega) (by omega) C2 M2 (by omega) (by omega) _ rfl rfl rfl rfl
    refine z_aload_n hE d_Lw_law_27 rfl ?_
    refine z_iload_n hE d_Lw_law_28 rfl ?_
    refine z_sld hE d_Lw_law_29 hX (nI_in' (by omega : 6 * k < L) (by omega)) ?_
    rw [nI_cl (by omega)]
    refine z_bipush (v := (31 : Int32)) hE d_Lw_law_30 (by decide) ?_
    obtain ⟨j, hj, ej⟩ := pk_andE (xs (6 * k)) (m := 31) 5 (by decide)
    have hj : j < 32 := hj
    refine z_iand (v := nI j) hE d_Lw_law_32 (ej) ?_
    rcases (by omega : j = 0 ∨ j = 1 ∨ j = 2 ∨ j = 3 ∨ j = 4 ∨ j = 5 ∨ j = 6 ∨ j = 7 ∨ j = 8 ∨ j = 9 ∨ j = 10 ∨ j = 11 ∨ j = 12 ∨ j = 13 ∨ j = 14 ∨ j = 15 ∨ j = 16 ∨ j = 17 ∨ j = 18 ∨ j = 19 ∨ j = 20 ∨ j = 21 ∨ j = 22 ∨ j = 23 ∨ j = 24 ∨ 25 ≤ j) with rfl | rfl | rfl | rfl | rfl | rfl | rfl | rfl | rfl | rfl | rfl | rfl | rfl | rfl | rfl | rfl | rfl | rfl | rfl | rfl | rfl | rfl | rfl | rfl | rfl | hj25
    · refine z_tableIn (tgt := 148) (off := 115) hE d_Lw_law_33 (by decide) (by decide) (by decide) (by decide) ?_
      exact lw_case0 l hE hX hL hC hM hk6 (by omega) (by omega) next
    · refine z_tableIn (tgt := 161) (off := 128) hE d_Lw_law_33 (by decide) (by decide) (by decide) (by decide) ?_
      exact lw_case1 l hE hX hL hC hM hk6 (by omega) (by omega) next
    · refine z_tableIn (tgt := 264) (off := 231) hE d_Lw_law_33 (by decide) (by decide) (by decide) (by decide) ?_
      exact lw_case2 l hE hX hL hC hM hk6 (by omega) (by omega) next
    · refine z_tableIn (tgt := 297) (off := 264) hE d_Lw_law_33 (by decide) (by decide) (by decide) (by decide) ?_
      exact lw_case3 l hE hX hL hC hM hk6 (by omega) (by omega) next
    · refine z_tableIn (tgt := 320) (off := 287) hE d_Lw_law_33 (by decide) (by decide) (by decide) (by decide) ?_
      exact lw_case4 l hE hX hL hC hM hk6 (by omega) (by omega) next
    · refine z_tableIn (tgt := 373) (off := 340) hE d_Lw_law_33 (by decide) (by decide) (by decide) (by decide) ?_
      exact lw_case5 l hE hX hL hC hM hk6 (by omega) (by omega) next
    · refine z_tableIn (tgt := 416) (off := 383) hE d_Lw_law_33 (by decide) (by decide) (by decide) (by decide) ?_
      exact lw_case6 l hE hX hL hC hM hk6 (by omega) (by omega) next
    · refine z_tableIn (tgt := 459) (off := 426) hE d_Lw_law_33 (by decide) (by decide) (by decide) (by decide) ?_
      exact lw_case7 l hE hX hL hC hM hk6 (by omega) (by omega) next
    · refine z_tableIn (tgt := 502) (off := 469) hE d_Lw_law_33 (by decide) (by decide) (by decide) (by decide) ?_
      exact lw_case8 l hE hX hL hC hM hk6 (by omega) (by omega) next
    · refine z_tableIn (tgt := 535) (off := 502) hE d_Lw_law_33 (by decide) (by decide) (by decide) (by decide) ?_
      exact lw_case9 l hE hX hL hC hM hk6 (by omega) (by omega) next
    · refine z_tableIn (tgt := 558) (off := 525) hE d_Lw_law_33 (by decide) (by decide) (by decide) (by decide) ?_
      exact lw_case10 l hE hX hL hC hM hk6 (by omega) (by omega) next
    · refine z_tableIn (tgt := 581) (off := 548) hE d_Lw_law_33 (by decide) (by decide) (by decide) (by decide) ?_
      exact lw_case11 l hE hX hL hC hM hk6 (by omega) (by omega) next
    · refine z_tableIn (tgt := 614) (off := 581) hE d_Lw_law_33 (by decide) (by decide) (by decide) (by decide) ?_
      exact lw_case12 l hE hX hL hC hM hk6 (by omega) (by omega) next
    · refine z_tableIn (tgt := 658) (off := 625) hE d_Lw_law_33 (by decide) (by decide) (by decide) (by decide) ?_
      exact lw_case13 l hE hX hL hC hM hk6 (by omega) (by omega) next
    · refine z_tableIn (tgt := 702) (off := 669) hE d_Lw_law_33 (by decide) (by decide) (by decide) (by decide) ?_
      exact lw_case14 l hE hX hL hC hM hk6 (by omega) (by omega) next
    · refine z_tableIn (tgt := 736) (off := 703) hE d_Lw_law_33 (by decide) (by decide) (by decide) (by decide) ?_
      exact lw_case15 l hE hX hL hC hM hk6 (by omega) (by omega) next
    · refine z_tableIn (tgt := 799) (off := 766) hE d_Lw_law_33 (by decide) (by decide) (by decide) (by decide) ?_
      exact lw_case16 l hE hX hL hC hM hk6 (by omega) (by omega) next
    · refine z_tableIn (tgt := 903) (off := 870) hE d_Lw_law_33 (by decide) (by decide) (by decide) (by decide) ?_
      exact lw_case17 l hE hX hL hC hM hk6 (by omega) (by omega) next
    · refine z_tableIn (tgt := 936) (off := 903) hE d_Lw_law_33 (by decide) (by decide) (by decide) (by decide) ?_
      exact lw_case18 l hE hX hL hC hM hk6 (by omega) (by omega) next
    · refine z_tableIn (tgt := 979) (off := 946) hE d_Lw_law_33 (by decide) (by decide) (by decide) (by decide) ?_
      exact lw_case19 l hE hX hL hC hM hk6 (by omega) (by omega) next
    · refine z_tableIn (tgt := 1042) (off := 1009) hE d_Lw_law_33 (by decide) (by decide) (by decide) (by decide) ?_
      exact lw_case20 l hE hX hL hC hM hk6 (by omega) (by omega) next
    · refine z_tableIn (tgt := 1065) (off := 1032) hE d_Lw_law_33 (by decide) (by decide) (by decide) (by decide) ?_
      exact lw_case21 l hE hX hL hC hM hk6 (by omega) (by omega) next
    · refine z_tableIn (tgt := 1098) (off := 1065) hE d_Lw_law_33 (by decide) (by decide) (by decide) (by decide) ?_
      exact lw_case22 l hE hX hL hC hM hk6 (by omega) (by omega) next
    · refine z_tableIn (tgt := 1121) (off := 1088) hE d_Lw_law_33 (by decide) (by decide) (by decide) (by decide) ?_
      exact lw_case23 l hE hX hL hC hM hk6 (by omega) (by omega) next
    · refine z_tableIn (tgt := 1154) (off := 1121) hE d_Lw_law_33 (by decide) (by decide) (by decide) (by decide) ?_
      exact lw_case24 l hE hX hL hC hM hk6 (by omega) (by omega) next
    · refine z_tableOut (tgt := 1167) hE d_Lw_law_33 (Or.inr (by rw [nI_ti (by omega)]; omega)) (by decide) ?_
      exact next _ _ _ _ _ hC hM (by omega) (by omega) _ rfl rfl rfl rfl
theorem lw_main (l : Launch) {E : zE} (hE : zOk E l m_Lw_law 600000 7302250) {b L : Nat} {xs : Nat → Int32} (hX : zX E b L xs) (hL : L ≤ 3072) (O : Nat) (hend : ∀ (g : Gh) (nx c s : Nat) lv, c ≤ 600000 → s ≤ 7302250 → zJ E g nx c s 1174 lv [.int 1]) : zJ E (fun _ => none) O 0 0 0 [(0, .ref b)] [] := by
  refine z_new (fs := [.null, .null, .null, .null, .int 0, .int 0]) hE d_Lw_law_0 ct_Od rfl kl_Lw_7 is_Od it_Od (by decide) (by omega) (by omega) ?_
  refine z_dup hE d_Lw_law_3 rfl ?_
  refine z_callI hE d_Lw_law_4 cl_Lw_9 (c_Od_init l rfl gS_s) rfl (Nat.le_of_ble_eq_true rfl) ⟨by decide, by decide⟩ ⟨by omega, by omega⟩ (fun r_1 g_1 nx_1 hp_1 => ?_) rfl
  try dsimp only [Option.toList, List.nil_append, List.cons_append]
  obtain ⟨rfl, rfl, V1, W1⟩ := hp_1
  try dsimp only [Option.toList, List.nil_append, List.cons_append]
  refine z_astore_n hE d_Lw_law_7 rfl (by decide) ?_
  refine z_new (fs := [.null, .null, .null, .null, .null, .int 0, .int 0, .null, .null, .int 0, .null, .null, .null, .null, .null, .null]) hE d_Lw_law_8 ct_Mo rfl kl_Lw_10 is_Mo it_Mo (by decide) (by omega) (by omega) ?_
  refine z_dup hE d_Lw_law_11 rfl ?_
  refine z_callI hE d_Lw_law_12 cl_Lw_12 (c_Mo_init l rfl gS_s) rfl (Nat.le_of_ble_eq_true rfl) ⟨by decide, by decide⟩ ⟨by omega, by omega⟩ (fun r_2 g_2 nx_2 hp_2 => ?_) rfl
  try dsimp only [Option.toList, List.nil_append, List.cons_append]
  obtain ⟨rfl, rfl, M2, W2⟩ := hp_2
  try dsimp only [Option.toList, List.nil_append, List.cons_append]
  have C2 : CW g_2 O (O + 48 + 14) S0 := CW_0 V1 (fun q a b => by rw [W2 q (by omega), gS_n (by omega)]) (by omega)
  refine z_astore_n hE d_Lw_law_15 rfl (by decide) ?_
  refine z_iconst (v := nI (6 * 0)) hE d_Lw_law_16 (by decide) ?_
  refine z_istore_n hE d_Lw_law_17 rfl (by decide) ?_
  exact lw_loop l hE hX hL hend L 0 _ _ _ _ S0 (by omega) (by omega) C2 M2 (by omega) (by omega) _ rfl rfl rfl rfl

