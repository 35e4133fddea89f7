/-! the law: its calls -/
theorem lw_case17 (l : Launch) {E : zE} (hE : zOk E l m_Lw_law 600000 7302250) {b L : Nat} {xs : Nat → Int32} (hX : zX E b L xs) (hL : L ≤ 3072) {O k nx c s : Nat} {g : Gh} {S : Sx} (hC : CW g O nx S) (hM : MW g (O + 48) S) (hk : 6 * k + 6 ≤ L) (hc : c ≤ 100000) (hs : s ≤ 1000000) (next : ∀ (g2 : Gh) (n2 c2 s2 : Nat) (S2 : Sx), CW g2 O n2 S2 → MW g2 (O + 48) S2 → c2 ≤ c + 5 → s2 ≤ s + 47 → ∀ lv, lG lv 0 = some (.ref b) → lG lv 1 = some (.ref O) → lG lv 2 = some (.ref (O + 48)) → lG lv 3 = some (.int (nI (6 * k))) → zJ E g2 n2 c2 s2 1167 lv []) : zJ E g nx c s 903 [(0, .ref b), (1, .ref O), (2, .ref (O + 48)), (3, .int (nI (6 * k)))] [] := by
  have hn := CW_n hC
  have hS := CW_S hC
  obtain ⟨sg0, v0, w0, hV0⟩ := id hC
  have m0 := hV0.1
  refine z_aload_n hE d_Lw_law_903 rfl ?_
  refine z_aload_n hE d_Lw_law_904 rfl ?_
  refine z_iload_n hE d_Lw_law_905 rfl ?_
  refine z_iconst (v := nI 1) hE d_Lw_law_906 (by decide) ?_
  refine z_iadd (v := nI (6 * k + 1)) hE d_Lw_law_907 (nI_add _ _) ?_
  refine z_sld hE d_Lw_law_908 hX (nI_in' (by omega : 6 * k + 1 < L) (by omega)) ?_
  rw [nI_cl (by omega)]
  refine z_aload_n hE d_Lw_law_909 rfl ?_
  refine z_iload_n hE d_Lw_law_910 rfl ?_
  refine z_iconst (v := nI 2) hE d_Lw_law_911 (by decide) ?_
  refine z_iadd (v := nI (6 * k + 2)) hE d_Lw_law_912 (nI_add _ _) ?_
  refine z_sld hE d_Lw_law_913 hX (nI_in' (by omega : 6 * k + 2 < L) (by omega)) ?_
  rw [nI_cl (by omega)]
  refine z_callV hE d_Lw_law_914 cl_Lw_93 (c_Od_row l hC (xs (6 * k + 1)) (xs (6 * k + 2))) (by assumption) cb_Od rfl (Nat.le_of_ble_eq_true rfl) ⟨by decide, by decide⟩ ⟨by omega, by omega⟩ (fun r_1 g_1 nx_1 hp_1 => ?_) rfl
  try dsimp only [Option.toList, List.nil_append, List.cons_append]
  obtain ⟨e1, hn1, C1, X1⟩ := hp_1
  obtain ⟨z, hz⟩ : ∃ z, (spRow S (xs (6 * k + 1)) (xs (6 * k + 2))).1 = .int z := by
    unfold spRow
    repeat' (first | exact ⟨_, rfl⟩ | exact mkS_int _ _ _ | split)
  rw [hz] at e1
  subst e1
  try dsimp only [Option.toList, List.nil_append, List.cons_append]
  have M1 : MW g_1 (O + 48) S := MW_X hM (fun q a b => X1 q (by omega) (by omega))
  obtain ⟨E1, t1, ts1, V1, -⟩ := id M1
  have m1 := V1.1
  refine z_aload_n hE d_Lw_law_917 rfl ?_
  refine z_aload_n hE d_Lw_law_918 rfl ?_
  refine z_iload_n hE d_Lw_law_919 rfl ?_
  refine z_iconst (v := nI 1) hE d_Lw_law_920 (by decide) ?_
  refine z_iadd (v := nI (6 * k + 1)) hE d_Lw_law_921 (nI_add _ _) ?_
  refine z_sld hE d_Lw_law_922 hX (nI_in' (by omega : 6 * k + 1 < L) (by omega)) ?_
  rw [nI_cl (by omega)]
  refine z_aload_n hE d_Lw_law_923 rfl ?_
  refine z_iload_n hE d_Lw_law_924 rfl ?_
  refine z_iconst (v := nI 2) hE d_Lw_law_925 (by decide) ?_
  refine z_iadd (v := nI (6 * k + 2)) hE d_Lw_law_926 (nI_add _ _) ?_
  refine z_sld hE d_Lw_law_927 hX (nI_in' (by omega : 6 * k + 2 < L) (by omega)) ?_
  rw [nI_cl (by omega)]
  refine z_callV hE d_Lw_law_928 cl_Lw_96 (c_Mo_row l nx_1 M1 hS (xs (6 * k + 1)) (xs (6 * k + 2))) (by assumption) cb_Mo rfl (Nat.le_of_ble_eq_true rfl) ⟨by decide, by decide⟩ ⟨by omega, by omega⟩ (fun r_2 g_2 nx_2 hp_2 => ?_) rfl
  try dsimp only [Option.toList, List.nil_append, List.cons_append]
  obtain ⟨e2, rfl, M2, W2⟩ := hp_2
  rw [hz] at e2
  subst e2
  try dsimp only [Option.toList, List.nil_append, List.cons_append]
  refine z_icmp_eq (tgt := 1167) hE d_Lw_law_931 (by decide) (fun _ => ?_) (fun c_ => absurd c_ (fun w => w rfl))
  exact next _ _ _ _ _ (CW_W C1 W2) M2 (by omega) (by omega) _ rfl rfl rfl rfl
theorem lw_case18 (l : Launch) {E : zE} (hE : zOk E l m_Lw_law 600000 7302250) {b L : Nat} {xs : Nat → Int32} (hX : zX E b L xs) (hL : L ≤ 3072) {O k nx c s : Nat} {g : Gh} {S : Sx} (hC : CW g O nx S) (hM : MW g (O + 48) S) (hk : 6 * k + 6 ≤ L) (hc : c ≤ 100000) (hs : s ≤ 1000000) (next : ∀ (g2 : Gh) (n2 c2 s2 : Nat) (S2 : Sx), CW g2 O n2 S2 → MW g2 (O + 48) S2 → c2 ≤ c + 5 → s2 ≤ s + 47 → ∀ lv, lG lv 0 = some (.ref b) → lG lv 1 = some (.ref O) → lG lv 2 = some (.ref (O + 48)) → lG lv 3 = some (.int (nI (6 * k))) → zJ E g2 n2 c2 s2 1167 lv []) : zJ E g nx c s 936 [(0, .ref b), (1, .ref O), (2, .ref (O + 48)), (3, .int (nI (6 * k)))] [] := by
  have hn := CW_n hC
  have hS := CW_S hC
  obtain ⟨sg0, v0, w0, hV0⟩ := id hC
  have m0 := hV0.1
  refine z_aload_n hE d_Lw_law_936 rfl ?_
  refine z_aload_n hE d_Lw_law_937 rfl ?_
  refine z_iload_n hE d_Lw_law_938 rfl ?_
  refine z_iconst (v := nI 1) hE d_Lw_law_939 (by decide) ?_
  refine z_iadd (v := nI (6 * k + 1)) hE d_Lw_law_940 (nI_add _ _) ?_
  refine z_sld hE d_Lw_law_941 hX (nI_in' (by omega : 6 * k + 1 < L) (by omega)) ?_
  rw [nI_cl (by omega)]
  refine z_aload_n hE d_Lw_law_942 rfl ?_
  refine z_iload_n hE d_Lw_law_943 rfl ?_
  refine z_iconst (v := nI 2) hE d_Lw_law_944 (by decide) ?_
  refine z_iadd (v := nI (6 * k + 2)) hE d_Lw_law_945 (nI_add _ _) ?_
  refine z_sld hE d_Lw_law_946 hX (nI_in' (by omega : 6 * k + 2 < L) (by omega)) ?_
  rw [nI_cl (by omega)]
  refine z_aload_n hE d_Lw_law_947 rfl ?_
  refine z_iload_n hE d_Lw_law_948 rfl ?_
  refine z_iconst (v := nI 3) hE d_Lw_law_949 (by decide) ?_
  refine z_iadd (v := nI (6 * k + 3)) hE d_Lw_law_950 (nI_add _ _) ?_
  refine z_sld hE d_Lw_law_951 hX (nI_in' (by omega : 6 * k + 3 < L) (by omega)) ?_
  rw [nI_cl (by omega)]
  refine z_callV hE d_Lw_law_952 cl_Lw_97 (c_Od_put l hC (xs (6 * k + 1)) (xs (6 * k + 2)) (xs (6 * k + 3))) (by assumption) cb_Od rfl (Nat.le_of_ble_eq_true rfl) ⟨by decide, by decide⟩ ⟨by omega, by omega⟩ (fun r_1 g_1 nx_1 hp_1 => ?_) rfl
  try dsimp only [Option.toList, List.nil_append, List.cons_append]
  obtain ⟨e1, hn1, C1, X1⟩ := hp_1
  obtain ⟨z, hz⟩ : ∃ z, (spPut S (xs (6 * k + 1)) (xs (6 * k + 2)) (xs (6 * k + 3))).1 = .int z := by
    unfold spPut
    repeat' (first | exact ⟨_, rfl⟩ | exact mkS_int _ _ _ | split)
  rw [hz] at e1
  subst e1
  try dsimp only [Option.toList, List.nil_append, List.cons_append]
  have M1 : MW g_1 (O + 48) S := MW_X hM (fun q a b => X1 q (by omega) (by omega))
  obtain ⟨E1, t1, ts1, V1, -⟩ := id M1
  have m1 := V1.1
  refine z_aload_n hE d_Lw_law_955 rfl ?_
  refine z_aload_n hE d_Lw_law_956 rfl ?_
  refine z_iload_n hE d_Lw_law_957 rfl ?_
  refine z_iconst (v := nI 1) hE d_Lw_law_958 (by decide) ?_
  refine z_iadd (v := nI (6 * k + 1)) hE d_Lw_law_959 (nI_add _ _) ?_
  refine z_sld hE d_Lw_law_960 hX (nI_in' (by omega : 6 * k + 1 < L) (by omega)) ?_
  rw [nI_cl (by omega)]
  refine z_aload_n hE d_Lw_law_961 rfl ?_
  refine z_iload_n hE d_Lw_law_962 rfl ?_
  refine z_iconst (v := nI 2) hE d_Lw_law_963 (by decide) ?_
  refine z_iadd (v := nI (6 * k + 2)) hE d_Lw_law_964 (nI_add _ _) ?_
  refine z_sld hE d_Lw_law_965 hX (nI_in' (by omega : 6 * k + 2 < L) (by omega)) ?_
  rw [nI_cl (by omega)]
  refine z_aload_n hE d_Lw_law_966 rfl ?_
  refine z_iload_n hE d_Lw_law_967 rfl ?_
  refine z_iconst (v := nI 3) hE d_Lw_law_968 (by decide) ?_
  refine z_iadd (v := nI (6 * k + 3)) hE d_Lw_law_969 (nI_add _ _) ?_
  refine z_sld hE d_Lw_law_970 hX (nI_in' (by omega : 6 * k + 3 < L) (by omega)) ?_
  rw [nI_cl (by omega)]
  refine z_callV hE d_Lw_law_971 cl_Lw_100 (c_Mo_put l nx_1 M1 hS (xs (6 * k + 1)) (xs (6 * k + 2)) (xs (6 * k + 3))) (by assumption) cb_Mo rfl (Nat.le_of_ble_eq_true rfl) ⟨by decide, by decide⟩ ⟨by omega, by omega⟩ (fun r_2 g_2 nx_2 hp_2 => ?_) rfl
  try dsimp only [Option.toList, List.nil_append, List.cons_append]
  obtain ⟨e2, rfl, M2, W2⟩ := hp_2
  rw [hz] at e2
  subst e2
  try dsimp only [Option.toList, List.nil_append, List.cons_append]
  refine z_icmp_eq (tgt := 1167) hE d_Lw_law_974 (by decide) (fun _ => ?_) (fun c_ => absurd c_ (fun w => w rfl))
  exact next _ _ _ _ _ (CW_W C1 W2) M2 (by omega) (by omega) _ rfl rfl rfl rfl
theorem lw_case19 (l : Launch) {E : zE} (hE : zOk E l m_Lw_law 600000 7302250) {b L : Nat} {xs : Nat → Int32} (hX : zX E b L xs) (hL : L ≤ 3072) {O k nx c s : Nat} {g : Gh} {S : Sx} (hC : CW g O nx S) (hM : MW g (O + 48) S) (hk : 6 * k + 6 ≤ L) (hc : c ≤ 100000) (hs : s ≤ 1000000) (next : ∀ (g2 : Gh) (n2 c2 s2 : Nat) (S2 : Sx), CW g2 O n2 S2 → MW g2 (O + 48) S2 → c2 ≤ c + 5 → s2 ≤ s + 47 → ∀ lv, lG lv 0 = some (.ref b) → lG lv 1 = some (.ref O) → lG lv 2 = some (.ref (O + 48)) → lG lv 3 = some (.int (nI (6 * k))) → zJ E g2 n2 c2 s2 1167 lv []) : zJ E g nx c s 979 [(0, .ref b), (1, .ref O), (2, .ref (O + 48)), (3, .int (nI (6 * k)))] [] := by
  have hn := CW_n hC
  have hS := CW_S hC
  obtain ⟨sg0, v0, w0, hV0⟩ := id hC
  have m0 := hV0.1
  refine z_aload_n hE d_Lw_law_979 rfl ?_
  refine z_aload_n hE d_Lw_law_980 rfl ?_
  refine z_iload_n hE d_Lw_law_981 rfl ?_
  refine z_iconst (v := nI 1) hE d_Lw_law_982 (by decide) ?_
  refine z_iadd (v := nI (6 * k + 1)) hE d_Lw_law_983 (nI_add _ _) ?_
  refine z_sld hE d_Lw_law_984 hX (nI_in' (by omega : 6 * k + 1 < L) (by omega)) ?_
  rw [nI_cl (by omega)]
  refine z_aload_n hE d_Lw_law_985 rfl ?_
  refine z_iload_n hE d_Lw_law_986 rfl ?_
  refine z_iconst (v := nI 2) hE d_Lw_law_987 (by decide) ?_
  refine z_iadd (v := nI (6 * k + 2)) hE d_Lw_law_988 (nI_add _ _) ?_
  refine z_sld hE d_Lw_law_989 hX (nI_in' (by omega : 6 * k + 2 < L) (by omega)) ?_
  rw [nI_cl (by omega)]
  refine z_aload_n hE d_Lw_law_990 rfl ?_
  refine z_iload_n hE d_Lw_law_991 rfl ?_
  refine z_iconst (v := nI 3) hE d_Lw_law_992 (by decide) ?_
  refine z_iadd (v := nI (6 * k + 3)) hE d_Lw_law_993 (nI_add _ _) ?_
  refine z_sld hE d_Lw_law_994 hX (nI_in' (by omega : 6 * k + 3 < L) (by omega)) ?_
  rw [nI_cl (by omega)]
  refine z_aload_n hE d_Lw_law_995 rfl ?_
  refine z_iload_n hE d_Lw_law_996 rfl ?_
  refine z_iconst (v := nI 4) hE d_Lw_law_997 (by decide) ?_
  refine z_iadd (v := nI (6 * k + 4)) hE d_Lw_law_998 (nI_add _ _) ?_
  refine z_sld hE d_Lw_law_999 hX (nI_in' (by omega : 6 * k + 4 < L) (by omega)) ?_
  rw [nI_cl (by omega)]
  refine z_aload_n hE d_Lw_law_1000 rfl ?_
  refine z_iload_n hE d_Lw_law_1001 rfl ?_
  refine z_iconst (v := nI 5) hE d_Lw_law_1002 (by decide) ?_
  refine z_iadd (v := nI (6 * k + 5)) hE d_Lw_law_1003 (nI_add _ _) ?_
  refine z_sld hE d_Lw_law_1004 hX (nI_in' (by omega : 6 * k + 5 < L) (by omega)) ?_
  rw [nI_cl (by omega)]
  refine z_callV hE d_Lw_law_1005 cl_Lw_101 (c_Od_move l hC (xs (6 * k + 1)) (xs (6 * k + 2)) (xs (6 * k + 3)) (xs (6 * k + 4)) (xs (6 * k + 5))) (by assumption) cb_Od rfl (Nat.le_of_ble_eq_true rfl) ⟨by decide, by decide⟩ ⟨by omega, by omega⟩ (fun r_1 g_1 nx_1 hp_1 => ?_) rfl
  try dsimp only [Option.toList, List.nil_append, List.cons_append]
  obtain ⟨e1, hn1, C1, X1⟩ := hp_1
  obtain ⟨z, hz⟩ : ∃ z, (spMove S (xs (6 * k + 1)) (xs (6 * k + 2)) (xs (6 * k + 3)) (xs (6 * k + 4)) (xs (6 * k + 5))).1 = .int z := by
    unfold spMove
    repeat' (first | exact ⟨_, rfl⟩ | exact mkS_int _ _ _ | split)
  rw [hz] at e1
  subst e1
  try dsimp only [Option.toList, List.nil_append, List.cons_append]
  have M1 : MW g_1 (O + 48) S := MW_X hM (fun q a b => X1 q (by omega) (by omega))
  obtain ⟨E1, t1, ts1, V1, -⟩ := id M1
  have m1 := V1.1
  refine z_aload_n hE d_Lw_law_1008 rfl ?_
  refine z_aload_n hE d_Lw_law_1009 rfl ?_
  refine z_iload_n hE d_Lw_law_1010 rfl ?_
  refine z_iconst (v := nI 1) hE d_Lw_law_1011 (by decide) ?_
  refine z_iadd (v := nI (6 * k + 1)) hE d_Lw_law_1012 (nI_add _ _) ?_
  refine z_sld hE d_Lw_law_1013 hX (nI_in' (by omega : 6 * k + 1 < L) (by omega)) ?_
  rw [nI_cl (by omega)]
  refine z_aload_n hE d_Lw_law_1014 rfl ?_
  refine z_iload_n hE d_Lw_law_1015 rfl ?_
  refine z_iconst (v := nI 2) hE d_Lw_law_1016 (by decide) ?_
  refine z_iadd (v := nI (6 * k + 2)) hE d_Lw_law_1017 (nI_add _ _) ?_
  refine z_sld hE d_Lw_law_1018 hX (nI_in' (by omega : 6 * k + 2 < L) (by omega)) ?_
  rw [nI_cl (by omega)]
  refine z_aload_n hE d_Lw_law_1019 rfl ?_
  refine z_iload_n hE d_Lw_law_1020 rfl ?_
  refine z_iconst (v := nI 3) hE d_Lw_law_1021 (by decide) ?_
  refine z_iadd (v := nI (6 * k + 3)) hE d_Lw_law_1022 (nI_add _ _) ?_
  refine z_sld hE d_Lw_law_1023 hX (nI_in' (by omega : 6 * k + 3 < L) (by omega)) ?_
  rw [nI_cl (by omega)]
  refine z_aload_n hE d_Lw_law_1024 rfl ?_
  refine z_iload_n hE d_Lw_law_1025 rfl ?_
  refine z_iconst (v := nI 4) hE d_Lw_law_1026 (by decide) ?_
  refine z_iadd (v := nI (6 * k + 4)) hE d_Lw_law_1027 (nI_add _ _) ?_
  refine z_sld hE d_Lw_law_1028 hX (nI_in' (by omega : 6 * k + 4 < L) (by omega)) ?_
  rw [nI_cl (by omega)]
  refine z_aload_n hE d_Lw_law_1029 rfl ?_
  refine z_iload_n hE d_Lw_law_1030 rfl ?_
  refine z_iconst (v := nI 5) hE d_Lw_law_1031 (by decide) ?_
  refine z_iadd (v := nI (6 * k + 5)) hE d_Lw_law_1032 (nI_add _ _) ?_
  refine z_sld hE d_Lw_law_1033 hX (nI_in' (by omega : 6 * k + 5 < L) (by omega)) ?_
  rw [nI_cl (by omega)]
  refine z_callV hE d_Lw_law_1034 cl_Lw_105 (c_Mo_move l nx_1 M1 hS (xs (6 * k + 1)) (xs (6 * k + 2)) (xs (6 * k + 3)) (xs (6 * k + 4)) (xs (6 * k + 5))) (by assumption) cb_Mo rfl (Nat.le_of_ble_eq_true rfl) ⟨by decide, by decide⟩ ⟨by omega, by omega⟩ (fun r_2 g_2 nx_2 hp_2 => ?_) rfl
  try dsimp only [Option.toList, List.nil_append, List.cons_append]
  obtain ⟨e2, rfl, M2, W2⟩ := hp_2
  rw [hz] at e2
  subst e2
  try dsimp only [Option.toList, List.nil_append, List.cons_append]
  refine z_icmp_eq (tgt := 1167) hE d_Lw_law_1037 (by decide) (fun _ => ?_) (fun c_ => absurd c_ (fun w => w rfl))
  exact next _ _ _ _ _ (CW_W C1 W2) M2 (by omega) (by omega) _ rfl rfl rfl rfl
theorem lw_case20 (l : Launch) {E : zE} (hE : zOk E l m_Lw_law 600000 7302250) {b L : Nat} {xs : Nat → Int32} (hX : zX E b L xs) (hL : L ≤ 3072) {O k nx c s : Nat} {g : Gh} {S : Sx} (hC : CW g O nx S) (hM : MW g (O + 48) S) (hk : 6 * k + 6 ≤ L) (hc : c ≤ 100000) (hs : s ≤ 1000000) (next : ∀ (g2 : Gh) (n2 c2 s2 : Nat) (S2 : Sx), CW g2 O n2 S2 → MW g2 (O + 48) S2 → c2 ≤ c + 5 → s2 ≤ s + 47 → ∀ lv, lG lv 0 = some (.ref b) → lG lv 1 = some (.ref O) → lG lv 2 = some (.ref (O + 48)) → lG lv 3 = some (.int (nI (6 * k))) → zJ E g2 n2 c2 s2 1167 lv []) : zJ E g nx c s 1042 [(0, .ref b), (1, .ref O), (2, .ref (O + 48)), (3, .int (nI (6 * k)))] [] := by
  have hn := CW_n hC
  have hS := CW_S hC
  obtain ⟨sg0, v0, w0, hV0⟩ := id hC
  have m0 := hV0.1
  refine z_aload_n hE d_Lw_law_1042 rfl ?_
  refine z_aload_n hE d_Lw_law_1043 rfl ?_
  refine z_iload_n hE d_Lw_law_1044 rfl ?_
  refine z_iconst (v := nI 1) hE d_Lw_law_1045 (by decide) ?_
  refine z_iadd (v := nI (6 * k + 1)) hE d_Lw_law_1046 (nI_add _ _) ?_
  refine z_sld hE d_Lw_law_1047 hX (nI_in' (by omega : 6 * k + 1 < L) (by omega)) ?_
  rw [nI_cl (by omega)]
  refine z_callV hE d_Lw_law_1048 cl_Lw_106 (c_Od_filled l hC (xs (6 * k + 1))) (by assumption) cb_Od rfl (Nat.le_of_ble_eq_true rfl) ⟨by decide, by decide⟩ ⟨by omega, by omega⟩ (fun r_1 g_1 nx_1 hp_1 => ?_) rfl
  try dsimp only [Option.toList, List.nil_append, List.cons_append]
  obtain ⟨e1, hn1, C1, X1⟩ := hp_1
  obtain ⟨z, hz⟩ : ∃ z, (spFilled S (xs (6 * k + 1))).1 = .int z := by
    unfold spFilled
    repeat' (first | exact ⟨_, rfl⟩ | exact mkS_int _ _ _ | split)
  rw [hz] at e1
  subst e1
  try dsimp only [Option.toList, List.nil_append, List.cons_append]
  have M1 : MW g_1 (O + 48) S := MW_X hM (fun q a b => X1 q (by omega) (by omega))
  obtain ⟨E1, t1, ts1, V1, -⟩ := id M1
  have m1 := V1.1
  refine z_aload_n hE d_Lw_law_1051 rfl ?_
  refine z_aload_n hE d_Lw_law_1052 rfl ?_
  refine z_iload_n hE d_Lw_law_1053 rfl ?_
  refine z_iconst (v := nI 1) hE d_Lw_law_1054 (by decide) ?_
  refine z_iadd (v := nI (6 * k + 1)) hE d_Lw_law_1055 (nI_add _ _) ?_
  refine z_sld hE d_Lw_law_1056 hX (nI_in' (by omega : 6 * k + 1 < L) (by omega)) ?_
  rw [nI_cl (by omega)]
  refine z_callV hE d_Lw_law_1057 cl_Lw_109 (c_Mo_filled l nx_1 M1 hS (xs (6 * k + 1))) (by assumption) cb_Mo rfl (Nat.le_of_ble_eq_true rfl) ⟨by decide, by decide⟩ ⟨by omega, by omega⟩ (fun r_2 g_2 nx_2 hp_2 => ?_) rfl
  try dsimp only [Option.toList, List.nil_append, List.cons_append]
  obtain ⟨e2, rfl, M2, W2⟩ := hp_2
  rw [hz] at e2
  subst e2
  try dsimp only [Option.toList, List.nil_append, List.cons_append]
  refine z_icmp_eq (tgt := 1167) hE d_Lw_law_1060 (by decide) (fun _ => ?_) (fun c_ => absurd c_ (fun w => w rfl))
  exact next _ _ _ _ _ (CW_W C1 W2) M2 (by omega) (by omega) _ rfl rfl rfl rfl
theorem lw_case21 (l : Launch) {E : zE} (hE : zOk E l m_Lw_law 600000 7302250) {b L : Nat} {xs : Nat → Int32} (hX : zX E b L xs) (hL : L ≤ 3072) {O k nx c s : Nat} {g : Gh} {S : Sx} (hC : CW g O nx S) (hM : MW g (O + 48) S) (hk : 6 * k + 6 ≤ L) (hc : c ≤ 100000) (hs : s ≤ 1000000) (next : ∀ (g2 : Gh) (n2 c2 s2 : Nat) (S2 : Sx), CW g2 O n2 S2 → MW g2 (O + 48) S2 → c2 ≤ c + 5 → s2 ≤ s + 47 → ∀ lv, lG lv 0 = some (.ref b) → lG lv 1 = some (.ref O) → lG lv 2 = some (.ref (O + 48)) → lG lv 3 = some (.int (nI (6 * k))) → zJ E g2 n2 c2 s2 1167 lv []) : zJ E g nx c s 1065 [(0, .ref b), (1, .ref O), (2, .ref (O + 48)), (3, .int (nI (6 * k)))] [] := by
  have hn := CW_n hC
  have hS := CW_S hC
  obtain ⟨sg0, v0, w0, hV0⟩ := id hC
  have m0 := hV0.1
  refine z_aload_n hE d_Lw_law_1065 rfl ?_
  refine z_aload_n hE d_Lw_law_1066 rfl ?_
  refine z_iload_n hE d_Lw_law_1067 rfl ?_
  refine z_iconst (v := nI 1) hE d_Lw_law_1068 (by decide) ?_
  refine z_iadd (v := nI (6 * k + 1)) hE d_Lw_law_1069 (nI_add _ _) ?_
  refine z_sld hE d_Lw_law_1070 hX (nI_in' (by omega : 6 * k + 1 < L) (by omega)) ?_
  rw [nI_cl (by omega)]
  refine z_aload_n hE d_Lw_law_1071 rfl ?_
  refine z_iload_n hE d_Lw_law_1072 rfl ?_
  refine z_iconst (v := nI 2) hE d_Lw_law_1073 (by decide) ?_
  refine z_iadd (v := nI (6 * k + 2)) hE d_Lw_law_1074 (nI_add _ _) ?_
  refine z_sld hE d_Lw_law_1075 hX (nI_in' (by omega : 6 * k + 2 < L) (by omega)) ?_
  rw [nI_cl (by omega)]
  refine z_callV hE d_Lw_law_1076 cl_Lw_110 (c_Od_sum l hC (xs (6 * k + 1)) (xs (6 * k + 2))) (by assumption) cb_Od rfl (Nat.le_of_ble_eq_true rfl) ⟨by decide, by decide⟩ ⟨by omega, by omega⟩ (fun r_1 g_1 nx_1 hp_1 => ?_) rfl
  try dsimp only [Option.toList, List.nil_append, List.cons_append]
  obtain ⟨e1, hn1, C1, X1⟩ := hp_1
  obtain ⟨z, hz⟩ : ∃ z, (spSum S (xs (6 * k + 1)) (xs (6 * k + 2))).1 = .int z := by
    unfold spSum
    repeat' (first | exact ⟨_, rfl⟩ | exact mkS_int _ _ _ | split)
  rw [hz] at e1
  subst e1
  try dsimp only [Option.toList, List.nil_append, List.cons_append]
  have M1 : MW g_1 (O + 48) S := MW_X hM (fun q a b => X1 q (by omega) (by omega))
  obtain ⟨E1, t1, ts1, V1, -⟩ := id M1
  have m1 := V1.1
  refine z_aload_n hE d_Lw_law_1079 rfl ?_
  refine z_aload_n hE d_Lw_law_1080 rfl ?_
  refine z_iload_n hE d_Lw_law_1081 rfl ?_
  refine z_iconst (v := nI 1) hE d_Lw_law_1082 (by decide) ?_
  refine z_iadd (v := nI (6 * k + 1)) hE d_Lw_law_1083 (nI_add _ _) ?_
  refine z_sld hE d_Lw_law_1084 hX (nI_in' (by omega : 6 * k + 1 < L) (by omega)) ?_
  rw [nI_cl (by omega)]
  refine z_aload_n hE d_Lw_law_1085 rfl ?_
  refine z_iload_n hE d_Lw_law_1086 rfl ?_
  refine z_iconst (v := nI 2) hE d_Lw_law_1087 (by decide) ?_
  refine z_iadd (v := nI (6 * k + 2)) hE d_Lw_law_1088 (nI_add _ _) ?_
  refine z_sld hE d_Lw_law_1089 hX (nI_in' (by omega : 6 * k + 2 < L) (by omega)) ?_
  rw [nI_cl (by omega)]
  refine z_callV hE d_Lw_law_1090 cl_Lw_113 (c_Mo_sum l nx_1 M1 hS (xs (6 * k + 1)) (xs (6 * k + 2))) (by assumption) cb_Mo rfl (Nat.le_of_ble_eq_true rfl) ⟨by decide, by decide⟩ ⟨by omega, by omega⟩ (fun r_2 g_2 nx_2 hp_2 => ?_) rfl
  try dsimp only [Option.toList, List.nil_append, List.cons_append]
  obtain ⟨e2, rfl, M2, W2⟩ := hp_2
  rw [hz] at e2
  subst e2
  try dsimp only [Option.toList, List.nil_append, List.cons_append]
  refine z_icmp_eq (tgt := 1167) hE d_Lw_law_1093 (by decide) (fun _ => ?_) (fun c_ => absurd c_ (fun w => w rfl))
  exact next _ _ _ _ _ (CW_W C1 W2) M2 (by omega) (by omega) _ rfl rfl rfl rfl
theorem lw_case22 (l : Launch) {E : zE} (hE : zOk E l m_Lw_law 600000 7302250) {b L : Nat} {xs : Nat → Int32} (hX : zX E b L xs) (hL : L ≤ 3072) {O k nx c s : Nat} {g : Gh} {S : Sx} (hC : CW g O nx S) (hM : MW g (O + 48) S) (hk : 6 * k + 6 ≤ L) (hc : c ≤ 100000) (hs : s ≤ 1000000) (next : ∀ (g2 : Gh) (n2 c2 s2 : Nat) (S2 : Sx), CW g2 O n2 S2 → MW g2 (O + 48) S2 → c2 ≤ c + 5 → s2 ≤ s + 47 → ∀ lv, lG lv 0 = some (.ref b) → lG lv 1 = some (.ref O) → lG lv 2 = some (.ref (O + 48)) → lG lv 3 = some (.int (nI (6 * k))) → zJ E g2 n2 c2 s2 1167 lv []) : zJ E g nx c s 1098 [(0, .ref b), (1, .ref O), (2, .ref (O + 48)), (3, .int (nI (6 * k)))] [] := by
  have hn := CW_n hC
  have hS := CW_S hC
  obtain ⟨sg0, v0, w0, hV0⟩ := id hC
  have m0 := hV0.1
  refine z_aload_n hE d_Lw_law_1098 rfl ?_
  refine z_aload_n hE d_Lw_law_1099 rfl ?_
  refine z_iload_n hE d_Lw_law_1100 rfl ?_
  refine z_iconst (v := nI 1) hE d_Lw_law_1101 (by decide) ?_
  refine z_iadd (v := nI (6 * k + 1)) hE d_Lw_law_1102 (nI_add _ _) ?_
  refine z_sld hE d_Lw_law_1103 hX (nI_in' (by omega : 6 * k + 1 < L) (by omega)) ?_
  rw [nI_cl (by omega)]
  refine z_callV hE d_Lw_law_1104 cl_Lw_114 (c_Od_one l hC (xs (6 * k + 1))) (by assumption) cb_Od rfl (Nat.le_of_ble_eq_true rfl) ⟨by decide, by decide⟩ ⟨by omega, by omega⟩ (fun r_1 g_1 nx_1 hp_1 => ?_) rfl
  try dsimp only [Option.toList, List.nil_append, List.cons_append]
  obtain ⟨e1, hn1, C1, X1⟩ := hp_1
  obtain ⟨z, hz⟩ : ∃ z, (spOne S (xs (6 * k + 1))).1 = .int z := by
    unfold spOne
    repeat' (first | exact ⟨_, rfl⟩ | exact mkS_int _ _ _ | split)
  rw [hz] at e1
  subst e1
  try dsimp only [Option.toList, List.nil_append, List.cons_append]
  have M1 : MW g_1 (O + 48) S := MW_X hM (fun q a b => X1 q (by omega) (by omega))
  obtain ⟨E1, t1, ts1, V1, -⟩ := id M1
  have m1 := V1.1
  refine z_aload_n hE d_Lw_law_1107 rfl ?_
  refine z_aload_n hE d_Lw_law_1108 rfl ?_
  refine z_iload_n hE d_Lw_law_1109 rfl ?_
  refine z_iconst (v := nI 1) hE d_Lw_law_1110 (by decide) ?_
  refine z_iadd (v := nI (6 * k + 1)) hE d_Lw_law_1111 (nI_add _ _) ?_
  refine z_sld hE d_Lw_law_1112 hX (nI_in' (by omega : 6 * k + 1 < L) (by omega)) ?_
  rw [nI_cl (by omega)]
  refine z_callV hE d_Lw_law_1113 cl_Lw_117 (c_Mo_one l nx_1 M1 hS (xs (6 * k + 1))) (by assumption) cb_Mo rfl (Nat.le_of_ble_eq_true rfl) ⟨by decide, by decide⟩ ⟨by omega, by omega⟩ (fun r_2 g_2 nx_2 hp_2 => ?_) rfl
  try dsimp only [Option.toList, List.nil_append, List.cons_append]
  obtain ⟨e2, rfl, M2, W2⟩ := hp_2
  rw [hz] at e2
  subst e2
  try dsimp only [Option.toList, List.nil_append, List.cons_append]
  refine z_icmp_eq (tgt := 1167) hE d_Lw_law_1116 (by decide) (fun _ => ?_) (fun c_ => absurd c_ (fun w => w rfl))
  exact next _ _ _ _ _ (CW_W C1 W2) M2 (by omega) (by omega) _ rfl rfl rfl rfl
theorem lw_case23 (l : Launch) {E : zE} (hE : zOk E l m_Lw_law 600000 7302250) {b L : Nat} {xs : Nat → Int32} (hX : zX E b L xs) (hL : L ≤ 3072) {O k nx c s : Nat} {g : Gh} {S : Sx} (hC : CW g O nx S) (hM : MW g (O + 48) S) (hk : 6 * k + 6 ≤ L) (hc : c ≤ 100000) (hs : s ≤ 1000000) (next : ∀ (g2 : Gh) (n2 c2 s2 : Nat) (S2 : Sx), CW g2 O n2 S2 → MW g2 (O + 48) S2 → c2 ≤ c + 5 → s2 ≤ s + 47 → ∀ lv, lG lv 0 = some (.ref b) → lG lv 1 = some (.ref O) → lG lv 2 = some (.ref (O + 48)) → lG lv 3 = some (.int (nI (6 * k))) → zJ E g2 n2 c2 s2 1167 lv []) : zJ E g nx c s 1121 [(0, .ref b), (1, .ref O), (2, .ref (O + 48)), (3, .int (nI (6 * k)))] [] := by
  have hn := CW_n hC
  have hS := CW_S hC
  obtain ⟨sg0, v0, w0, hV0⟩ := id hC
  have m0 := hV0.1
  refine z_aload_n hE d_Lw_law_1121 rfl ?_
  refine z_aload_n hE d_Lw_law_1122 rfl ?_
  refine z_iload_n hE d_Lw_law_1123 rfl ?_
  refine z_iconst (v := nI 1) hE d_Lw_law_1124 (by decide) ?_
  refine z_iadd (v := nI (6 * k + 1)) hE d_Lw_law_1125 (nI_add _ _) ?_
  refine z_sld hE d_Lw_law_1126 hX (nI_in' (by omega : 6 * k + 1 < L) (by omega)) ?_
  rw [nI_cl (by omega)]
  refine z_aload_n hE d_Lw_law_1127 rfl ?_
  refine z_iload_n hE d_Lw_law_1128 rfl ?_
  refine z_iconst (v := nI 2) hE d_Lw_law_1129 (by decide) ?_
  refine z_iadd (v := nI (6 * k + 2)) hE d_Lw_law_1130 (nI_add _ _) ?_
  refine z_sld hE d_Lw_law_1131 hX (nI_in' (by omega : 6 * k + 2 < L) (by omega)) ?_
  rw [nI_cl (by omega)]
  refine z_callV hE d_Lw_law_1132 cl_Lw_118 (c_Od_pick l hC (xs (6 * k + 1)) (xs (6 * k + 2))) (by assumption) cb_Od rfl (Nat.le_of_ble_eq_true rfl) ⟨by decide, by decide⟩ ⟨by omega, by omega⟩ (fun r_1 g_1 nx_1 hp_1 => ?_) rfl
  try dsimp only [Option.toList, List.nil_append, List.cons_append]
  obtain ⟨e1, hn1, C1, X1⟩ := hp_1
  obtain ⟨z, hz⟩ : ∃ z, (spPick S (xs (6 * k + 1)) (xs (6 * k + 2))).1 = .int z := by
    unfold spPick
    repeat' (first | exact ⟨_, rfl⟩ | exact mkS_int _ _ _ | split)
  rw [hz] at e1
  subst e1
  try dsimp only [Option.toList, List.nil_append, List.cons_append]
  have M1 : MW g_1 (O + 48) S := MW_X hM (fun q a b => X1 q (by omega) (by omega))
  obtain ⟨E1, t1, ts1, V1, -⟩ := id M1
  have m1 := V1.1
  refine z_aload_n hE d_Lw_law_1135 rfl ?_
  refine z_aload_n hE d_Lw_law_1136 rfl ?_
  refine z_iload_n hE d_Lw_law_1137 rfl ?_
  refine z_iconst (v := nI 1) hE d_Lw_law_1138 (by decide) ?_
  refine z_iadd (v := nI (6 * k + 1)) hE d_Lw_law_1139 (nI_add _ _) ?_
  refine z_sld hE d_Lw_law_1140 hX (nI_in' (by omega : 6 * k + 1 < L) (by omega)) ?_
  rw [nI_cl (by omega)]
  refine z_aload_n hE d_Lw_law_1141 rfl ?_
  refine z_iload_n hE d_Lw_law_1142 rfl ?_
  refine z_iconst (v := nI 2) hE d_Lw_law_1143 (by decide) ?_
  refine z_iadd (v := nI (6 * k + 2)) hE d_Lw_law_1144 (nI_add _ _) ?_
  refine z_sld hE d_Lw_law_1145 hX (nI_in' (by omega : 6 * k + 2 < L) (by omega)) ?_
  rw [nI_cl (by omega)]
  refine z_callV hE d_Lw_law_1146 cl_Lw_121 (c_Mo_pick l nx_1 M1 hS (xs (6 * k + 1)) (xs (6 * k + 2))) (by assumption) cb_Mo rfl (Nat.le_of_ble_eq_true rfl) ⟨by decide, by decide⟩ ⟨by omega, by omega⟩ (fun r_2 g_2 nx_2 hp_2 => ?_) rfl
  try dsimp only [Option.toList, List.nil_append, List.cons_append]
  obtain ⟨e2, rfl, M2, W2⟩ := hp_2
  rw [hz] at e2
  subst e2
  try dsimp only [Option.toList, List.nil_append, List.cons_append]
  refine z_icmp_eq (tgt := 1167) hE d_Lw_law_1149 (by decide) (fun _ => ?_) (fun c_ => absurd c_ (fun w => w rfl))
  exact next _ _ _ _ _ (CW_W C1 W2) M2 (by omega) (by omega) _ rfl rfl rfl rfl
theorem lw_case24 (l : Launch) {E : zE} (hE : zOk E l m_Lw_law 600000 7302250) {b L : Nat} {xs : Nat → Int32} (hX : zX E b L xs) (hL : L ≤ 3072) {O k nx c s : Nat} {g : Gh} {S : Sx} (hC : CW g O nx S) (hM : MW g (O + 48) S) (hk : 6 * k + 6 ≤ L) (hc : c ≤ 100000) (hs : s ≤ 1000000) (next : ∀ (g2 : Gh) (n2 c2 s2 : Nat) (S2 : Sx), CW g2 O n2 S2 → MW g2 (O + 48) S2 → c2 ≤ c + 5 → s2 ≤ s + 47 → ∀ lv, lG lv 0 = some (.ref b) → lG lv 1 = some (.ref O) → lG lv 2 = some (.ref (O + 48)) → lG lv 3 = some (.int (nI (6 * k))) → zJ E g2 n2 c2 s2 1167 lv []) : zJ E g nx c s 1154 [(0, .ref b), (1, .ref O), (2, .ref (O + 48)), (3, .int (nI (6 * k)))] [] := by
  have hn := CW_n hC
  have hS := CW_S hC
  obtain ⟨sg0, v0, w0, hV0⟩ := id hC
  have m0 := hV0.1
  refine z_aload_n hE d_Lw_law_1154 rfl ?_
  refine z_callV hE d_Lw_law_1155 cl_Lw_122 (c_Od_grown l hC) (by assumption) cb_Od rfl (Nat.le_of_ble_eq_true rfl) ⟨by decide, by decide⟩ ⟨by omega, by omega⟩ (fun r_1 g_1 nx_1 hp_1 => ?_) rfl
  try dsimp only [Option.toList, List.nil_append, List.cons_append]
  obtain ⟨e1, hn1, C1, X1⟩ := hp_1
  obtain ⟨z, hz⟩ : ∃ z, (spGrown S).1 = .int z := by
    unfold spGrown
    repeat' (first | exact ⟨_, rfl⟩ | exact mkS_int _ _ _ | split)
  rw [hz] at e1
  subst e1
  try dsimp only [Option.toList, List.nil_append, List.cons_append]
  have M1 : MW g_1 (O + 48) S := MW_X hM (fun q a b => X1 q (by omega) (by omega))
  obtain ⟨E1, t1, ts1, V1, -⟩ := id M1
  have m1 := V1.1
  refine z_aload_n hE d_Lw_law_1158 rfl ?_
  refine z_callV hE d_Lw_law_1159 cl_Lw_125 (c_Mo_grown l nx_1 M1 hS) (by assumption) cb_Mo rfl (Nat.le_of_ble_eq_true rfl) ⟨by decide, by decide⟩ ⟨by omega, by omega⟩ (fun r_2 g_2 nx_2 hp_2 => ?_) rfl
  try dsimp only [Option.toList, List.nil_append, List.cons_append]
  obtain ⟨e2, rfl, M2, W2⟩ := hp_2
  rw [hz] at e2
  subst e2
  try dsimp only [Option.toList, List.nil_append, List.cons_append]
  refine z_icmp_eq (tgt := 1167) hE d_Lw_law_1162 (by decide) (fun _ => ?_) (fun c_ => absurd c_ (fun w => w rfl))
  exact next _ _ _ _ _ (CW_W C1 W2) M2 (by omega) (by omega) _ rfl rfl rfl rfl

