/-! both worlds made -/
theorem d_Od_init_0 : decode b_Od_init 0 = .ok (.aload_n 0, 1) := by decide +kernel
theorem d_Od_init_1 : decode b_Od_init 1 = .ok (.invokespecial 1, 3) := by decide +kernel
theorem d_Od_init_4 : decode b_Od_init 4 = .ok (.aload_n 0, 1) := by decide +kernel
theorem d_Od_init_5 : decode b_Od_init 5 = .ok (.bipush 16, 2) := by decide +kernel
theorem d_Od_init_7 : decode b_Od_init 7 = .ok (.anewarray 9, 3) := by decide +kernel
theorem d_Od_init_10 : decode b_Od_init 10 = .ok (.putfield 11, 3) := by decide +kernel
theorem d_Od_init_13 : decode b_Od_init 13 = .ok (.aload_n 0, 1) := by decide +kernel
theorem d_Od_init_14 : decode b_Od_init 14 = .ok (.iconst 4, 1) := by decide +kernel
theorem d_Od_init_15 : decode b_Od_init 15 = .ok (.anewarray 15, 3) := by decide +kernel
theorem d_Od_init_18 : decode b_Od_init 18 = .ok (.putfield 17, 3) := by decide +kernel
theorem d_Od_init_21 : decode b_Od_init 21 = .ok (.iconst 0, 1) := by decide +kernel
theorem d_Od_init_22 : decode b_Od_init 22 = .ok (.istore_n 1, 1) := by decide +kernel
theorem d_Od_init_23 : decode b_Od_init 23 = .ok (.iload_n 1, 1) := by decide +kernel
theorem d_Od_init_24 : decode b_Od_init 24 = .ok (.aload_n 0, 1) := by decide +kernel
theorem d_Od_init_25 : decode b_Od_init 25 = .ok (.getfield 17, 3) := by decide +kernel
theorem d_Od_init_28 : decode b_Od_init 28 = .ok (.arraylength, 1) := by decide +kernel
theorem d_Od_init_29 : decode b_Od_init 29 = .ok (.if_icmp .ge 22, 3) := by decide +kernel
theorem d_Od_init_32 : decode b_Od_init 32 = .ok (.aload_n 0, 1) := by decide +kernel
theorem d_Od_init_33 : decode b_Od_init 33 = .ok (.getfield 17, 3) := by decide +kernel
theorem d_Od_init_36 : decode b_Od_init 36 = .ok (.iload_n 1, 1) := by decide +kernel
theorem d_Od_init_37 : decode b_Od_init 37 = .ok (.new 15, 3) := by decide +kernel
theorem d_Od_init_40 : decode b_Od_init 40 = .ok (.dup, 1) := by decide +kernel
theorem d_Od_init_41 : decode b_Od_init 41 = .ok (.invokespecial 21, 3) := by decide +kernel
theorem d_Od_init_44 : decode b_Od_init 44 = .ok (.aastore, 1) := by decide +kernel
theorem d_Od_init_45 : decode b_Od_init 45 = .ok (.iinc 1 1, 3) := by decide +kernel
theorem d_Od_init_48 : decode b_Od_init 48 = .ok (.goto (-25), 3) := by decide +kernel
theorem d_Od_init_51 : decode b_Od_init 51 = .ok (.aload_n 0, 1) := by decide +kernel
theorem d_Od_init_52 : decode b_Od_init 52 = .ok (.new 22, 3) := by decide +kernel
theorem d_Od_init_55 : decode b_Od_init 55 = .ok (.dup, 1) := by decide +kernel
theorem d_Od_init_56 : decode b_Od_init 56 = .ok (.invokespecial 24, 3) := by decide +kernel
theorem d_Od_init_59 : decode b_Od_init 59 = .ok (.putfield 25, 3) := by decide +kernel
theorem d_Od_init_62 : decode b_Od_init 62 = .ok (.aload_n 0, 1) := by decide +kernel
theorem d_Od_init_63 : decode b_Od_init 63 = .ok (.new 29, 3) := by decide +kernel
theorem d_Od_init_66 : decode b_Od_init 66 = .ok (.dup, 1) := by decide +kernel
theorem d_Od_init_67 : decode b_Od_init 67 = .ok (.invokespecial 31, 3) := by decide +kernel
theorem d_Od_init_70 : decode b_Od_init 70 = .ok (.putfield 32, 3) := by decide +kernel
theorem d_Od_init_73 : decode b_Od_init 73 = .ok (.aload_n 0, 1) := by decide +kernel
theorem d_Od_init_74 : decode b_Od_init 74 = .ok (.iconst 0, 1) := by decide +kernel
theorem d_Od_init_75 : decode b_Od_init 75 = .ok (.putfield 36, 3) := by decide +kernel
theorem d_Od_init_78 : decode b_Od_init 78 = .ok (.aload_n 0, 1) := by decide +kernel
theorem d_Od_init_79 : decode b_Od_init 79 = .ok (.iconst 0, 1) := by decide +kernel
theorem d_Od_init_80 : decode b_Od_init 80 = .ok (.putfield 40, 3) := by decide +kernel
theorem d_Od_init_83 : decode b_Od_init 83 = .ok (.return_, 1) := by decide +kernel
theorem d_Mo_init_0 : decode b_Mo_init 0 = .ok (.aload_n 0, 1) := by decide +kernel
theorem d_Mo_init_1 : decode b_Mo_init 1 = .ok (.invokespecial 1, 3) := by decide +kernel
theorem d_Mo_init_4 : decode b_Mo_init 4 = .ok (.aload_n 0, 1) := by decide +kernel
theorem d_Mo_init_5 : decode b_Mo_init 5 = .ok (.bipush 58, 2) := by decide +kernel
theorem d_Mo_init_7 : decode b_Mo_init 7 = .ok (.newarray .boolean, 2) := by decide +kernel
theorem d_Mo_init_9 : decode b_Mo_init 9 = .ok (.putfield 7, 3) := by decide +kernel
theorem d_Mo_init_12 : decode b_Mo_init 12 = .ok (.aload_n 0, 1) := by decide +kernel
theorem d_Mo_init_13 : decode b_Mo_init 13 = .ok (.bipush 58, 2) := by decide +kernel
theorem d_Mo_init_15 : decode b_Mo_init 15 = .ok (.newarray .int, 2) := by decide +kernel
theorem d_Mo_init_17 : decode b_Mo_init 17 = .ok (.putfield 13, 3) := by decide +kernel
theorem d_Mo_init_20 : decode b_Mo_init 20 = .ok (.aload_n 0, 1) := by decide +kernel
theorem d_Mo_init_21 : decode b_Mo_init 21 = .ok (.sipush 928, 3) := by decide +kernel
theorem d_Mo_init_24 : decode b_Mo_init 24 = .ok (.newarray .int, 2) := by decide +kernel
theorem d_Mo_init_26 : decode b_Mo_init 26 = .ok (.putfield 17, 3) := by decide +kernel
theorem d_Mo_init_29 : decode b_Mo_init 29 = .ok (.aload_n 0, 1) := by decide +kernel
theorem d_Mo_init_30 : decode b_Mo_init 30 = .ok (.sipush 928, 3) := by decide +kernel
theorem d_Mo_init_33 : decode b_Mo_init 33 = .ok (.newarray .int, 2) := by decide +kernel
theorem d_Mo_init_35 : decode b_Mo_init 35 = .ok (.putfield 20, 3) := by decide +kernel
theorem d_Mo_init_38 : decode b_Mo_init 38 = .ok (.aload_n 0, 1) := by decide +kernel
theorem d_Mo_init_39 : decode b_Mo_init 39 = .ok (.iconst 4, 1) := by decide +kernel
theorem d_Mo_init_40 : decode b_Mo_init 40 = .ok (.newarray .int, 2) := by decide +kernel
theorem d_Mo_init_42 : decode b_Mo_init 42 = .ok (.putfield 23, 3) := by decide +kernel
theorem d_Mo_init_45 : decode b_Mo_init 45 = .ok (.aload_n 0, 1) := by decide +kernel
theorem d_Mo_init_46 : decode b_Mo_init 46 = .ok (.bipush 56, 2) := by decide +kernel
theorem d_Mo_init_48 : decode b_Mo_init 48 = .ok (.newarray .int, 2) := by decide +kernel
theorem d_Mo_init_50 : decode b_Mo_init 50 = .ok (.putfield 26, 3) := by decide +kernel
theorem d_Mo_init_53 : decode b_Mo_init 53 = .ok (.aload_n 0, 1) := by decide +kernel
theorem d_Mo_init_54 : decode b_Mo_init 54 = .ok (.bipush 56, 2) := by decide +kernel
theorem d_Mo_init_56 : decode b_Mo_init 56 = .ok (.newarray .int, 2) := by decide +kernel
theorem d_Mo_init_58 : decode b_Mo_init 58 = .ok (.putfield 29, 3) := by decide +kernel
theorem d_Mo_init_61 : decode b_Mo_init 61 = .ok (.aload_n 0, 1) := by decide +kernel
theorem d_Mo_init_62 : decode b_Mo_init 62 = .ok (.bipush 56, 2) := by decide +kernel
theorem d_Mo_init_64 : decode b_Mo_init 64 = .ok (.newarray .int, 2) := by decide +kernel
theorem d_Mo_init_66 : decode b_Mo_init 66 = .ok (.putfield 32, 3) := by decide +kernel
theorem d_Mo_init_69 : decode b_Mo_init 69 = .ok (.aload_n 0, 1) := by decide +kernel
theorem d_Mo_init_70 : decode b_Mo_init 70 = .ok (.bipush 56, 2) := by decide +kernel
theorem d_Mo_init_72 : decode b_Mo_init 72 = .ok (.newarray .int, 2) := by decide +kernel
theorem d_Mo_init_74 : decode b_Mo_init 74 = .ok (.putfield 35, 3) := by decide +kernel
theorem d_Mo_init_77 : decode b_Mo_init 77 = .ok (.aload_n 0, 1) := by decide +kernel
theorem d_Mo_init_78 : decode b_Mo_init 78 = .ok (.bipush 56, 2) := by decide +kernel
theorem d_Mo_init_80 : decode b_Mo_init 80 = .ok (.newarray .int, 2) := by decide +kernel
theorem d_Mo_init_82 : decode b_Mo_init 82 = .ok (.putfield 38, 3) := by decide +kernel
theorem d_Mo_init_85 : decode b_Mo_init 85 = .ok (.aload_n 0, 1) := by decide +kernel
theorem d_Mo_init_86 : decode b_Mo_init 86 = .ok (.bipush 56, 2) := by decide +kernel
theorem d_Mo_init_88 : decode b_Mo_init 88 = .ok (.newarray .int, 2) := by decide +kernel
theorem d_Mo_init_90 : decode b_Mo_init 90 = .ok (.putfield 41, 3) := by decide +kernel
theorem d_Mo_init_93 : decode b_Mo_init 93 = .ok (.aload_n 0, 1) := by decide +kernel
theorem d_Mo_init_94 : decode b_Mo_init 94 = .ok (.bipush 56, 2) := by decide +kernel
theorem d_Mo_init_96 : decode b_Mo_init 96 = .ok (.newarray .int, 2) := by decide +kernel
theorem d_Mo_init_98 : decode b_Mo_init 98 = .ok (.putfield 44, 3) := by decide +kernel
theorem d_Mo_init_101 : decode b_Mo_init 101 = .ok (.aload_n 0, 1) := by decide +kernel
theorem d_Mo_init_102 : decode b_Mo_init 102 = .ok (.bipush 56, 2) := by decide +kernel
theorem d_Mo_init_104 : decode b_Mo_init 104 = .ok (.newarray .int, 2) := by decide +kernel
theorem d_Mo_init_106 : decode b_Mo_init 106 = .ok (.putfield 47, 3) := by decide +kernel
theorem d_Mo_init_109 : decode b_Mo_init 109 = .ok (.iconst 0, 1) := by decide +kernel
theorem d_Mo_init_110 : decode b_Mo_init 110 = .ok (.istore_n 1, 1) := by decide +kernel
theorem d_Mo_init_111 : decode b_Mo_init 111 = .ok (.iload_n 1, 1) := by decide +kernel
theorem d_Mo_init_112 : decode b_Mo_init 112 = .ok (.iconst 4, 1) := by decide +kernel
theorem d_Mo_init_113 : decode b_Mo_init 113 = .ok (.if_icmp .ge 16, 3) := by decide +kernel
theorem d_Mo_init_116 : decode b_Mo_init 116 = .ok (.aload_n 0, 1) := by decide +kernel
theorem d_Mo_init_117 : decode b_Mo_init 117 = .ok (.getfield 23, 3) := by decide +kernel
theorem d_Mo_init_120 : decode b_Mo_init 120 = .ok (.iload_n 1, 1) := by decide +kernel
theorem d_Mo_init_121 : decode b_Mo_init 121 = .ok (.iconst (-1), 1) := by decide +kernel
theorem d_Mo_init_122 : decode b_Mo_init 122 = .ok (.iastore, 1) := by decide +kernel
theorem d_Mo_init_123 : decode b_Mo_init 123 = .ok (.iinc 1 1, 3) := by decide +kernel
theorem d_Mo_init_126 : decode b_Mo_init 126 = .ok (.goto (-15), 3) := by decide +kernel
theorem d_Mo_init_129 : decode b_Mo_init 129 = .ok (.return_, 1) := by decide +kernel
def S0 : Sx := (fun _ => none, fun _ => -1, fun _ _ => none, 0, 0)
/-- the class's world ahead of the reference's -/
def OV0 (g : Gh) (O : Nat) : Prop := g O = some (oD O 0 0) ∧ (∃ fa : Nat → Option Nat, g (O + 1) = some (oA fa) ∧ ∀ k, k < 16 → fa k = none) ∧ (∃ ro : Nat → Option Nat, g (O + 2) = some (.inl (4, 4, .inr (.inr (.inr (.inr ro))))) ∧ ∀ k, k < 4 → ro k = some (O + 3 + 2 * k)) ∧ (∀ r, r < 4 → RO g (O + 3 + 2 * r) (-1) (fun _ => none)) ∧ (∃ v, RV g (O + 11) 0 v) ∧ ∃ w, TV g (O + 36) w
theorem CW_0 {g g' : Gh} {O nx : Nat} (h : OV0 g O) (hw : ∀ q, O ≤ q → q < O + 48 → g' q = g q) (hn : O + 62 ≤ nx) : CW g' O nx S0 := by
  obtain ⟨h0, ⟨fa, h1, h1'⟩, ⟨ro, h2, h2'⟩, h3, ⟨v, h4⟩, ⟨w, h5⟩⟩ := h
  refine ⟨0, v, w, by rw [hw _ (by omega) (by omega)]; exact h0, ⟨fa, by rw [hw _ (by omega) (by omega)]; exact h1, fun k hk => Or.inl ⟨h1' k hk, rfl⟩⟩, ⟨ro, by rw [hw _ (by omega) (by omega)]; exact h2, h2'⟩, fun r hr => ⟨Or.inl rfl, fun _ => none, RO_E (h3 r hr) (fun q a b => hw q (by omega) (by omega)), fun k hk => Or.inl ⟨rfl, rfl⟩⟩, ?_, ?_, hn⟩
  · refine ⟨?_, ?_, ?_, fun j hj => ?_⟩
    · unfold RE; rw [hw _ (by omega) (by omega)]; exact h4.1
    · unfold DV; rw [hw _ (by omega) (by omega)]; exact h4.2.1
    · rw [hw _ (by omega) (by omega)]; exact h4.2.2.1
    · have b := kL_b j hj
      obtain ⟨n, d, q1, q2, q3⟩ := h4.2.2.2 j hj
      exact ⟨n, d, ⟨by rw [hw _ (by omega) (by omega)]; exact q1.1, by rw [hw _ (by omega) (by omega)]; exact q1.2.1, q1.2.2⟩, q2, q3⟩
  · refine ⟨?_, ?_, fun j hj => ?_⟩
    · rw [hw _ (by omega) (by omega)]; exact h5.1
    · unfold DV; rw [hw _ (by omega) (by omega)]; exact h5.2.1
    · have b := kT_b j hj
      obtain ⟨n, d, q1, q2, q3⟩ := h5.2.2 j hj
      exact ⟨n, d, ⟨by rw [hw _ (by omega) (by omega)]; exact q1.1, by rw [hw _ (by omega) (by omega)]; exact q1.2.1, q1.2.2⟩, q2, q3⟩
theorem c_Od_init (l : Launch) {g : Gh} {nx O : Nat} (hnx : nx = O + 1) (h : g O = some (.inr (6, [.null, .null, .null, .null, .int 0, .int 0]))) : Ct l m_Od_init 47 440 [.ref O] g nx (fun r g' nx' => r = none ∧ nx' = O + 48 ∧ OV0 g' O ∧ gW g g' O (O + 48)) := by
  subst hnx
  refine Ct.of (by decide) (Nat.le_of_ble_eq_true rfl) (fun E hE hQ => ?_)
  have loop : ∀ (u k : Nat) (g' : Gh) (n' c s : Nat) (ro : Nat → Option Nat), k + u = 4 → n' = O + 3 + 2 * k → c = 2 + 2 * k → s = 20 + 12 * k → gW g g' O (O + 48) → g' O = some (.inr (6, [.ref (O + 1), .ref (O + 2), .null, .null, .int 0, .int 0])) → g' (O + 1) = some (oA (fun _ => none)) → g' (O + 2) = some (.inl (4, 4, .inr (.inr (.inr (.inr ro))))) → (∀ j, j < k → ro j = some (O + 3 + 2 * j)) → (∀ r, r < k → RO g' (O + 3 + 2 * r) (-1) (fun _ => none)) → ∀ lv, lG lv 0 = some (.ref O) → lG lv 1 = some (.int (nI k)) → zJ E g' n' c s 23 lv [] := by
    intro u
    induction u with
    | zero =>
      intro k g' n' c s ro hu hn hc hs W e0 e1 e2 hro hR lv l0 l1
      refine z_sub (lv' := [(0, .ref O), (1, .int (nI k))]) (by simp only [List.map, l0, l1]) ?_
      obtain rfl : k = 4 := by omega
      obtain rfl : n' = O + 11 := by omega
      refine z_iload_n hE d_Od_init_23 rfl ?_
      refine z_aload_n hE d_Od_init_24 rfl ?_
      refine z_get hE d_Od_init_25 fl_Od_17 (by assumption) rfl ?_
      refine z_alen hE d_Od_init_28 (by assumption) (by decide) (rfl) ?_
      refine z_icmp_ge (tgt := 51) hE d_Od_init_29 (by decide) (fun _ => ?_) (fun c_ => absurd c_ (fun z => z ((nI_LE (by omega) (by omega)).mpr (by omega))))
      refine z_aload_n hE d_Od_init_51 rfl ?_
      refine z_new (fs := [.null, .null, .null, .null, .null, .null, .null, .null]) hE d_Od_init_52 ct_Re rfl kl_Od_22 is_Re it_Re (by decide) (by omega) (by omega) ?_
      refine z_dup hE d_Od_init_55 rfl ?_
      refine z_callIN hE d_Od_init_56 cl_Od_24 (c_Re_init l rfl gS_s) rfl (Nat.le_of_ble_eq_true rfl) ⟨by decide, by decide⟩ ⟨by omega, by omega⟩ (fun r_1 g_1 nx_1 hp_1 => ?_) rfl
      try dsimp only [Option.toList, List.nil_append, List.cons_append]
      obtain ⟨rfl, rfl, ⟨v, R1⟩, W1⟩ := hp_1
      try dsimp only [Option.toList, List.nil_append, List.cons_append]
      have x1 : ∀ q, q < O + 11 → g_1 q = g' q := fun q hq => by rw [W1 q (by omega), gS_n (by omega)]
      have f1 : g_1 O = some (.inr (6, [.ref (O + 1), .ref (O + 2), .null, .null, .int 0, .int 0])) := (x1 O (by omega)).trans e0
      refine z_putF hE d_Od_init_59 fl_Od_25 ct_Od ff_Od_2 rfl ⟨_, _, _, rfl, rfl⟩ (f1) rfl rfl (Nat.le_of_ble_eq_true rfl) ?_
      refine z_aload_n hE d_Od_init_62 rfl ?_
      refine z_new (fs := [.null, .null, .null]) hE d_Od_init_63 ct_Te rfl kl_Od_29 is_Te it_Te (by decide) (by omega) (by omega) ?_
      refine z_dup hE d_Od_init_66 rfl ?_
      refine z_callIN hE d_Od_init_67 cl_Od_31 (c_Te_init l rfl gS_s) rfl (Nat.le_of_ble_eq_true rfl) ⟨by decide, by decide⟩ ⟨by omega, by omega⟩ (fun r_2 g_2 nx_2 hp_2 => ?_) rfl
      try dsimp only [Option.toList, List.nil_append, List.cons_append]
      obtain ⟨rfl, rfl, ⟨w, T2⟩, W2⟩ := hp_2
      try dsimp only [Option.toList, List.nil_append, List.cons_append]
      have x2 : ∀ q, q < O + 11 → q ≠ O → g_2 q = g' q := fun q hq hq2 => by rw [W2 q (by omega), gS_n (by omega), gS_n (by omega)]; exact x1 q hq
      have f2 : g_2 O = some (.inr (6, [.ref (O + 1), .ref (O + 2), .ref (O + 11), .null, .int 0, .int 0])) := by rw [W2 O (by omega), gS_n (by omega), gS_s]; rfl
      refine z_putF hE d_Od_init_70 fl_Od_32 ct_Od ff_Od_3 rfl ⟨_, _, _, rfl, rfl⟩ (f2) rfl rfl (Nat.le_of_ble_eq_true rfl) ?_
      refine z_aload_n hE d_Od_init_73 rfl ?_
      refine z_iconst (v := 0) hE d_Od_init_74 (by decide) ?_
      refine z_put hE d_Od_init_75 fl_Od_36 ct_Od ff_Od_4 (gS_s) rfl rfl (Nat.le_of_ble_eq_true rfl) ?_
      refine z_aload_n hE d_Od_init_78 rfl ?_
      refine z_iconst (v := 0) hE d_Od_init_79 (by decide) ?_
      refine z_put hE d_Od_init_80 fl_Od_40 ct_Od ff_Od_5 (gS_s) rfl rfl (Nat.le_of_ble_eq_true rfl) ?_
      refine z_vret hE hQ d_Od_init_83 rfl (by omega) (by omega) ⟨rfl, by omega, ⟨gS_s, ⟨fun _ => none, ?_, fun _ _ => rfl⟩, ⟨ro, ?_, hro⟩, fun r hr => ?_, ⟨v, ?_⟩, ⟨w, ?_⟩⟩, fun q hq => ?_⟩
      · rw [gS_n (by omega), gS_n (by omega), gS_n (by omega), x2 _ (by omega) (by omega)]; exact e1
      · rw [gS_n (by omega), gS_n (by omega), gS_n (by omega), x2 _ (by omega) (by omega)]; exact e2
      · exact RO_E (hR r hr) (fun q a b => by rw [gS_n (by omega), gS_n (by omega), gS_n (by omega), x2 q (by omega) (by omega)])
      · have T0 : ∀ q, O + 11 ≤ q → q < O + 36 → g_2 q = g_1 q := fun q a b => by rw [W2 q (by omega), gS_n (by omega), gS_n (by omega)]
        refine ⟨?_, ?_, ?_, fun j hj => ?_⟩
        · unfold RE; rw [gS_n (by omega), gS_n (by omega), gS_n (by omega), T0 _ (by omega) (by omega)]; exact R1.1
        · unfold DV; rw [gS_n (by omega), gS_n (by omega), gS_n (by omega), T0 _ (by omega) (by omega)]; exact R1.2.1
        · rw [gS_n (by omega), gS_n (by omega), gS_n (by omega), T0 _ (by omega) (by omega)]; exact R1.2.2.1
        · have b := kL_b j hj
          obtain ⟨n, d, q1, q2, q3⟩ := R1.2.2.2 j hj
          exact ⟨n, d, ⟨by rw [gS_n (by omega), gS_n (by omega), gS_n (by omega), T0 _ (by omega) (by omega)]; exact q1.1, by rw [gS_n (by omega), gS_n (by omega), gS_n (by omega), T0 _ (by omega) (by omega)]; exact q1.2.1, q1.2.2⟩, q2, q3⟩
      · exact TV_W (TV_W (TV_W T2 (gW_S (Nat.le_refl O) (Nat.lt_succ_self O)) (by omega)) (gW_S (Nat.le_refl O) (Nat.lt_succ_self O)) (by omega)) (gW_S (Nat.le_refl O) (Nat.lt_succ_self O)) (by omega)
      · rw [gS_n (by omega), gS_n (by omega), gS_n (by omega), W2 q (by omega), gS_n (by omega), gS_n (by omega), W1 q (by omega), gS_n (by omega)]; exact W q (by omega)
    | succ u ih =>
      intro k g' n' c s ro hu hn hc hs W e0 e1 e2 hro hR lv l0 l1
      refine z_sub (lv' := [(0, .ref O), (1, .int (nI k))]) (by simp only [List.map, l0, l1]) ?_
      refine z_iload_n hE d_Od_init_23 rfl ?_
      refine z_aload_n hE d_Od_init_24 rfl ?_
      refine z_get hE d_Od_init_25 fl_Od_17 (by assumption) rfl ?_
      refine z_alen hE d_Od_init_28 (by assumption) (by decide) (rfl) ?_
      refine z_icmp_ge (tgt := 51) hE d_Od_init_29 (by decide) (fun c_ => absurd c_ (fun z => absurd ((nI_LE (by omega) (by omega)).mp z) (by omega))) (fun _ => ?_)
      refine z_aload_n hE d_Od_init_32 rfl ?_
      refine z_get hE d_Od_init_33 fl_Od_17 (by assumption) rfl ?_
      refine z_iload_n hE d_Od_init_36 rfl ?_
      refine z_new (fs := [.null, .int 0]) hE d_Od_init_37 ct_Ro rfl kl_Od_15 is_Ro it_Ro (by decide) (by omega) (by omega) ?_
      refine z_dup hE d_Od_init_40 rfl ?_
      refine z_callI hE d_Od_init_41 cl_Od_21 (c_Ro_init l rfl gS_s) rfl (Nat.le_of_ble_eq_true rfl) ⟨by decide, by decide⟩ ⟨by omega, by omega⟩ (fun r_1 g_1 nx_1 hp_1 => ?_) rfl
      try dsimp only [Option.toList, List.nil_append, List.cons_append]
      obtain ⟨rfl, rfl, R1, W1⟩ := hp_1
      try dsimp only [Option.toList, List.nil_append, List.cons_append]
      have x1 : ∀ q, q < n' → g_1 q = g' q := fun q hq => by rw [W1 q (by omega), gS_n (by omega)]
      have f2 : g_1 (O + 2) = some (.inl (4, 4, .inr (.inr (.inr (.inr ro))))) := (x1 _ (by omega)).trans e2
      refine z_aast hE d_Od_init_44 (f2) (by decide) (R1.1) (nI_in' (by omega : k < 4) (by omega)) ?_
      rw [nI_cl (by omega)]
      refine z_iinc (v := nI (k + 1)) hE d_Od_init_45 rfl (nI_1 k) (by decide) ?_
      refine z_goto (tgt := 23) hE d_Od_init_48 (by decide) ?_
      refine ih (k + 1) _ _ _ _ _ (by omega) (by omega) (by omega) (by omega) (fun q hq => ?_) ?_ ?_ gS_s (fun j hj => ?_) (fun r hr => ?_) _ rfl rfl
      · rw [gS_n (by omega), W1 q (by omega), gS_n (by omega)]; exact W q hq
      · rw [gS_n (by omega), x1 _ (by omega)]; exact e0
      · rw [gS_n (by omega), x1 _ (by omega)]; exact e1
      · unfold va_up
        by_cases hjk : j = k
        · rw [if_pos hjk, hjk, hn]
        · rw [if_neg hjk]; exact hro j (by omega)
      · by_cases hrk : r = k
        · rw [hrk, ← hn]; exact RO_E R1 (fun q a b => gS_n (by omega))
        · exact RO_E (hR r (by omega)) (fun q a b => by rw [gS_n (by omega), x1 q (by omega)])
  refine z_aload_n hE d_Od_init_0 rfl ?_
  refine z_objInit hE d_Od_init_1 ol_Od_1 ol_i ol_c (by decide) (Nat.le_of_ble_eq_true rfl) ?_
  refine z_aload_n hE d_Od_init_4 rfl ?_
  refine z_bipush (v := 16) hE d_Od_init_5 (by decide) ?_
  refine z_anew (N := 16) (t := 3) hE d_Od_init_7 kl_Od_9 (by decide) (by decide) (by decide) (by decide) (by decide) (by omega) (by omega) ?_
  refine z_putF hE d_Od_init_10 fl_Od_11 ct_Od ff_Od_0 rfl ⟨_, _, _, rfl, rfl⟩ (by rw [gS_n (by omega)]; exact h) rfl rfl (Nat.le_of_ble_eq_true rfl) ?_
  refine z_aload_n hE d_Od_init_13 rfl ?_
  refine z_iconst (v := 4) hE d_Od_init_14 (by decide) ?_
  refine z_anew (N := 4) (t := 4) hE d_Od_init_15 kl_Od_15 (by decide) (by decide) (by decide) (by decide) (by decide) (by omega) (by omega) ?_
  refine z_putF hE d_Od_init_18 fl_Od_17 ct_Od ff_Od_1 rfl ⟨_, _, _, rfl, rfl⟩ (by rw [gS_n (by omega)]; exact gS_s) rfl rfl (Nat.le_of_ble_eq_true rfl) ?_
  refine z_iconst (v := nI 0) hE d_Od_init_21 (by decide) ?_
  refine z_istore_n hE d_Od_init_22 rfl (by decide) ?_
  refine loop 4 0 _ _ _ _ (fun _ => none) (by omega) (by omega) (by omega) (by omega) (fun q hq => ?_) gS_s ?_ ?_ (fun j hj => by omega) (fun r hr => by omega) _ rfl rfl
  · rw [gS_n (by omega), gS_n (by omega), gS_n (by omega), gS_n (by omega)]
  · rw [gS_n (by omega), gS_n (by omega), gS_n (by omega)]; exact gS_s
  · rw [gS_n (by omega)]; exact gS_s
theorem c_Mo_init (l : Launch) {g : Gh} {nx P : Nat} (hnx : nx = P + 1) (h : g P = some (.inr (7, [.null, .null, .null, .null, .null, .int 0, .int 0, .null, .null, .int 0, .null, .null, .null, .null, .null, .null]))) : Ct l m_Mo_init 13 2424 [.ref P] g nx (fun r g' nx' => r = none ∧ nx' = P + 14 ∧ MW g' P S0 ∧ gW g g' P (P + 14)) := by
  subst hnx
  refine Ct.of (by decide) (Nat.le_of_ble_eq_true rfl) (fun E hE hQ => ?_)
  refine z_aload_n hE d_Mo_init_0 rfl ?_
  refine z_objInit hE d_Mo_init_1 ol_Mo_1 ol_i ol_c (by decide) (Nat.le_of_ble_eq_true rfl) ?_
  refine z_aload_n hE d_Mo_init_4 rfl ?_
  refine z_bipush (v := 58) hE d_Mo_init_5 (by decide) ?_
  refine z_newaz (N := 58) hE d_Mo_init_7 ac_boolean (by decide) (by decide) (by decide) (by omega) (by omega) ?_
  refine z_putF hE d_Mo_init_9 fl_Mo_7 ct_Mo ff_Mo_0 rfl ⟨_, _, _, rfl, rfl⟩ (by rw [gS_n (by omega)]; exact h) rfl rfl (Nat.le_of_ble_eq_true rfl) ?_
  obtain ⟨a1, ha1⟩ : ∃ a1 : Gh, a1 = gS (gS g (P + 1) (.inl (2, (58, .inl (fun _ => 0))) : gE)) P (.inr (7, [.ref (P + 1), .null, .null, .null, .null, .int 0, .int 0, .null, .null, .int 0, .null, .null, .null, .null, .null, .null])) := ⟨_, rfl⟩
  have h1 : a1 P = some (.inr (7, [.ref (P + 1), .null, .null, .null, .null, .int 0, .int 0, .null, .null, .int 0, .null, .null, .null, .null, .null, .null])) := by rw [ha1]; exact gS_s
  have y1 : a1 (P + 1) = some (.inl (2, (58, .inl (fun _ => 0))) : gE) := by rw [ha1, gS_n (by omega)]; exact gS_s
  have x1 : ∀ q, q ≠ P → q ≠ P + 1 → a1 q = g q := fun q z1 z2 => by rw [ha1, gS_n z1, gS_n z2]
  show zJ E (gS (gS g (P + 1) (.inl (2, (58, .inl (fun _ => 0))) : gE)) P (.inr (7, [.ref (P + 1), .null, .null, .null, .null, .int 0, .int 0, .null, .null, .int 0, .null, .null, .null, .null, .null, .null]))) _ _ _ 12 _ []
  rw [← ha1]
  refine z_aload_n hE d_Mo_init_12 rfl ?_
  refine z_bipush (v := 58) hE d_Mo_init_13 (by decide) ?_
  refine z_newai (N := 58) hE d_Mo_init_15 ac_int (by decide) (by decide) (by decide) (by omega) (by omega) ?_
  refine z_putF hE d_Mo_init_17 fl_Mo_13 ct_Mo ff_Mo_1 rfl ⟨_, _, _, rfl, rfl⟩ (by rw [gS_n (by omega)]; exact h1) rfl rfl (Nat.le_of_ble_eq_true rfl) ?_
  obtain ⟨a2, ha2⟩ : ∃ a2 : Gh, a2 = gS (gS a1 (P + 2) (.inl (1, (58, .inl (fun _ => 0))) : gE)) P (.inr (7, [.ref (P + 1), .ref (P + 2), .null, .null, .null, .int 0, .int 0, .null, .null, .int 0, .null, .null, .null, .null, .null, .null])) := ⟨_, rfl⟩
  have h2 : a2 P = some (.inr (7, [.ref (P + 1), .ref (P + 2), .null, .null, .null, .int 0, .int 0, .null, .null, .int 0, .null, .null, .null, .null, .null, .null])) := by rw [ha2]; exact gS_s
  have y2 : a2 (P + 2) = some (.inl (1, (58, .inl (fun _ => 0))) : gE) := by rw [ha2, gS_n (by omega)]; exact gS_s
  have x2 : ∀ q, q ≠ P → q ≠ P + 2 → a2 q = a1 q := fun q z1 z2 => by rw [ha2, gS_n z1, gS_n z2]
  show zJ E (gS (gS a1 (P + 2) (.inl (1, (58, .inl (fun _ => 0))) : gE)) P (.inr (7, [.ref (P + 1), .ref (P + 2), .null, .null, .null, .int 0, .int 0, .null, .null, .int 0, .null, .null, .null, .null, .null, .null]))) _ _ _ 20 _ []
  rw [← ha2]
  refine z_aload_n hE d_Mo_init_20 rfl ?_
  refine z_sipush (v := 928) hE d_Mo_init_21 (by decide) ?_
  refine z_newai (N := 928) hE d_Mo_init_24 ac_int (by decide) (by decide) (by decide) (by omega) (by omega) ?_
  refine z_putF hE d_Mo_init_26 fl_Mo_17 ct_Mo ff_Mo_2 rfl ⟨_, _, _, rfl, rfl⟩ (by rw [gS_n (by omega)]; exact h2) rfl rfl (Nat.le_of_ble_eq_true rfl) ?_
  obtain ⟨a3, ha3⟩ : ∃ a3 : Gh, a3 = gS (gS a2 (P + 3) (.inl (1, (928, .inl (fun _ => 0))) : gE)) P (.inr (7, [.ref (P + 1), .ref (P + 2), .ref (P + 3), .null, .null, .int 0, .int 0, .null, .null, .int 0, .null, .null, .null, .null, .null, .null])) := ⟨_, rfl⟩
  have h3 : a3 P = some (.inr (7, [.ref (P + 1), .ref (P + 2), .ref (P + 3), .null, .null, .int 0, .int 0, .null, .null, .int 0, .null, .null, .null, .null, .null, .null])) := by rw [ha3]; exact gS_s
  have y3 : a3 (P + 3) = some (.inl (1, (928, .inl (fun _ => 0))) : gE) := by rw [ha3, gS_n (by omega)]; exact gS_s
  have x3 : ∀ q, q ≠ P → q ≠ P + 3 → a3 q = a2 q := fun q z1 z2 => by rw [ha3, gS_n z1, gS_n z2]
  show zJ E (gS (gS a2 (P + 3) (.inl (1, (928, .inl (fun _ => 0))) : gE)) P (.inr (7, [.ref (P + 1), .ref (P + 2), .ref (P + 3), .null, .null, .int 0, .int 0, .null, .null, .int 0, .null, .null, .null, .null, .null, .null]))) _ _ _ 29 _ []
  rw [← ha3]
  refine z_aload_n hE d_Mo_init_29 rfl ?_
  refine z_sipush (v := 928) hE d_Mo_init_30 (by decide) ?_
  refine z_newai (N := 928) hE d_Mo_init_33 ac_int (by decide) (by decide) (by decide) (by omega) (by omega) ?_
  refine z_putF hE d_Mo_init_35 fl_Mo_20 ct_Mo ff_Mo_3 rfl ⟨_, _, _, rfl, rfl⟩ (by rw [gS_n (by omega)]; exact h3) rfl rfl (Nat.le_of_ble_eq_true rfl) ?_
  obtain ⟨a4, ha4⟩ : ∃ a4 : Gh, a4 = gS (gS a3 (P + 4) (.inl (1, (928, .inl (fun _ => 0))) : gE)) P (.inr (7, [.ref (P + 1), .ref (P + 2), .ref (P + 3), .ref (P + 4), .null, .int 0, .int 0, .null, .null, .int 0, .null, .null, .null, .null, .null, .null])) := ⟨_, rfl⟩
  have h4 : a4 P = some (.inr (7, [.ref (P + 1), .ref (P + 2), .ref (P + 3), .ref (P + 4), .null, .int 0, .int 0, .null, .null, .int 0, .null, .null, .null, .null, .null, .null])) := by rw [ha4]; exact gS_s
  have y4 : a4 (P + 4) = some (.inl (1, (928, .inl (fun _ => 0))) : gE) := by rw [ha4, gS_n (by omega)]; exact gS_s
  have x4 : ∀ q, q ≠ P → q ≠ P + 4 → a4 q = a3 q := fun q z1 z2 => by rw [ha4, gS_n z1, gS_n z2]
  show zJ E (gS (gS a3 (P + 4) (.inl (1, (928, .inl (fun _ => 0))) : gE)) P (.inr (7, [.ref (P + 1), .ref (P + 2), .ref (P + 3), .ref (P + 4), .null, .int 0, .int 0, .null, .null, .int 0, .null, .null, .null, .null, .null, .null]))) _ _ _ 38 _ []
  rw [← ha4]
  refine z_aload_n hE d_Mo_init_38 rfl ?_
  refine z_iconst (v := 4) hE d_Mo_init_39 (by decide) ?_
  refine z_newai (N := 4) hE d_Mo_init_40 ac_int (by decide) (by decide) (by decide) (by omega) (by omega) ?_
  refine z_putF hE d_Mo_init_42 fl_Mo_23 ct_Mo ff_Mo_4 rfl ⟨_, _, _, rfl, rfl⟩ (by rw [gS_n (by omega)]; exact h4) rfl rfl (Nat.le_of_ble_eq_true rfl) ?_
  obtain ⟨a5, ha5⟩ : ∃ a5 : Gh, a5 = gS (gS a4 (P + 5) (.inl (1, (4, .inl (fun _ => 0))) : gE)) P (.inr (7, [.ref (P + 1), .ref (P + 2), .ref (P + 3), .ref (P + 4), .ref (P + 5), .int 0, .int 0, .null, .null, .int 0, .null, .null, .null, .null, .null, .null])) := ⟨_, rfl⟩
  have h5 : a5 P = some (.inr (7, [.ref (P + 1), .ref (P + 2), .ref (P + 3), .ref (P + 4), .ref (P + 5), .int 0, .int 0, .null, .null, .int 0, .null, .null, .null, .null, .null, .null])) := by rw [ha5]; exact gS_s
  have y5 : a5 (P + 5) = some (.inl (1, (4, .inl (fun _ => 0))) : gE) := by rw [ha5, gS_n (by omega)]; exact gS_s
  have x5 : ∀ q, q ≠ P → q ≠ P + 5 → a5 q = a4 q := fun q z1 z2 => by rw [ha5, gS_n z1, gS_n z2]
  show zJ E (gS (gS a4 (P + 5) (.inl (1, (4, .inl (fun _ => 0))) : gE)) P (.inr (7, [.ref (P + 1), .ref (P + 2), .ref (P + 3), .ref (P + 4), .ref (P + 5), .int 0, .int 0, .null, .null, .int 0, .null, .null, .null, .null, .null, .null]))) _ _ _ 45 _ []
  rw [← ha5]
  refine z_aload_n hE d_Mo_init_45 rfl ?_
  refine z_bipush (v := 56) hE d_Mo_init_46 (by decide) ?_
  refine z_newai (N := 56) hE d_Mo_init_48 ac_int (by decide) (by decide) (by decide) (by omega) (by omega) ?_
  refine z_putF hE d_Mo_init_50 fl_Mo_26 ct_Mo ff_Mo_7 rfl ⟨_, _, _, rfl, rfl⟩ (by rw [gS_n (by omega)]; exact h5) rfl rfl (Nat.le_of_ble_eq_true rfl) ?_
  obtain ⟨a6, ha6⟩ : ∃ a6 : Gh, a6 = gS (gS a5 (P + 6) (.inl (1, (56, .inl (fun _ => 0))) : gE)) P (.inr (7, [.ref (P + 1), .ref (P + 2), .ref (P + 3), .ref (P + 4), .ref (P + 5), .int 0, .int 0, .ref (P + 6), .null, .int 0, .null, .null, .null, .null, .null, .null])) := ⟨_, rfl⟩
  have h6 : a6 P = some (.inr (7, [.ref (P + 1), .ref (P + 2), .ref (P + 3), .ref (P + 4), .ref (P + 5), .int 0, .int 0, .ref (P + 6), .null, .int 0, .null, .null, .null, .null, .null, .null])) := by rw [ha6]; exact gS_s
  have y6 : a6 (P + 6) = some (.inl (1, (56, .inl (fun _ => 0))) : gE) := by rw [ha6, gS_n (by omega)]; exact gS_s
  have x6 : ∀ q, q ≠ P → q ≠ P + 6 → a6 q = a5 q := fun q z1 z2 => by rw [ha6, gS_n z1, gS_n z2]
  show zJ E (gS (gS a5 (P + 6) (.inl (1, (56, .inl (fun _ => 0))) : gE)) P (.inr (7, [.ref (P + 1), .ref (P + 2), .ref (P + 3), .ref (P + 4), .ref (P + 5), .int 0, .int 0, .ref (P + 6), .null, .int 0, .null, .null, .null, .null, .null, .null]))) _ _ _ 53 _ []
  rw [← ha6]
  refine z_aload_n hE d_Mo_init_53 rfl ?_
  refine z_bipush (v := 56) hE d_Mo_init_54 (by decide) ?_
  refine z_newai (N := 56) hE d_Mo_init_56 ac_int (by decide) (by decide) (by decide) (by omega) (by omega) ?_
  refine z_putF hE d_Mo_init_58 fl_Mo_29 ct_Mo ff_Mo_8 rfl ⟨_, _, _, rfl, rfl⟩ (by rw [gS_n (by omega)]; exact h6) rfl rfl (Nat.le_of_ble_eq_true rfl) ?_
  obtain ⟨a7, ha7⟩ : ∃ a7 : Gh, a7 = gS (gS a6 (P + 7) (.inl (1, (56, .inl (fun _ => 0))) : gE)) P (.inr (7, [.ref (P + 1), .ref (P + 2), .ref (P + 3), .ref (P + 4), .ref (P + 5), .int 0, .int 0, .ref (P + 6), .ref (P + 7), .int 0, .null, .null, .null, .null, .null, .null])) := ⟨_, rfl⟩
  have h7 : a7 P = some (.inr (7, [.ref (P + 1), .ref (P + 2), .ref (P + 3), .ref (P + 4), .ref (P + 5), .int 0, .int 0, .ref (P + 6), .ref (P + 7), .int 0, .null, .null, .null, .null, .null, .null])) := by rw [ha7]; exact gS_s
  have y7 : a7 (P + 7) = some (.inl (1, (56, .inl (fun _ => 0))) : gE) := by rw [ha7, gS_n (by omega)]; exact gS_s
  have x7 : ∀ q, q ≠ P → q ≠ P + 7 → a7 q = a6 q := fun q z1 z2 => by rw [ha7, gS_n z1, gS_n z2]
  show zJ E (gS (gS a6 (P + 7) (.inl (1, (56, .inl (fun _ => 0))) : gE)) P (.inr (7, [.ref (P + 1), .ref (P + 2), .ref (P + 3), .ref (P + 4), .ref (P + 5), .int 0, .int 0, .ref (P + 6), .ref (P + 7), .int 0, .null, .null, .null, .null, .null, .null]))) _ _ _ 61 _ []
  rw [← ha7]
  refine z_aload_n hE d_Mo_init_61 rfl ?_
  refine z_bipush (v := 56) hE d_Mo_init_62 (by decide) ?_
  refine z_newai (N := 56) hE d_Mo_init_64 ac_int (by decide) (by decide) (by decide) (by omega) (by omega) ?_
  refine z_putF hE d_Mo_init_66 fl_Mo_32 ct_Mo ff_Mo_10 rfl ⟨_, _, _, rfl, rfl⟩ (by rw [gS_n (by omega)]; exact h7) rfl rfl (Nat.le_of_ble_eq_true rfl) ?_
  obtain ⟨a8, ha8⟩ : ∃ a8 : Gh, a8 = gS (gS a7 (P + 8) (.inl (1, (56, .inl (fun _ => 0))) : gE)) P (.inr (7, [.ref (P + 1), .ref (P + 2), .ref (P + 3), .ref (P + 4), .ref (P + 5), .int 0, .int 0, .ref (P + 6), .ref (P + 7), .int 0, .ref (P + 8), .null, .null, .null, .null, .null])) := ⟨_, rfl⟩
  have h8 : a8 P = some (.inr (7, [.ref (P + 1), .ref (P + 2), .ref (P + 3), .ref (P + 4), .ref (P + 5), .int 0, .int 0, .ref (P + 6), .ref (P + 7), .int 0, .ref (P + 8), .null, .null, .null, .null, .null])) := by rw [ha8]; exact gS_s
  have y8 : a8 (P + 8) = some (.inl (1, (56, .inl (fun _ => 0))) : gE) := by rw [ha8, gS_n (by omega)]; exact gS_s
  have x8 : ∀ q, q ≠ P → q ≠ P + 8 → a8 q = a7 q := fun q z1 z2 => by rw [ha8, gS_n z1, gS_n z2]
  show zJ E (gS (gS a7 (P + 8) (.inl (1, (56, .inl (fun _ => 0))) : gE)) P (.inr (7, [.ref (P + 1), .ref (P + 2), .ref (P + 3), .ref (P + 4), .ref (P + 5), .int 0, .int 0, .ref (P + 6), .ref (P + 7), .int 0, .ref (P + 8), .null, .null, .null, .null, .null]))) _ _ _ 69 _ []
  rw [← ha8]
  refine z_aload_n hE d_Mo_init_69 rfl ?_
  refine z_bipush (v := 56) hE d_Mo_init_70 (by decide) ?_
  refine z_newai (N := 56) hE d_Mo_init_72 ac_int (by decide) (by decide) (by decide) (by omega) (by omega) ?_
  refine z_putF hE d_Mo_init_74 fl_Mo_35 ct_Mo ff_Mo_11 rfl ⟨_, _, _, rfl, rfl⟩ (by rw [gS_n (by omega)]; exact h8) rfl rfl (Nat.le_of_ble_eq_true rfl) ?_
  obtain ⟨a9, ha9⟩ : ∃ a9 : Gh, a9 = gS (gS a8 (P + 9) (.inl (1, (56, .inl (fun _ => 0))) : gE)) P (.inr (7, [.ref (P + 1), .ref (P + 2), .ref (P + 3), .ref (P + 4), .ref (P + 5), .int 0, .int 0, .ref (P + 6), .ref (P + 7), .int 0, .ref (P + 8), .ref (P + 9), .null, .null, .null, .null])) := ⟨_, rfl⟩
  have h9 : a9 P = some (.inr (7, [.ref (P + 1), .ref (P + 2), .ref (P + 3), .ref (P + 4), .ref (P + 5), .int 0, .int 0, .ref (P + 6), .ref (P + 7), .int 0, .ref (P + 8), .ref (P + 9), .null, .null, .null, .null])) := by rw [ha9]; exact gS_s
  have y9 : a9 (P + 9) = some (.inl (1, (56, .inl (fun _ => 0))) : gE) := by rw [ha9, gS_n (by omega)]; exact gS_s
  have x9 : ∀ q, q ≠ P → q ≠ P + 9 → a9 q = a8 q := fun q z1 z2 => by rw [ha9, gS_n z1, gS_n z2]
  show zJ E (gS (gS a8 (P + 9) (.inl (1, (56, .inl (fun _ => 0))) : gE)) P (.inr (7, [.ref (P + 1), .ref (P + 2), .ref (P + 3), .ref (P + 4), .ref (P + 5), .int 0, .int 0, .ref (P + 6), .ref (P + 7), .int 0, .ref (P + 8), .ref (P + 9), .null, .null, .null, .null]))) _ _ _ 77 _ []
  rw [← ha9]
  refine z_aload_n hE d_Mo_init_77 rfl ?_
  refine z_bipush (v := 56) hE d_Mo_init_78 (by decide) ?_
  refine z_newai (N := 56) hE d_Mo_init_80 ac_int (by decide) (by decide) (by decide) (by omega) (by omega) ?_
  refine z_putF hE d_Mo_init_82 fl_Mo_38 ct_Mo ff_Mo_12 rfl ⟨_, _, _, rfl, rfl⟩ (by rw [gS_n (by omega)]; exact h9) rfl rfl (Nat.le_of_ble_eq_true rfl) ?_
  obtain ⟨a10, ha10⟩ : ∃ a10 : Gh, a10 = gS (gS a9 (P + 10) (.inl (1, (56, .inl (fun _ => 0))) : gE)) P (.inr (7, [.ref (P + 1), .ref (P + 2), .ref (P + 3), .ref (P + 4), .ref (P + 5), .int 0, .int 0, .ref (P + 6), .ref (P + 7), .int 0, .ref (P + 8), .ref (P + 9), .ref (P + 10), .null, .null, .null])) := ⟨_, rfl⟩
  have h10 : a10 P = some (.inr (7, [.ref (P + 1), .ref (P + 2), .ref (P + 3), .ref (P + 4), .ref (P + 5), .int 0, .int 0, .ref (P + 6), .ref (P + 7), .int 0, .ref (P + 8), .ref (P + 9), .ref (P + 10), .null, .null, .null])) := by rw [ha10]; exact gS_s
  have y10 : a10 (P + 10) = some (.inl (1, (56, .inl (fun _ => 0))) : gE) := by rw [ha10, gS_n (by omega)]; exact gS_s
  have x10 : ∀ q, q ≠ P → q ≠ P + 10 → a10 q = a9 q := fun q z1 z2 => by rw [ha10, gS_n z1, gS_n z2]
  show zJ E (gS (gS a9 (P + 10) (.inl (1, (56, .inl (fun _ => 0))) : gE)) P (.inr (7, [.ref (P + 1), .ref (P + 2), .ref (P + 3), .ref (P + 4), .ref (P + 5), .int 0, .int 0, .ref (P + 6), .ref (P + 7), .int 0, .ref (P + 8), .ref (P + 9), .ref (P + 10), .null, .null, .null]))) _ _ _ 85 _ []
  rw [← ha10]
  refine z_aload_n hE d_Mo_init_85 rfl ?_
  refine z_bipush (v := 56) hE d_Mo_init_86 (by decide) ?_
  refine z_newai (N := 56) hE d_Mo_init_88 ac_int (by decide) (by decide) (by decide) (by omega) (by omega) ?_
  refine z_putF hE d_Mo_init_90 fl_Mo_41 ct_Mo ff_Mo_13 rfl ⟨_, _, _, rfl, rfl⟩ (by rw [gS_n (by omega)]; exact h10) rfl rfl (Nat.le_of_ble_eq_true rfl) ?_
  obtain ⟨a11, ha11⟩ : ∃ a11 : Gh, a11 = gS (gS a10 (P + 11) (.inl (1, (56, .inl (fun _ => 0))) : gE)) P (.inr (7, [.ref (P + 1), .ref (P + 2), .ref (P + 3), .ref (P + 4), .ref (P + 5), .int 0, .int 0, .ref (P + 6), .ref (P + 7), .int 0, .ref (P + 8), .ref (P + 9), .ref (P + 10), .ref (P + 11), .null, .null])) := ⟨_, rfl⟩
  have h11 : a11 P = some (.inr (7, [.ref (P + 1), .ref (P + 2), .ref (P + 3), .ref (P + 4), .ref (P + 5), .int 0, .int 0, .ref (P + 6), .ref (P + 7), .int 0, .ref (P + 8), .ref (P + 9), .ref (P + 10), .ref (P + 11), .null, .null])) := by rw [ha11]; exact gS_s
  have y11 : a11 (P + 11) = some (.inl (1, (56, .inl (fun _ => 0))) : gE) := by rw [ha11, gS_n (by omega)]; exact gS_s
  have x11 : ∀ q, q ≠ P → q ≠ P + 11 → a11 q = a10 q := fun q z1 z2 => by rw [ha11, gS_n z1, gS_n z2]
  show zJ E (gS (gS a10 (P + 11) (.inl (1, (56, .inl (fun _ => 0))) : gE)) P (.inr (7, [.ref (P + 1), .ref (P + 2), .ref (P + 3), .ref (P + 4), .ref (P + 5), .int 0, .int 0, .ref (P + 6), .ref (P + 7), .int 0, .ref (P + 8), .ref (P + 9), .ref (P + 10), .ref (P + 11), .null, .null]))) _ _ _ 93 _ []
  rw [← ha11]
  refine z_aload_n hE d_Mo_init_93 rfl ?_
  refine z_bipush (v := 56) hE d_Mo_init_94 (by decide) ?_
  refine z_newai (N := 56) hE d_Mo_init_96 ac_int (by decide) (by decide) (by decide) (by omega) (by omega) ?_
  refine z_putF hE d_Mo_init_98 fl_Mo_44 ct_Mo ff_Mo_14 rfl ⟨_, _, _, rfl, rfl⟩ (by rw [gS_n (by omega)]; exact h11) rfl rfl (Nat.le_of_ble_eq_true rfl) ?_
  obtain ⟨a12, ha12⟩ : ∃ a12 : Gh, a12 = gS (gS a11 (P + 12) (.inl (1, (56, .inl (fun _ => 0))) : gE)) P (.inr (7, [.ref (P + 1), .ref (P + 2), .ref (P + 3), .ref (P + 4), .ref (P + 5), .int 0, .int 0, .ref (P + 6), .ref (P + 7), .int 0, .ref (P + 8), .ref (P + 9), .ref (P + 10), .ref (P + 11), .ref (P + 12), .null])) := ⟨_, rfl⟩
  have h12 : a12 P = some (.inr (7, [.ref (P + 1), .ref (P + 2), .ref (P + 3), .ref (P + 4), .ref (P + 5), .int 0, .int 0, .ref (P + 6), .ref (P + 7), .int 0, .ref (P + 8), .ref (P + 9), .ref (P + 10), .ref (P + 11), .ref (P + 12), .null])) := by rw [ha12]; exact gS_s
  have y12 : a12 (P + 12) = some (.inl (1, (56, .inl (fun _ => 0))) : gE) := by rw [ha12, gS_n (by omega)]; exact gS_s
  have x12 : ∀ q, q ≠ P → q ≠ P + 12 → a12 q = a11 q := fun q z1 z2 => by rw [ha12, gS_n z1, gS_n z2]
  show zJ E (gS (gS a11 (P + 12) (.inl (1, (56, .inl (fun _ => 0))) : gE)) P (.inr (7, [.ref (P + 1), .ref (P + 2), .ref (P + 3), .ref (P + 4), .ref (P + 5), .int 0, .int 0, .ref (P + 6), .ref (P + 7), .int 0, .ref (P + 8), .ref (P + 9), .ref (P + 10), .ref (P + 11), .ref (P + 12), .null]))) _ _ _ 101 _ []
  rw [← ha12]
  refine z_aload_n hE d_Mo_init_101 rfl ?_
  refine z_bipush (v := 56) hE d_Mo_init_102 (by decide) ?_
  refine z_newai (N := 56) hE d_Mo_init_104 ac_int (by decide) (by decide) (by decide) (by omega) (by omega) ?_
  refine z_putF hE d_Mo_init_106 fl_Mo_47 ct_Mo ff_Mo_15 rfl ⟨_, _, _, rfl, rfl⟩ (by rw [gS_n (by omega)]; exact h12) rfl rfl (Nat.le_of_ble_eq_true rfl) ?_
  obtain ⟨a13, ha13⟩ : ∃ a13 : Gh, a13 = gS (gS a12 (P + 13) (.inl (1, (56, .inl (fun _ => 0))) : gE)) P (.inr (7, [.ref (P + 1), .ref (P + 2), .ref (P + 3), .ref (P + 4), .ref (P + 5), .int 0, .int 0, .ref (P + 6), .ref (P + 7), .int 0, .ref (P + 8), .ref (P + 9), .ref (P + 10), .ref (P + 11), .ref (P + 12), .ref (P + 13)])) := ⟨_, rfl⟩
  have h13 : a13 P = some (.inr (7, [.ref (P + 1), .ref (P + 2), .ref (P + 3), .ref (P + 4), .ref (P + 5), .int 0, .int 0, .ref (P + 6), .ref (P + 7), .int 0, .ref (P + 8), .ref (P + 9), .ref (P + 10), .ref (P + 11), .ref (P + 12), .ref (P + 13)])) := by rw [ha13]; exact gS_s
  have y13 : a13 (P + 13) = some (.inl (1, (56, .inl (fun _ => 0))) : gE) := by rw [ha13, gS_n (by omega)]; exact gS_s
  have x13 : ∀ q, q ≠ P → q ≠ P + 13 → a13 q = a12 q := fun q z1 z2 => by rw [ha13, gS_n z1, gS_n z2]
  show zJ E (gS (gS a12 (P + 13) (.inl (1, (56, .inl (fun _ => 0))) : gE)) P (.inr (7, [.ref (P + 1), .ref (P + 2), .ref (P + 3), .ref (P + 4), .ref (P + 5), .int 0, .int 0, .ref (P + 6), .ref (P + 7), .int 0, .ref (P + 8), .ref (P + 9), .ref (P + 10), .ref (P + 11), .ref (P + 12), .ref (P + 13)]))) _ _ _ 109 _ []
  rw [← ha13]
  have fin : ∀ (g' : Gh) (rm : Nat → Int32) n' c s lv, n' = P + 14 → c ≤ 13 → s ≤ 2424 → g1 a13 g' (P + 5) → g' (P + 5) = some (.inl (1, 4, .inl rm)) → (∀ r, r < 4 → rm r = -1) → zJ E g' n' c s 129 lv [] := by
    intro g' rm n' c s lv hn hc hs X hrm hrm'
    subst hn
    refine z_vret hE hQ d_Mo_init_129 rfl hc hs ⟨rfl, rfl, ⟨fun _ => none, fun _ => 0, 0, ⟨(X P (by omega)).trans h13, ⟨fun _ => 0, ?_, fun j hj => rfl⟩, ⟨fun _ => 0, fun _ => 0, fun _ => 0, ?_, ?_, ?_, fun _ => (by decide : (0 : Nat) < 65536), fun _ => (by decide : (0 : Nat) < 65536), fun j hj q hq => by cases hq⟩, ⟨rm, hrm, hrm'⟩, fun k k1 k2 => ?_⟩, fun k hk => rfl, fun r hr k hk => rfl⟩, fun q hq => ?_⟩
    · rw [X _ (by omega), x13 _ (by omega) (by omega), x12 _ (by omega) (by omega), x11 _ (by omega) (by omega), x10 _ (by omega) (by omega), x9 _ (by omega) (by omega), x8 _ (by omega) (by omega), x7 _ (by omega) (by omega), x6 _ (by omega) (by omega), x5 _ (by omega) (by omega), x4 _ (by omega) (by omega), x3 _ (by omega) (by omega), x2 _ (by omega) (by omega)]; exact y1
    · rw [X _ (by omega), x13 _ (by omega) (by omega), x12 _ (by omega) (by omega), x11 _ (by omega) (by omega), x10 _ (by omega) (by omega), x9 _ (by omega) (by omega), x8 _ (by omega) (by omega), x7 _ (by omega) (by omega), x6 _ (by omega) (by omega), x5 _ (by omega) (by omega), x4 _ (by omega) (by omega), x3 _ (by omega) (by omega)]; exact y2
    · rw [X _ (by omega), x13 _ (by omega) (by omega), x12 _ (by omega) (by omega), x11 _ (by omega) (by omega), x10 _ (by omega) (by omega), x9 _ (by omega) (by omega), x8 _ (by omega) (by omega), x7 _ (by omega) (by omega), x6 _ (by omega) (by omega), x5 _ (by omega) (by omega), x4 _ (by omega) (by omega)]; exact y3
    · rw [X _ (by omega), x13 _ (by omega) (by omega), x12 _ (by omega) (by omega), x11 _ (by omega) (by omega), x10 _ (by omega) (by omega), x9 _ (by omega) (by omega), x8 _ (by omega) (by omega), x7 _ (by omega) (by omega), x6 _ (by omega) (by omega), x5 _ (by omega) (by omega)]; exact y4
    · refine ⟨fun _ => 0, ⟨?_, fun _ => (by decide : (0 : Nat) < 65536)⟩, w16_z 56 (fun _ _ => rfl)⟩
      rw [X _ (by omega)]
      rcases (by omega : k = 6 ∨ k = 7 ∨ k = 8 ∨ k = 9 ∨ k = 10 ∨ k = 11 ∨ k = 12 ∨ k = 13) with rfl | rfl | rfl | rfl | rfl | rfl | rfl | rfl
      · rw [x13 _ (by omega) (by omega), x12 _ (by omega) (by omega), x11 _ (by omega) (by omega), x10 _ (by omega) (by omega), x9 _ (by omega) (by omega), x8 _ (by omega) (by omega), x7 _ (by omega) (by omega)]; exact y6
      · rw [x13 _ (by omega) (by omega), x12 _ (by omega) (by omega), x11 _ (by omega) (by omega), x10 _ (by omega) (by omega), x9 _ (by omega) (by omega), x8 _ (by omega) (by omega)]; exact y7
      · rw [x13 _ (by omega) (by omega), x12 _ (by omega) (by omega), x11 _ (by omega) (by omega), x10 _ (by omega) (by omega), x9 _ (by omega) (by omega)]; exact y8
      · rw [x13 _ (by omega) (by omega), x12 _ (by omega) (by omega), x11 _ (by omega) (by omega), x10 _ (by omega) (by omega)]; exact y9
      · rw [x13 _ (by omega) (by omega), x12 _ (by omega) (by omega), x11 _ (by omega) (by omega)]; exact y10
      · rw [x13 _ (by omega) (by omega), x12 _ (by omega) (by omega)]; exact y11
      · rw [x13 _ (by omega) (by omega)]; exact y12
      · exact y13
    · rw [X _ (by omega), x13 _ (by omega) (by omega), x12 _ (by omega) (by omega), x11 _ (by omega) (by omega), x10 _ (by omega) (by omega), x9 _ (by omega) (by omega), x8 _ (by omega) (by omega), x7 _ (by omega) (by omega), x6 _ (by omega) (by omega), x5 _ (by omega) (by omega), x4 _ (by omega) (by omega), x3 _ (by omega) (by omega), x2 _ (by omega) (by omega), x1 _ (by omega) (by omega)]
  have loop : ∀ (u k : Nat) (g' : Gh) (rm : Nat → Int32) (n' c s : Nat), k + u = 4 → n' = P + 14 → c ≤ 13 → s ≤ 2424 → g1 a13 g' (P + 5) → g' (P + 5) = some (.inl (1, 4, .inl rm)) → (∀ r, r < k → rm r = -1) → ∀ lv, lG lv 0 = some (.ref P) → lG lv 1 = some (.int (nI k)) → zJ E g' n' c s 111 lv [] := by
    intro u
    induction u with
    | zero =>
      intro k g' rm n' c s hu hn hc hs X hrm hrm2 lv l0 l1
      refine z_sub (lv' := [(0, .ref P), (1, .int (nI k))]) (by simp only [List.map, l0, l1]) ?_
      obtain rfl : k = 4 := by omega
      have m1 := (X P (by omega)).trans h13
      refine z_iload_n hE d_Mo_init_111 rfl ?_
      refine z_iconst (v := nI 4) hE d_Mo_init_112 (by decide) ?_
      refine z_icmp_ge (tgt := 129) hE d_Mo_init_113 (by decide) (fun _ => ?_) (fun c_ => absurd c_ (fun z => z ((nI_LE (by omega) (by omega)).mpr (by omega))))
      exact fin g' rm _ _ _ _ hn hc hs X hrm hrm2
    | succ u ih =>
      intro k g' rm n' c s hu hn hc hs X hrm hrm2 lv l0 l1
      refine z_sub (lv' := [(0, .ref P), (1, .int (nI k))]) (by simp only [List.map, l0, l1]) ?_
      have m1 := (X P (by omega)).trans h13
      refine z_iload_n hE d_Mo_init_111 rfl ?_
      refine z_iconst (v := nI 4) hE d_Mo_init_112 (by decide) ?_
      refine z_icmp_ge (tgt := 129) hE d_Mo_init_113 (by decide) (fun c_ => absurd c_ (fun z => absurd ((nI_LE (by omega) (by omega)).mp z) (by omega))) (fun _ => ?_)
      refine z_aload_n hE d_Mo_init_116 rfl ?_
      refine z_get hE d_Mo_init_117 fl_Mo_23 (by assumption) rfl ?_
      refine z_iload_n hE d_Mo_init_120 rfl ?_
      refine z_iconst (v := (-1)) hE d_Mo_init_121 (by decide) ?_
      refine z_iast hE d_Mo_init_122 (by assumption) (nI_in' (by omega : k < 4) (by omega)) ?_
      rw [nI_cl (by omega)]
      refine z_iinc (v := nI (k + 1)) hE d_Mo_init_123 rfl (nI_1 k) (by decide) ?_
      refine z_goto (tgt := 111) hE d_Mo_init_126 (by decide) ?_
      refine ih (k + 1) _ _ _ _ _ (by omega) hn hc hs (g1_t X g1_S) gS_s (fun r hr => ?_) _ rfl rfl
      unfold upd
      by_cases h : r = k
      · rw [if_pos h]
      · rw [if_neg h]; exact hrm2 r (by omega)
  refine z_iconst (v := nI 0) hE d_Mo_init_109 (by decide) ?_
  refine z_istore_n hE d_Mo_init_110 rfl (by decide) ?_
  exact loop 4 0 a13 (fun _ => 0) _ _ _ (by omega) (by omega) (by omega) (by omega) g1_r (by rw [x13 _ (by omega) (by omega), x12 _ (by omega) (by omega), x11 _ (by omega) (by omega), x10 _ (by omega) (by omega), x9 _ (by omega) (by omega), x8 _ (by omega) (by omega), x7 _ (by omega) (by omega), x6 _ (by omega) (by omega)]; exact y5) (fun r hr => by omega) _ rfl rfl

