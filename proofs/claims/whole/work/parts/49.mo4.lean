/-! the reference: entries -/
theorem MV_ent {g' : Gh} {P f : Nat} {E : Nat → Option Qf} {e : Option Qf} {pl : Nat → Int32} {c n ts s : Int32} {t A A' B B' : Nat → Nat} {th sn rm : Nat → Int32} (a1 : g' P = some (oM P c n ts)) (a2 : g' (P + 1) = some (.inl (2, 58, .inl (upd th f (if e.isSome then 1 else 0))))) (a3 : ∀ j, j < 58 → th j = if (E j).isSome then 1 else 0) (b1 : g' (P + 2) = some (.inl (1, 58, .inl (upd sn f s)))) (b2 : g' (P + 3) = some (oI 928 A')) (b3 : g' (P + 4) = some (oI 928 B')) (b4 : ∀ j, A' j < 65536) (b5 : ∀ j, B' j < 65536) (b6 : ∀ j, j < 58 → ∀ q, E j = some q → sn j = q.1 ∧ w16 (fun i => A (16 * j + i)) 16 = q.2.1 ∧ w16 (fun i => B (16 * j + i)) 16 = q.2.2) (o1 : ∀ x, x < 16 * f ∨ 16 * f + 16 ≤ x → A' x = A x ∧ B' x = B x) (e1 : ∀ q, e = some q → s = q.1 ∧ w16 (fun i => A' (16 * f + i)) 16 = q.2.1 ∧ w16 (fun i => B' (16 * f + i)) 16 = q.2.2) (c1 : g' (P + 5) = some (.inl (1, 4, .inl rm))) (c2 : ∀ r, r < 4 → rm r = pl r) (d : ∀ k, 6 ≤ k → k ≤ 13 → MA g' (P + k) (t k)) : MV g' P (upE E f e) pl c n ts t := by
  refine ⟨a1, ⟨_, a2, fun j hj => ?_⟩, ⟨_, A', B', b1, b2, b3, b4, b5, fun j hj q hq => ?_⟩, ⟨rm, c1, c2⟩, d⟩
  · unfold upd upE
    by_cases h : j = f
    · rw [if_pos h, if_pos h]
    · rw [if_neg h, if_neg h]; exact a3 j hj
  · unfold upE at hq
    unfold upd
    by_cases h : j = f
    · rw [if_pos h] at hq
      rw [if_pos h, h]
      exact e1 q hq
    · rw [if_neg h] at hq
      rw [if_neg h]
      obtain ⟨z1, z2, z3⟩ := b6 j hj q hq
      refine ⟨z1, ?_, ?_⟩
      · rw [← z2]; exact w16_ext 16 (fun i hi => (o1 (16 * j + i) (by omega)).1)
      · rw [← z3]; exact w16_ext 16 (fun i hi => (o1 (16 * j + i) (by omega)).2)
theorem nar01 (b : Bool) : vp_nar .boolean (if b then 1 else 0) = (if b then 1 else 0) := by cases b <;> decide
theorem upd9 (A : Nat → Nat) (k x : Nat) : (.inl (1, 928, .inl (upd (fun j => nI (A j)) k (nI x))) : gE) = oI 928 (upN A k x) := by rw [updI]
theorem c_Mo_same (l : Launch) {g : Gh} (nx : Nat) {a b : Nat} {P : Nat} {E0 : Nat → Option Qf} {pl : Nat → Int32} {c n ts : Int32} {t : Nat → Nat} (hV : MV g P E0 pl c n ts t) (ha : a < 58) (hb : b < 58) : Ct l m_Mo_same 0 0 [.ref P, .int (nI a), .int (nI b)] g nx (fun r g' nx' => r = none ∧ nx = nx' ∧ MV g' P (upE E0 b (E0 a)) pl c n ts t ∧ gW g g' P (P + 14)) := by
  obtain ⟨a1, ⟨th, a2, a3⟩, ⟨sn, A, B, b1, b2, b3, b4, b5, b6⟩, ⟨rm, c1, c2⟩, d⟩ := id hV
  refine Ct.of (by decide) (Nat.le_of_ble_eq_true rfl) (fun E hE hQ => ?_)
  refine z_aload_n hE d_Mo_same_0 rfl ?_
  refine z_get hE d_Mo_same_1 fl_Mo_7 (by assumption) rfl ?_
  refine z_iload_n hE d_Mo_same_4 rfl ?_
  refine z_aload_n hE d_Mo_same_5 rfl ?_
  refine z_get hE d_Mo_same_6 fl_Mo_7 (by assumption) rfl ?_
  refine z_iload_n hE d_Mo_same_9 rfl ?_
  refine z_zald hE d_Mo_same_10 (by assumption) (nI_in' ha (by omega)) ?_
  rw [nI_cl (by omega), a3 a ha]
  refine z_zast hE d_Mo_same_11 (by assumption) (nI_in' hb (by omega)) ?_
  rw [nI_cl (by omega), nar01]
  obtain ⟨ga, hga⟩ : ∃ ga, ga = gS g (P + 1) (.inl (2, 58, .inl (upd th b (if (E0 a).isSome then 1 else 0)))) := ⟨_, rfl⟩
  rw [← hga]
  have a1' : ga P = some (oM P c n ts) := by rw [hga, gS_n (by omega)]; exact a1
  have b1' : ga (P + 2) = some (.inl (1, 58, .inl sn)) := by rw [hga, gS_n (by omega)]; exact b1
  refine z_aload_n hE d_Mo_same_12 rfl ?_
  refine z_get hE d_Mo_same_13 fl_Mo_13 (by assumption) rfl ?_
  refine z_iload_n hE d_Mo_same_16 rfl ?_
  refine z_aload_n hE d_Mo_same_17 rfl ?_
  refine z_get hE d_Mo_same_18 fl_Mo_13 (by assumption) rfl ?_
  refine z_iload_n hE d_Mo_same_21 rfl ?_
  refine z_iald hE d_Mo_same_22 (by assumption) (nI_in' ha (by omega)) ?_
  rw [nI_cl (by omega)]
  refine z_iast hE d_Mo_same_23 (by assumption) (nI_in' hb (by omega)) ?_
  rw [nI_cl (by omega)]
  obtain ⟨gb, hgb⟩ : ∃ gb, gb = gS ga (P + 2) (.inl (1, 58, .inl (upd sn b (sn a)))) := ⟨_, rfl⟩
  rw [← hgb]
  have loop : ∀ (u k : Nat) (g' : Gh) (A' B' : Nat → Nat), k + u = 16 → g2 gb g' (P + 3) (P + 4) → g' (P + 3) = some (oI 928 A') → g' (P + 4) = some (oI 928 B') → (∀ x, A' x < 65536) → (∀ x, B' x < 65536) → (∀ x, x < k → A' (16 * b + x) = A (16 * a + x) ∧ B' (16 * b + x) = B (16 * a + x)) → (∀ x, x < 16 * b ∨ 16 * b + k ≤ x → A' x = A x ∧ B' x = B x) → ∀ lv, lG lv 0 = some (.ref P) → lG lv 1 = some (.int (nI a)) → lG lv 2 = some (.int (nI b)) → lG lv 3 = some (.int (nI k)) → zJ E g' nx 0 0 26 lv [] := by
    intro u
    induction u with
    | zero =>
      intro k g' A' B' hu X hA hB b4 b5 h1 h2 lv l0 l1 l2 l3
      refine z_sub (lv' := [(0, .ref P), (1, .int (nI a)), (2, .int (nI b)), (3, .int (nI k))]) (by simp only [List.map, l0, l1, l2, l3]) ?_
      obtain rfl : k = 16 := by omega
      have m1 : g' P = some (oM P c n ts) := by rw [X P (by omega) (by omega), hgb, gS_n (by omega)]; exact a1'
      refine z_iload_n hE d_Mo_same_26 rfl ?_
      refine z_bipush (v := nI 16) hE d_Mo_same_27 (by decide) ?_
      refine z_icmp_ge (tgt := 82) hE d_Mo_same_29 (by decide) (fun _ => ?_) (fun c_ => absurd c_ (fun z => z ((nI_LE (by omega) (by omega)).mpr (by omega))))
      refine z_vret hE hQ d_Mo_same_82 rfl (Nat.le_refl _) (Nat.le_refl _) ⟨rfl, rfl, MV_ent (th := th) (sn := sn) (A := A) (B := B) (rm := rm) (s := sn a) m1 ?_ a3 ?_ hA hB b4 b5 b6 h2 ?_ ?_ c2 ?_, ?_⟩
      · rw [X _ (by omega) (by omega), hgb, gS_n (by omega), hga]; exact gS_s
      · rw [X _ (by omega) (by omega), hgb]; exact gS_s
      · intro q hq
        obtain ⟨z1, z2, z3⟩ := b6 a ha q hq
        refine ⟨z1, ?_, ?_⟩
        · rw [← z2]; exact w16_ext 16 (fun i hi => (h1 i hi).1)
        · rw [← z3]; exact w16_ext 16 (fun i hi => (h1 i hi).2)
      · rw [X _ (by omega) (by omega), hgb, gS_n (by omega), hga, gS_n (by omega)]; exact c1
      · intro k k1 k2
        obtain ⟨d0, hd0, e0⟩ := d k k1 k2
        refine ⟨d0, ⟨?_, hd0.2⟩, e0⟩
        rw [X _ (by omega) (by omega), hgb, gS_n (by omega), hga, gS_n (by omega)]; exact hd0.1
      · intro q hq
        rw [X _ (by omega) (by omega), hgb, gS_n (by omega), hga, gS_n (by omega)]
    | succ u ih =>
      intro k g' A' B' hu X hA hB b4 b5 h1 h2 lv l0 l1 l2 l3
      refine z_sub (lv' := [(0, .ref P), (1, .int (nI a)), (2, .int (nI b)), (3, .int (nI k))]) (by simp only [List.map, l0, l1, l2, l3]) ?_
      have m1 : g' P = some (oM P c n ts) := by rw [X P (by omega) (by omega), hgb, gS_n (by omega)]; exact a1'
      refine z_iload_n hE d_Mo_same_26 rfl ?_
      refine z_bipush (v := nI 16) hE d_Mo_same_27 (by decide) ?_
      refine z_icmp_ge (tgt := 82) hE d_Mo_same_29 (by decide) (fun c_ => absurd c_ (fun z => absurd ((nI_LE (by omega) (by omega)).mp z) (by omega))) (fun _ => ?_)
      refine z_aload_n hE d_Mo_same_32 rfl ?_
      refine z_get hE d_Mo_same_33 fl_Mo_17 (by assumption) rfl ?_
      refine z_bipush (v := nI 16) hE d_Mo_same_36 (by decide) ?_
      refine z_iload_n hE d_Mo_same_38 rfl ?_
      refine z_imul (v := nI (16 * b)) hE d_Mo_same_39 (pk_mul 16 b) ?_
      refine z_iload_n hE d_Mo_same_40 rfl ?_
      refine z_iadd (v := nI (16 * b + k)) hE d_Mo_same_41 (nI_add _ _) ?_
      refine z_aload_n hE d_Mo_same_42 rfl ?_
      refine z_get hE d_Mo_same_43 fl_Mo_17 (by assumption) rfl ?_
      refine z_bipush (v := nI 16) hE d_Mo_same_46 (by decide) ?_
      refine z_iload_n hE d_Mo_same_48 rfl ?_
      refine z_imul (v := nI (16 * a)) hE d_Mo_same_49 (pk_mul 16 a) ?_
      refine z_iload_n hE d_Mo_same_50 rfl ?_
      refine z_iadd (v := nI (16 * a + k)) hE d_Mo_same_51 (nI_add _ _) ?_
      refine z_iald hE d_Mo_same_52 (by assumption) (nI_in' (by omega : 16 * a + k < 928) (by omega)) ?_
      rw [nI_cl (by omega), (h2 (16 * a + k) (by omega)).1]
      refine z_iast hE d_Mo_same_53 (by assumption) (nI_in' (by omega : 16 * b + k < 928) (by omega)) ?_
      rw [nI_cl (by omega), upd9]
      have m2 := (gS_n (g := g') (a := P + 3) (e := oI 928 (upN A' (16 * b + k) (A (16 * a + k)))) (b := P) (by omega)).trans m1
      have hB2 := (gS_n (g := g') (a := P + 3) (e := oI 928 (upN A' (16 * b + k) (A (16 * a + k)))) (b := P + 4) (by omega)).trans hB
      refine z_aload_n hE d_Mo_same_54 rfl ?_
      refine z_get hE d_Mo_same_55 fl_Mo_20 (by assumption) rfl ?_
      refine z_bipush (v := nI 16) hE d_Mo_same_58 (by decide) ?_
      refine z_iload_n hE d_Mo_same_60 rfl ?_
      refine z_imul (v := nI (16 * b)) hE d_Mo_same_61 (pk_mul 16 b) ?_
      refine z_iload_n hE d_Mo_same_62 rfl ?_
      refine z_iadd (v := nI (16 * b + k)) hE d_Mo_same_63 (nI_add _ _) ?_
      refine z_aload_n hE d_Mo_same_64 rfl ?_
      refine z_get hE d_Mo_same_65 fl_Mo_20 (by assumption) rfl ?_
      refine z_bipush (v := nI 16) hE d_Mo_same_68 (by decide) ?_
      refine z_iload_n hE d_Mo_same_70 rfl ?_
      refine z_imul (v := nI (16 * a)) hE d_Mo_same_71 (pk_mul 16 a) ?_
      refine z_iload_n hE d_Mo_same_72 rfl ?_
      refine z_iadd (v := nI (16 * a + k)) hE d_Mo_same_73 (nI_add _ _) ?_
      refine z_iald hE d_Mo_same_74 (by assumption) (nI_in' (by omega : 16 * a + k < 928) (by omega)) ?_
      rw [nI_cl (by omega), (h2 (16 * a + k) (by omega)).2]
      refine z_iast hE d_Mo_same_75 (by assumption) (nI_in' (by omega : 16 * b + k < 928) (by omega)) ?_
      rw [nI_cl (by omega), upd9]
      refine z_iinc (v := nI (k + 1)) hE d_Mo_same_76 rfl (nI_1 k) (by decide) ?_
      refine z_goto (tgt := 26) hE d_Mo_same_79 (by decide) ?_
      have bA : A (16 * a + k) < 65536 := by rw [← (h2 (16 * a + k) (by omega)).1]; exact b4 _
      have bB : B (16 * a + k) < 65536 := by rw [← (h2 (16 * a + k) (by omega)).2]; exact b5 _
      refine ih (k + 1) _ _ _ (by omega) (fun q z1 z2 => ?_) (by rw [gS_n (by omega)]; exact gS_s) gS_s (upN_16 b4 bA) (upN_16 b5 bB) (fun x hx => ?_) (fun x hx => ?_) _ rfl rfl rfl rfl
      · rw [gS_n z2, gS_n z1]; exact X q z1 z2
      · by_cases hxk : x = k
        · rw [hxk, upN_s, upN_s]; exact ⟨rfl, rfl⟩
        · rw [upN_n (by omega), upN_n (by omega)]; exact h1 x (by omega)
      · rw [upN_n (by omega), upN_n (by omega)]; exact h2 x (by omega)
  refine z_iconst (v := nI 0) hE d_Mo_same_24 (by decide) ?_
  refine z_istore_n hE d_Mo_same_25 rfl (by decide) ?_
  refine loop 16 0 gb A B (by omega) (fun _ _ _ => rfl) ?_ ?_ b4 b5 (fun x hx => by omega) (fun x _ => ⟨rfl, rfl⟩) _ rfl rfl rfl rfl
  · rw [hgb, gS_n (by omega), hga, gS_n (by omega)]; exact b2
  · rw [hgb, gS_n (by omega), hga, gS_n (by omega)]; exact b3
theorem gcd_dq {T G : Nat} (h : G ∣ T) (hT : T ≠ 0) : T / G ≠ 0 := by
  obtain ⟨k, hk⟩ := h
  have hG : 0 < G := by rcases Nat.eq_zero_or_pos G with z | z; rw [z, Nat.zero_mul] at hk; omega; exact z
  rw [hk, Nat.mul_div_cancel_left _ hG]
  intro z
  rw [z, Nat.mul_zero] at hk
  exact hT hk
theorem bl256 {v : Nat} : bl v ≤ 256 ↔ v < 4294967296 ^ 8 := by rw [bl_pow]
theorem w16_top {d : Nat → Nat} (hd : ∀ j, d j < 65536) (h : w16 d 56 < 4294967296 ^ 8) : w16 d 16 = w16 d 56 := by
  have e : 65536 ^ 16 = 4294967296 ^ 8 := by decide
  exact (w16_low (d := d) hd (n := 16) (m := 40) (by rw [e]; exact h)).symm
theorem c_Mo_store (l : Launch) {g : Gh} (nx : Nat) {f : Nat} {P : Nat} {E0 : Nat → Option Qf} {pl : Nat → Int32} {c n ts : Int32} {t : Nat → Nat} (hV : MV g P E0 pl c n ts t) (hf : f < 58) (hB : 0 < t 7) (hBl : 2 * t 7 ≤ 65536 ^ 56) : Ct l m_Mo_store 0 0 [.ref P, .int (nI f)] g nx (fun r g' nx' => nx = nx' ∧ gW g g' P (P + 14) ∧ ∃ t', QW (mk ts (t 6) (t 7)) ∧ r = some (.int 1) ∧ MV g' P (upE E0 f (some (mk ts (t 6) (t 7)))) pl c n ts t' ∨ ¬ QW (mk ts (t 6) (t 7)) ∧ r = some (.int 0) ∧ MV g' P E0 pl c n ts t') := by
  have h0 := hV.1
  have M6 := MV_m hV 6 (by omega) (by omega)
  have M7 := MV_m hV 7 (by omega) (by omega)
  obtain ⟨T, hT⟩ : ∃ T, t 6 = T := ⟨_, rfl⟩
  obtain ⟨D, hD⟩ : ∃ D, t 7 = D := ⟨_, rfl⟩
  rw [hT] at M6 ⊢
  rw [hD] at M7 hB hBl ⊢
  refine Ct.of (by decide) (Nat.le_of_ble_eq_true rfl) (fun E hE hQ => ?_)
  have hGp : 0 < Nat.gcd T D := Nat.gcd_pos_of_pos_right T hB
  have hGl : Nat.gcd T D ≤ D := Nat.gcd_le_right T hB
  refine z_aload_n hE d_Mo_store_0 rfl ?_
  refine z_get hE d_Mo_store_1 fl_Mo_26 (by assumption) rfl ?_
  refine z_aload_n hE d_Mo_store_4 rfl ?_
  refine z_get hE d_Mo_store_5 fl_Mo_32 (by assumption) rfl ?_
  refine z_callS hE d_Mo_store_8 cl_Mo_81 (c_Mo_lay l nx M6 (MV_m hV 8 (by omega) (by omega)) (by omega)) rfl (Nat.le_of_ble_eq_true rfl) ⟨by decide, by decide⟩ ⟨by omega, by omega⟩ (fun r_1 g_1 nx_1 hp_1 => ?_) rfl
  try dsimp only [Option.toList, List.nil_append, List.cons_append]
  obtain ⟨rfl, rfl, N1, G1⟩ := hp_1
  try dsimp only [Option.toList, List.nil_append, List.cons_append]
  have V1 := MV_up hV (by omega) N1 G1
  have m1 := V1.1
  have W1 : gW g g_1 P (P + 14) := g1_W G1 (by omega) (by omega)
  refine z_aload_n hE d_Mo_store_11 rfl ?_
  refine z_get hE d_Mo_store_12 fl_Mo_29 (by assumption) rfl ?_
  refine z_aload_n hE d_Mo_store_15 rfl ?_
  refine z_get hE d_Mo_store_16 fl_Mo_35 (by assumption) rfl ?_
  refine z_callS hE d_Mo_store_19 cl_Mo_81 (c_Mo_lay l nx (v := D) (by rw [← hD]; exact MV_m V1 7 (by omega) (by omega)) (MV_m V1 9 (by omega) (by omega)) (by omega)) rfl (Nat.le_of_ble_eq_true rfl) ⟨by decide, by decide⟩ ⟨by omega, by omega⟩ (fun r_2 g_2 nx_2 hp_2 => ?_) rfl
  try dsimp only [Option.toList, List.nil_append, List.cons_append]
  obtain ⟨rfl, rfl, N2, G2⟩ := hp_2
  try dsimp only [Option.toList, List.nil_append, List.cons_append]
  have V2 := MV_up V1 (by omega) N2 G2
  have m2 := V2.1
  have W2 : gW g g_2 P (P + 14) := gW_t W1 (g1_W G2 (by omega) (by omega))
  refine z_aload_n hE d_Mo_store_22 rfl ?_
  refine z_get hE d_Mo_store_23 fl_Mo_32 (by assumption) rfl ?_
  refine z_aload_n hE d_Mo_store_26 rfl ?_
  refine z_get hE d_Mo_store_27 fl_Mo_35 (by assumption) rfl ?_
  refine z_callS hE d_Mo_store_30 cl_Mo_93 (c_Mo_shared l nx (x := T) (MV_m V2 8 (by omega) (by omega)) N2 (by omega)) rfl (Nat.le_of_ble_eq_true rfl) ⟨by decide, by decide⟩ ⟨by omega, by omega⟩ (fun r_3 g_3 nx_3 hp_3 => ?_) rfl
  try dsimp only [Option.toList, List.nil_append, List.cons_append]
  obtain ⟨rfl, rfl, N3, ⟨z, N3'⟩, G3⟩ := hp_3
  try dsimp only [Option.toList, List.nil_append, List.cons_append]
  have V3 := MV_up2 V2 (by omega) (by omega) N3 N3' G3
  have m3 := V3.1
  have W3 : gW g g_3 P (P + 14) := gW_t W2 (g2_W G3 (by omega) (by omega) (by omega) (by omega))
  obtain ⟨t3, ht3⟩ : ∃ t3, t3 = upN (upN (upN (upN t 8 T) 9 D) 8 (Nat.gcd T D)) 9 z := ⟨_, rfl⟩
  rw [← ht3] at V3
  have q6 : t3 6 = T := by rw [ht3]; exact hT
  have q7 : t3 7 = D := by rw [ht3]; exact hD
  have q8 : t3 8 = Nat.gcd T D := by rw [ht3]; rfl
  refine z_aload_n hE d_Mo_store_33 rfl ?_
  refine z_aload_n hE d_Mo_store_34 rfl ?_
  refine z_get hE d_Mo_store_35 fl_Mo_26 (by assumption) rfl ?_
  refine z_aload_n hE d_Mo_store_38 rfl ?_
  refine z_get hE d_Mo_store_39 fl_Mo_32 (by assumption) rfl ?_
  refine z_callV hE d_Mo_store_42 cl_Mo_96 (c_Mo_divide l nx (i := 6) (j := 8) V3 (by omega) (by omega) (by omega) (by omega) (by rw [q8]; exact hGp) (by rw [q8]; omega)) (by assumption) cb_Mo rfl (Nat.le_of_ble_eq_true rfl) ⟨by decide, by decide⟩ ⟨by omega, by omega⟩ (fun r_4 g_4 nx_4 hp_4 => ?_) rfl
  try dsimp only [Option.toList, List.nil_append, List.cons_append]
  obtain ⟨rfl, rfl, V4, G4⟩ := hp_4
  try dsimp only [Option.toList, List.nil_append, List.cons_append]
  have m4 := V4.1
  have W4 : gW g g_4 P (P + 14) := gW_t W3 (g2_W G4 (by omega) (by omega) (by omega) (by omega))
  rw [q6, q8] at V4
  have N4 : MA g_4 (P + 12) (T / Nat.gcd T D) := MV_m V4 12 (by omega) (by omega)
  refine z_aload_n hE d_Mo_store_45 rfl ?_
  refine z_get hE d_Mo_store_46 fl_Mo_44 (by assumption) rfl ?_
  refine z_aload_n hE d_Mo_store_49 rfl ?_
  refine z_get hE d_Mo_store_50 fl_Mo_26 (by assumption) rfl ?_
  refine z_callS hE d_Mo_store_53 cl_Mo_81 (c_Mo_lay l nx N4 (MV_m V4 6 (by omega) (by omega)) (by omega)) rfl (Nat.le_of_ble_eq_true rfl) ⟨by decide, by decide⟩ ⟨by omega, by omega⟩ (fun r_5 g_5 nx_5 hp_5 => ?_) rfl
  try dsimp only [Option.toList, List.nil_append, List.cons_append]
  obtain ⟨rfl, rfl, N5, G5⟩ := hp_5
  try dsimp only [Option.toList, List.nil_append, List.cons_append]
  have V5 := MV_up V4 (by omega) N5 G5
  have m5 := V5.1
  have W5 : gW g g_5 P (P + 14) := gW_t W4 (g1_W G5 (by omega) (by omega))
  obtain ⟨t5, ht5⟩ : ∃ t5, t5 = upN (upN (upN t3 12 (T / Nat.gcd T D)) 13 (T % Nat.gcd T D)) 6 (T / Nat.gcd T D) := ⟨_, rfl⟩
  rw [← ht5] at V5
  have p6 : t5 6 = T / Nat.gcd T D := by rw [ht5]; rfl
  have p7 : t5 7 = D := by rw [ht5]; exact q7
  have p8 : t5 8 = Nat.gcd T D := by rw [ht5]; exact q8
  refine z_aload_n hE d_Mo_store_56 rfl ?_
  refine z_aload_n hE d_Mo_store_57 rfl ?_
  refine z_get hE d_Mo_store_58 fl_Mo_29 (by assumption) rfl ?_
  refine z_aload_n hE d_Mo_store_61 rfl ?_
  refine z_get hE d_Mo_store_62 fl_Mo_32 (by assumption) rfl ?_
  refine z_callV hE d_Mo_store_65 cl_Mo_96 (c_Mo_divide l nx (i := 7) (j := 8) V5 (by omega) (by omega) (by omega) (by omega) (by rw [p8]; exact hGp) (by rw [p8]; omega)) (by assumption) cb_Mo rfl (Nat.le_of_ble_eq_true rfl) ⟨by decide, by decide⟩ ⟨by omega, by omega⟩ (fun r_6 g_6 nx_6 hp_6 => ?_) rfl
  try dsimp only [Option.toList, List.nil_append, List.cons_append]
  obtain ⟨rfl, rfl, V6, G6⟩ := hp_6
  try dsimp only [Option.toList, List.nil_append, List.cons_append]
  have m6 := V6.1
  have W6 : gW g g_6 P (P + 14) := gW_t W5 (g2_W G6 (by omega) (by omega) (by omega) (by omega))
  rw [p7, p8] at V6
  have N6 : MA g_6 (P + 12) (D / Nat.gcd T D) := MV_m V6 12 (by omega) (by omega)
  refine z_aload_n hE d_Mo_store_68 rfl ?_
  refine z_get hE d_Mo_store_69 fl_Mo_44 (by assumption) rfl ?_
  refine z_aload_n hE d_Mo_store_72 rfl ?_
  refine z_get hE d_Mo_store_73 fl_Mo_29 (by assumption) rfl ?_
  refine z_callS hE d_Mo_store_76 cl_Mo_81 (c_Mo_lay l nx N6 (MV_m V6 7 (by omega) (by omega)) (by omega)) rfl (Nat.le_of_ble_eq_true rfl) ⟨by decide, by decide⟩ ⟨by omega, by omega⟩ (fun r_7 g_7 nx_7 hp_7 => ?_) rfl
  try dsimp only [Option.toList, List.nil_append, List.cons_append]
  obtain ⟨rfl, rfl, N7, G7⟩ := hp_7
  try dsimp only [Option.toList, List.nil_append, List.cons_append]
  have V7 := MV_up V6 (by omega) N7 G7
  have m7 := V7.1
  have W7 : gW g g_7 P (P + 14) := gW_t W6 (g1_W G7 (by omega) (by omega))
  obtain ⟨t7, ht7⟩ : ∃ t7, t7 = upN (upN (upN t5 12 (D / Nat.gcd T D)) 13 (D % Nat.gcd T D)) 7 (D / Nat.gcd T D) := ⟨_, rfl⟩
  rw [← ht7] at V7
  have s6 : t7 6 = T / Nat.gcd T D := by rw [ht7]; exact p6
  have s7 : t7 7 = D / Nat.gcd T D := by rw [ht7]; rfl
  have S6 : MA g_7 (P + 6) (T / Nat.gcd T D) := by rw [← s6]; exact MV_m V7 6 (by omega) (by omega)
  have S7 : MA g_7 (P + 7) (D / Nat.gcd T D) := by rw [← s7]; exact MV_m V7 7 (by omega) (by omega)
  have b6 : bl (T / Nat.gcd T D) ≤ 896 := by rw [bl_iff, show 2 ^ 896 = 65536 ^ 56 by rw [H2]]; exact MA_lt S6
  have b7 : bl (D / Nat.gcd T D) ≤ 896 := by rw [bl_iff, show 2 ^ 896 = 65536 ^ 56 by rw [H2]]; exact MA_lt S7
  have no : ∀ lv, ¬ QW (mk ts T D) → zJ E g_7 nx 0 0 105 lv [] := by
    intro lv h
    refine z_iconst (v := 0) hE d_Mo_store_105 (by decide) ?_
    exact z_zret hE hQ d_Mo_store_106 rfl (by omega) (by omega) (Or.inl rfl) ⟨rfl, W7, t7, Or.inr ⟨h, rfl, V7⟩⟩
  refine z_aload_n hE d_Mo_store_79 rfl ?_
  refine z_get hE d_Mo_store_80 fl_Mo_26 (by assumption) rfl ?_
  refine z_callS hE d_Mo_store_83 cl_Mo_65 (c_Mo_bitsOf l nx S6) rfl (Nat.le_of_ble_eq_true rfl) ⟨by decide, by decide⟩ ⟨by omega, by omega⟩ (fun r_83 g_83 nx_83 hp_83 => ?_) rfl
  obtain ⟨rfl, rfl, rfl⟩ := hp_83
  try dsimp only [Option.toList, List.nil_append, List.cons_append]
  refine z_sipush (v := nI 256) hE d_Mo_store_86 (by decide) ?_
  by_cases h6 : bl (T / Nat.gcd T D) ≤ 256
  case neg =>
    refine z_icmp_gt (tgt := 105) hE d_Mo_store_89 (by decide) (fun _ => ?_) (fun c_ => absurd c_ (fun z => z ((nI_LT (by omega) (by omega)).mpr (by omega))))
    exact no _ (fun q => h6 (bl256.mpr q.1))
  refine z_icmp_gt (tgt := 105) hE d_Mo_store_89 (by decide) (fun c_ => absurd c_ (fun z => absurd ((nI_LT (by omega) (by omega)).mp z) (by omega))) (fun _ => ?_)
  refine z_aload_n hE d_Mo_store_92 rfl ?_
  refine z_get hE d_Mo_store_93 fl_Mo_29 (by assumption) rfl ?_
  refine z_callS hE d_Mo_store_96 cl_Mo_65 (c_Mo_bitsOf l nx S7) rfl (Nat.le_of_ble_eq_true rfl) ⟨by decide, by decide⟩ ⟨by omega, by omega⟩ (fun r_96 g_96 nx_96 hp_96 => ?_) rfl
  obtain ⟨rfl, rfl, rfl⟩ := hp_96
  try dsimp only [Option.toList, List.nil_append, List.cons_append]
  refine z_sipush (v := nI 256) hE d_Mo_store_99 (by decide) ?_
  by_cases h7 : bl (D / Nat.gcd T D) ≤ 256
  case neg =>
    refine z_icmp_le (tgt := 107) hE d_Mo_store_102 (by decide) (fun c_ => absurd c_ (fun z => absurd ((nI_LE (by omega) (by omega)).mp z) (by omega))) (fun _ => ?_)
    exact no _ (fun q => h7 (bl256.mpr q.2))
  refine z_icmp_le (tgt := 107) hE d_Mo_store_102 (by decide) (fun _ => ?_) (fun c_ => absurd c_ (fun z => z ((nI_LE (by omega) (by omega)).mpr (by omega))))
  have hQW : QW (mk ts T D) := ⟨bl256.mp h6, bl256.mp h7⟩
  obtain ⟨a1, ⟨th, a2, a3⟩, ⟨sn, A, B, b1, b2, b3, b4, b5, b6⟩, ⟨rm, c1, c2⟩, d⟩ := id V7
  refine z_aload_n hE d_Mo_store_107 rfl ?_
  refine z_get hE d_Mo_store_108 fl_Mo_7 (by assumption) rfl ?_
  refine z_iload_n hE d_Mo_store_111 rfl ?_
  refine z_iconst (v := 1) hE d_Mo_store_112 (by decide) ?_
  refine z_zast hE d_Mo_store_113 (by assumption) (nI_in' hf (by omega)) ?_
  rw [nI_cl (by omega), show vp_nar .boolean 1 = (if (some (mk ts T D)).isSome then 1 else 0) from nar01 true]
  obtain ⟨ga, hga⟩ : ∃ ga, ga = gS g_7 (P + 1) (.inl (2, 58, .inl (upd th f (if (some (mk ts T D)).isSome then 1 else 0)))) := ⟨_, rfl⟩
  rw [← hga]
  have ga1 : g1 g_7 ga (P + 1) := by rw [hga]; exact g1_S
  have a1' : ga P = some (oM P c n ts) := (ga1 P (by omega)).trans a1
  have b1' : ga (P + 2) = some (.inl (1, 58, .inl sn)) := (ga1 _ (by omega)).trans b1
  obtain ⟨dT, hdT, eT⟩ := id S6
  obtain ⟨dD, hdD, eD⟩ := id S7
  refine z_aload_n hE d_Mo_store_114 rfl ?_
  refine z_get hE d_Mo_store_115 fl_Mo_13 (by assumption) rfl ?_
  refine z_iload_n hE d_Mo_store_118 rfl ?_
  refine z_aload_n hE d_Mo_store_119 rfl ?_
  refine z_get hE d_Mo_store_120 fl_Mo_26 (by assumption) rfl ?_
  refine z_callS hE d_Mo_store_123 cl_Mo_77 (c_Mo_isZero l nx (MA_o S6 ga1 (by omega))) rfl (Nat.le_of_ble_eq_true rfl) ⟨by decide, by decide⟩ ⟨by omega, by omega⟩ (fun r_123 g_123 nx_123 hp_123 => ?_) rfl
  obtain ⟨rfl, rfl, rfl⟩ := hp_123
  try dsimp only [Option.toList, List.nil_append, List.cons_append]
  have fin : ∀ (s : Int32) lv, s = (mk ts T D).1 → lG lv 0 = some (.ref P) → lG lv 1 = some (.int (nI f)) → zJ E ga nx 0 0 137 lv [.int s, .int (nI f), .ref (P + 2)] := by
    intro s lv hs l0 l1
    refine z_sub (lv' := [(0, .ref P), (1, .int (nI f))]) (by simp only [List.map, l0, l1]) ?_
    refine z_iast hE d_Mo_store_137 (by assumption) (nI_in' hf (by omega)) ?_
    rw [nI_cl (by omega)]
    obtain ⟨gb, hgb⟩ : ∃ gb, gb = gS ga (P + 2) (.inl (1, 58, .inl (upd sn f s))) := ⟨_, rfl⟩
    rw [← hgb]
    have loop : ∀ (u k : Nat) (g' : Gh) (A' B' : Nat → Nat), k + u = 16 → g2 gb g' (P + 3) (P + 4) → g' (P + 3) = some (oI 928 A') → g' (P + 4) = some (oI 928 B') → (∀ x, A' x < 65536) → (∀ x, B' x < 65536) → (∀ x, x < k → A' (16 * f + x) = dT x ∧ B' (16 * f + x) = dD x) → (∀ x, x < 16 * f ∨ 16 * f + k ≤ x → A' x = A x ∧ B' x = B x) → ∀ lv, lG lv 0 = some (.ref P) → lG lv 1 = some (.int (nI f)) → lG lv 2 = some (.int (nI k)) → zJ E g' nx 0 0 140 lv [] := by
      intro u
      induction u with
      | zero =>
        intro k g' A' B' hu X hA hB b4 b5 h1 h2 lv l0 l1 l2
        refine z_sub (lv' := [(0, .ref P), (1, .int (nI f)), (2, .int (nI k))]) (by simp only [List.map, l0, l1, l2]) ?_
        obtain rfl : k = 16 := by omega
        have gx : ∀ q, q ≠ P + 1 → q ≠ P + 2 → q ≠ P + 3 → q ≠ P + 4 → g' q = g_7 q := fun q z1 z2 z3 z4 => by rw [X q z3 z4, hgb, gS_n z2]; exact ga1 q z1
        have n1 : g' P = some (oM P c n ts) := (gx P (by omega) (by omega) (by omega) (by omega)).trans a1
        have nT : g' (P + 6) = some (oI 56 dT) := (gx _ (by omega) (by omega) (by omega) (by omega)).trans hdT.1
        have nD : g' (P + 7) = some (oI 56 dD) := (gx _ (by omega) (by omega) (by omega) (by omega)).trans hdD.1
        refine z_iload_n hE d_Mo_store_140 rfl ?_
        refine z_bipush (v := nI 16) hE d_Mo_store_141 (by decide) ?_
        refine z_icmp_ge (tgt := 186) hE d_Mo_store_143 (by decide) (fun _ => ?_) (fun c_ => absurd c_ (fun z => z ((nI_LE (by omega) (by omega)).mpr (by omega))))
        refine z_iconst (v := 1) hE d_Mo_store_186 (by decide) ?_
        refine z_zret hE hQ d_Mo_store_187 rfl (by omega) (by omega) (Or.inr rfl) ⟨rfl, ?_, t7, Or.inl ⟨hQW, rfl, MV_ent (th := th) (sn := sn) (A := A) (B := B) (rm := rm) (s := s) n1 ?_ a3 ?_ hA hB b4 b5 b6 h2 ?_ ?_ c2 ?_⟩⟩
        · intro q hq
          rw [gx q (by omega) (by omega) (by omega) (by omega)]; exact W7 q hq
        · rw [X _ (by omega) (by omega), hgb, gS_n (by omega), hga]; exact gS_s
        · rw [X _ (by omega) (by omega), hgb]; exact gS_s
        · intro q hq
          cases hq
          refine ⟨hs, ?_, ?_⟩
          · show _ = T / Nat.gcd T D
            rw [← eT, ← w16_top hdT.2 (by rw [eT]; exact hQW.1)]; exact w16_ext 16 (fun i hi => (h1 i hi).1)
          · show _ = D / Nat.gcd T D
            rw [← eD, ← w16_top hdD.2 (by rw [eD]; exact hQW.2)]; exact w16_ext 16 (fun i hi => (h1 i hi).2)
        · rw [gx _ (by omega) (by omega) (by omega) (by omega)]; exact c1
        · intro k k1 k2
          obtain ⟨d0, hd0, e0⟩ := d k k1 k2
          exact ⟨d0, ⟨(gx _ (by omega) (by omega) (by omega) (by omega)).trans hd0.1, hd0.2⟩, e0⟩
      | succ u ih =>
        intro k g' A' B' hu X hA hB b4 b5 h1 h2 lv l0 l1 l2
        refine z_sub (lv' := [(0, .ref P), (1, .int (nI f)), (2, .int (nI k))]) (by simp only [List.map, l0, l1, l2]) ?_
        have gx : ∀ q, q ≠ P + 1 → q ≠ P + 2 → q ≠ P + 3 → q ≠ P + 4 → g' q = g_7 q := fun q z1 z2 z3 z4 => by rw [X q z3 z4, hgb, gS_n z2]; exact ga1 q z1
        have n1 : g' P = some (oM P c n ts) := (gx P (by omega) (by omega) (by omega) (by omega)).trans a1
        have nT : g' (P + 6) = some (oI 56 dT) := (gx _ (by omega) (by omega) (by omega) (by omega)).trans hdT.1
        have nD : g' (P + 7) = some (oI 56 dD) := (gx _ (by omega) (by omega) (by omega) (by omega)).trans hdD.1
        refine z_iload_n hE d_Mo_store_140 rfl ?_
        refine z_bipush (v := nI 16) hE d_Mo_store_141 (by decide) ?_
        refine z_icmp_ge (tgt := 186) hE d_Mo_store_143 (by decide) (fun c_ => absurd c_ (fun z => absurd ((nI_LE (by omega) (by omega)).mp z) (by omega))) (fun _ => ?_)
        refine z_aload_n hE d_Mo_store_146 rfl ?_
        refine z_get hE d_Mo_store_147 fl_Mo_17 (by assumption) rfl ?_
        refine z_bipush (v := nI 16) hE d_Mo_store_150 (by decide) ?_
        refine z_iload_n hE d_Mo_store_152 rfl ?_
        refine z_imul (v := nI (16 * f)) hE d_Mo_store_153 (pk_mul 16 f) ?_
        refine z_iload_n hE d_Mo_store_154 rfl ?_
        refine z_iadd (v := nI (16 * f + k)) hE d_Mo_store_155 (nI_add _ _) ?_
        refine z_aload_n hE d_Mo_store_156 rfl ?_
        refine z_get hE d_Mo_store_157 fl_Mo_26 (by assumption) rfl ?_
        refine z_iload_n hE d_Mo_store_160 rfl ?_
        refine z_iald hE d_Mo_store_161 (by assumption) (nI_in' (by omega : k < 56) (by omega)) ?_
        rw [nI_cl (by omega)]
        refine z_iast hE d_Mo_store_162 (by assumption) (nI_in' (by omega : 16 * f + k < 928) (by omega)) ?_
        rw [nI_cl (by omega), upd9]
        have n2 := (gS_n (g := g') (a := P + 3) (e := oI 928 (upN A' (16 * f + k) (dT k))) (b := P) (by omega)).trans n1
        have hB2 := (gS_n (g := g') (a := P + 3) (e := oI 928 (upN A' (16 * f + k) (dT k))) (b := P + 4) (by omega)).trans hB
        have nD2 := (gS_n (g := g') (a := P + 3) (e := oI 928 (upN A' (16 * f + k) (dT k))) (b := P + 7) (by omega)).trans nD
        refine z_aload_n hE d_Mo_store_163 rfl ?_
        refine z_get hE d_Mo_store_164 fl_Mo_20 (by assumption) rfl ?_
        refine z_bipush (v := nI 16) hE d_Mo_store_167 (by decide) ?_
        refine z_iload_n hE d_Mo_store_169 rfl ?_
        refine z_imul (v := nI (16 * f)) hE d_Mo_store_170 (pk_mul 16 f) ?_
        refine z_iload_n hE d_Mo_store_171 rfl ?_
        refine z_iadd (v := nI (16 * f + k)) hE d_Mo_store_172 (nI_add _ _) ?_
        refine z_aload_n hE d_Mo_store_173 rfl ?_
        refine z_get hE d_Mo_store_174 fl_Mo_29 (by assumption) rfl ?_
        refine z_iload_n hE d_Mo_store_177 rfl ?_
        refine z_iald hE d_Mo_store_178 (by assumption) (nI_in' (by omega : k < 56) (by omega)) ?_
        rw [nI_cl (by omega)]
        refine z_iast hE d_Mo_store_179 (by assumption) (nI_in' (by omega : 16 * f + k < 928) (by omega)) ?_
        rw [nI_cl (by omega), upd9]
        refine z_iinc (v := nI (k + 1)) hE d_Mo_store_180 rfl (nI_1 k) (by decide) ?_
        refine z_goto (tgt := 140) hE d_Mo_store_183 (by decide) ?_
        refine ih (k + 1) _ _ _ (by omega) (fun q z1 z2 => ?_) (by rw [gS_n (by omega)]; exact gS_s) gS_s (upN_16 b4 (hdT.2 k)) (upN_16 b5 (hdD.2 k)) (fun x hx => ?_) (fun x hx => ?_) _ rfl rfl rfl
        · rw [gS_n z2, gS_n z1]; exact X q z1 z2
        · by_cases hxk : x = k
          · rw [hxk, upN_s, upN_s]; exact ⟨rfl, rfl⟩
          · rw [upN_n (by omega), upN_n (by omega)]; exact h1 x (by omega)
        · rw [upN_n (by omega), upN_n (by omega)]; exact h2 x (by omega)
    refine z_iconst (v := nI 0) hE d_Mo_store_138 (by decide) ?_
    refine z_istore_n hE d_Mo_store_139 rfl (by decide) ?_
    refine loop 16 0 gb A B (by omega) (fun _ _ _ => rfl) ?_ ?_ b4 b5 (fun x hx => by omega) (fun x _ => ⟨rfl, rfl⟩) _ rfl rfl rfl
    · rw [hgb, gS_n (by omega)]; exact (ga1 _ (by omega)).trans b2
    · rw [hgb, gS_n (by omega)]; exact (ga1 _ (by omega)).trans b3
  by_cases hT0 : T = 0
  · rw [hT0, Nat.zero_div, if_pos rfl]
    refine z_if_eq (tgt := 133) hE d_Mo_store_126 (by decide) (fun c_ => absurd c_ (by decide)) (fun _ => ?_)
    refine z_iconst (v := 0) hE d_Mo_store_129 (by decide) ?_
    refine z_goto (tgt := 137) hE d_Mo_store_130 (by decide) ?_
    refine fin 0 _ ?_ rfl rfl
    show 0 = if T = 0 then 0 else ts
    rw [if_pos hT0]
  · rw [if_neg (gcd_dq (Nat.gcd_dvd_left T D) hT0)]
    refine z_if_eq (tgt := 133) hE d_Mo_store_126 (by decide) (fun _ => ?_) (fun c_ => absurd c_ (by decide))
    refine z_aload_n hE d_Mo_store_133 rfl ?_
    refine z_get hE d_Mo_store_134 fl_Mo_99 (by assumption) rfl ?_
    refine fin ts _ ?_ rfl rfl
    show ts = if T = 0 then 0 else ts
    rw [if_neg hT0]
theorem c_Mo_isSmall (l : Launch) {g : Gh} (nx : Nat) {f : Nat} {q : Qf} {P : Nat} {E0 : Nat → Option Qf} {pl : Nat → Int32} {c n ts : Int32} {t : Nat → Nat} (hV : MV g P E0 pl c n ts t) (hf : f < 58) (hq : E0 f = some q) : Ct l m_Mo_isSmall 0 0 [.ref P, .int (nI f)] g nx (fun r g' nx' => r = some (.int (if bl q.2.1 ≤ 63 ∧ bl q.2.2 ≤ 63 then 1 else 0)) ∧ nx = nx' ∧ MV g' P E0 pl c n ts (upN (upN t 8 q.2.1) 9 q.2.2) ∧ g2 g g' (P + 8) (P + 9)) := by
  have h0 := hV.1
  refine Ct.of (by decide) (Nat.le_of_ble_eq_true rfl) (fun E hE hQ => ?_)
  refine z_aload_n hE d_Mo_isSmall_0 rfl ?_
  refine z_iload_n hE d_Mo_isSmall_1 rfl ?_
  refine z_aload_n hE d_Mo_isSmall_2 rfl ?_
  refine z_get hE d_Mo_isSmall_3 fl_Mo_32 (by assumption) rfl ?_
  refine z_aload_n hE d_Mo_isSmall_6 rfl ?_
  refine z_get hE d_Mo_isSmall_7 fl_Mo_35 (by assumption) rfl ?_
  refine z_callV hE d_Mo_isSmall_10 cl_Mo_119 (c_Mo_take l nx (i := 8) (j := 9) hV hf hq (by omega) (by omega) (by omega) (by omega) (by omega)) (by assumption) cb_Mo rfl (Nat.le_of_ble_eq_true rfl) ⟨by decide, by decide⟩ ⟨by omega, by omega⟩ (fun r_1 g_1 nx_1 hp_1 => ?_) rfl
  try dsimp only [Option.toList, List.nil_append, List.cons_append]
  obtain ⟨rfl, rfl, V1, G1⟩ := hp_1
  try dsimp only [Option.toList, List.nil_append, List.cons_append]
  have m1 := V1.1
  have N8 : MA g_1 (P + 8) q.2.1 := MV_m V1 8 (by omega) (by omega)
  have N9 : MA g_1 (P + 9) q.2.2 := MV_m V1 9 (by omega) (by omega)
  have b8 : bl q.2.1 ≤ 896 := by rw [bl_iff, show 2 ^ 896 = 65536 ^ 56 by rw [H2]]; exact MA_lt N8
  have b9 : bl q.2.2 ≤ 896 := by rw [bl_iff, show 2 ^ 896 = 65536 ^ 56 by rw [H2]]; exact MA_lt N9
  have no : ∀ lv, ¬ (bl q.2.1 ≤ 63 ∧ bl q.2.2 ≤ 63) → zJ E g_1 nx 0 0 41 lv [] := by
    intro lv h
    refine z_iconst (v := 0) hE d_Mo_isSmall_41 (by decide) ?_
    exact z_zret hE hQ d_Mo_isSmall_42 rfl (by omega) (by omega) (Or.inl rfl) ⟨by rw [if_neg h], rfl, V1, G1⟩
  refine z_aload_n hE d_Mo_isSmall_13 rfl ?_
  refine z_get hE d_Mo_isSmall_14 fl_Mo_32 (by assumption) rfl ?_
  refine z_callS hE d_Mo_isSmall_17 cl_Mo_65 (c_Mo_bitsOf l nx N8) rfl (Nat.le_of_ble_eq_true rfl) ⟨by decide, by decide⟩ ⟨by omega, by omega⟩ (fun r_17 g_17 nx_17 hp_17 => ?_) rfl
  obtain ⟨rfl, rfl, rfl⟩ := hp_17
  try dsimp only [Option.toList, List.nil_append, List.cons_append]
  refine z_bipush (v := nI 63) hE d_Mo_isSmall_20 (by decide) ?_
  by_cases h6 : bl q.2.1 ≤ 63
  case neg =>
    refine z_icmp_gt (tgt := 41) hE d_Mo_isSmall_22 (by decide) (fun _ => ?_) (fun c_ => absurd c_ (fun z => z ((nI_LT (by omega) (by omega)).mpr (by omega))))
    exact no _ (fun q => h6 q.1)
  refine z_icmp_gt (tgt := 41) hE d_Mo_isSmall_22 (by decide) (fun c_ => absurd c_ (fun z => absurd ((nI_LT (by omega) (by omega)).mp z) (by omega))) (fun _ => ?_)
  refine z_aload_n hE d_Mo_isSmall_25 rfl ?_
  refine z_get hE d_Mo_isSmall_26 fl_Mo_35 (by assumption) rfl ?_
  refine z_callS hE d_Mo_isSmall_29 cl_Mo_65 (c_Mo_bitsOf l nx N9) rfl (Nat.le_of_ble_eq_true rfl) ⟨by decide, by decide⟩ ⟨by omega, by omega⟩ (fun r_29 g_29 nx_29 hp_29 => ?_) rfl
  obtain ⟨rfl, rfl, rfl⟩ := hp_29
  try dsimp only [Option.toList, List.nil_append, List.cons_append]
  refine z_bipush (v := nI 63) hE d_Mo_isSmall_32 (by decide) ?_
  by_cases h7 : bl q.2.2 ≤ 63
  case neg =>
    refine z_icmp_gt (tgt := 41) hE d_Mo_isSmall_34 (by decide) (fun _ => ?_) (fun c_ => absurd c_ (fun z => z ((nI_LT (by omega) (by omega)).mpr (by omega))))
    exact no _ (fun q => h7 q.2)
  refine z_icmp_gt (tgt := 41) hE d_Mo_isSmall_34 (by decide) (fun c_ => absurd c_ (fun z => absurd ((nI_LT (by omega) (by omega)).mp z) (by omega))) (fun _ => ?_)
  refine z_iconst (v := 1) hE d_Mo_isSmall_37 (by decide) ?_
  refine z_goto (tgt := 42) hE d_Mo_isSmall_38 (by decide) ?_
  exact z_zret hE hQ d_Mo_isSmall_42 rfl (by omega) (by omega) (Or.inr rfl) ⟨by rw [if_pos ⟨h6, h7⟩], rfl, V1, G1⟩
/-! the reference against what the calls come to -/
def EQS (E : Nat → Option Qf) (S : Sx) : Prop := (∀ k, k < 16 → E k = S.1 k) ∧ ∀ r, r < 4 → ∀ k, k < 10 → E (16 + 10 * r + k) = S.2.2.1 r k
def MW (g : Gh) (P : Nat) (S : Sx) : Prop := ∃ E t ts, MV g P E S.2.1 S.2.2.2.1 S.2.2.2.2 ts t ∧ EQS E S
def pM (g : Gh) (P nx : Nat) (p : Vx) : Option Value → Gh → Nat → Prop := fun r g' nx' => r = some p.1 ∧ nx = nx' ∧ MW g' P p.2 ∧ gW g g' P (P + 14)
theorem EQS_F {E : Nat → Option Qf} {S : Sx} {f : Nat} {q : Option Qf} (h : EQS E S) (hf : f < 16) : EQS (upE E f q) (sF S f q) := by
  refine ⟨fun k hk => ?_, fun r hr k hk => ?_⟩
  · show (if k = f then q else E k) = (if k = f then q else S.1 k)
    rw [h.1 k hk]
  · show (if 16 + 10 * r + k = f then q else E (16 + 10 * r + k)) = S.2.2.1 r k
    rw [if_neg (by omega)]; exact h.2 r hr k hk
theorem EQS_P {E : Nat → Option Qf} {S : Sx} {r0 k0 : Nat} {q : Option Qf} (h : EQS E S) (hr0 : r0 < 4) (hk0 : k0 < 10) : EQS (upE E (16 + 10 * r0 + k0) q) (sP S r0 k0 q) := by
  refine ⟨fun k hk => ?_, fun r hr k hk => ?_⟩
  · show (if k = 16 + 10 * r0 + k0 then q else E k) = S.1 k
    rw [if_neg (by omega)]; exact h.1 k hk
  · show (if 16 + 10 * r + k = 16 + 10 * r0 + k0 then q else E (16 + 10 * r + k)) = (if r = r0 ∧ k = k0 then q else S.2.2.1 r k)
    by_cases hh : r = r0 ∧ k = k0
    · rw [if_pos hh, if_pos (by omega)]
    · rw [if_neg hh, if_neg (by omega)]; exact h.2 r hr k hk
theorem EQS_o {E : Nat → Option Qf} {S : Sx} {f : Nat} {q : Option Qf} (h : EQS E S) (hf : 56 ≤ f) : EQS (upE E f q) S := by
  refine ⟨fun k hk => ?_, fun r hr k hk => ?_⟩
  · show (if k = f then q else E k) = S.1 k
    rw [if_neg (by omega)]; exact h.1 k hk
  · show (if 16 + 10 * r + k = f then q else E (16 + 10 * r + k)) = S.2.2.1 r k
    rw [if_neg (by omega)]; exact h.2 r hr k hk
theorem EQS_c {E : Nat → Option Qf} {S S' : Sx} (h : EQS E S) (h1 : S'.1 = S.1) (h2 : S'.2.2.1 = S.2.2.1) : EQS E S' := by
  unfold EQS
  rw [h1, h2]; exact h
theorem pM_of {g g' : Gh} {P nx : Nat} {p : Vx} {v : Value} {E : Nat → Option Qf} {S : Sx} {ts : Int32} {t : Nat → Nat} (e : p = (v, S)) (hV : MV g' P E S.2.1 S.2.2.2.1 S.2.2.2.2 ts t) (hS : EQS E S) (hW : gW g g' P (P + 14)) : pM g P nx p (some v) g' nx := by
  subst e
  exact ⟨rfl, rfl, ⟨E, t, ts, hV, hS⟩, hW⟩
theorem c_Mo_made (l : Launch) {g : Gh} (nx : Nat) {P f : Nat} {E0 : Nat → Option Qf} {S : Sx} {ts : Int32} {t : Nat → Nat} (hV : MV g P E0 S.2.1 S.2.2.2.1 S.2.2.2.2 ts t) (hS : EQS E0 S) (hf : f < 16) (hB : 0 < t 7) (hBl : 2 * t 7 ≤ 65536 ^ 56) : Ct l m_Mo_made 0 0 [.ref P, .int (nI f)] g nx (pM g P nx (mkS S f (mk ts (t 6) (t 7)))) := by
  have h0 := hV.1
  obtain ⟨q, hq⟩ : ∃ q, mk ts (t 6) (t 7) = q := ⟨_, rfl⟩
  rw [hq]
  refine Ct.of (by decide) (Nat.le_of_ble_eq_true rfl) (fun E hE hQ => ?_)
  refine z_aload_n hE d_Mo_made_0 rfl ?_
  refine z_iload_n hE d_Mo_made_1 rfl ?_
  refine z_callV hE d_Mo_made_2 cl_Mo_102 (c_Mo_store l nx hV (by omega) hB hBl) (by assumption) cb_Mo rfl (Nat.le_of_ble_eq_true rfl) ⟨by decide, by decide⟩ ⟨by omega, by omega⟩ (fun r_1 g_1 nx_1 hp_1 => ?_) rfl
  try dsimp only [Option.toList, List.nil_append, List.cons_append]
  rw [hq] at hp_1
  obtain ⟨rfl, W1, t1, ⟨hw, rfl, V1⟩ | ⟨hw, rfl, V1⟩⟩ := hp_1
  case inr =>
    try dsimp only [Option.toList, List.nil_append, List.cons_append]
    have m1 := V1.1
    refine z_if_ne (tgt := 15) hE d_Mo_made_5 (by decide) (fun c_ => absurd c_ (by decide)) (fun _ => ?_)
    refine z_aload_n hE d_Mo_made_8 rfl ?_
    refine z_bipush (v := 6) hE d_Mo_made_9 (by decide) ?_
    refine z_callV hE d_Mo_made_11 cl_Mo_106 (c_Mo_fail l nx V1 6) (by assumption) cb_Mo rfl (Nat.le_of_ble_eq_true rfl) ⟨by decide, by decide⟩ ⟨by omega, by omega⟩ (fun r_2 g_2 nx_2 hp_2 => ?_) rfl
    try dsimp only [Option.toList, List.nil_append, List.cons_append]
    obtain ⟨rfl, rfl, V2, G2⟩ := hp_2
    try dsimp only [Option.toList, List.nil_append, List.cons_append]
    exact z_iret hE hQ d_Mo_made_14 rfl (by omega) (by omega) (pM_of (S := sC S 6) (if_neg hw) V2 (EQS_c hS rfl rfl) (gW_t W1 (g1_W G2 (by omega) (by omega))))
  try dsimp only [Option.toList, List.nil_append, List.cons_append]
  have m1 := V1.1
  have hSF := EQS_F (f := f) (q := some q) hS hf
  refine z_if_ne (tgt := 15) hE d_Mo_made_5 (by decide) (fun _ => ?_) (fun c_ => absurd c_ (by decide))
  refine z_aload_n hE d_Mo_made_15 rfl ?_
  refine z_dup hE d_Mo_made_16 rfl ?_
  refine z_get hE d_Mo_made_17 fl_Mo_110 (by assumption) rfl ?_
  refine z_aload_n hE d_Mo_made_20 rfl ?_
  refine z_iload_n hE d_Mo_made_21 rfl ?_
  refine z_callV hE d_Mo_made_22 cl_Mo_113 (c_Mo_isSmall l nx V1 (by omega) (if_pos rfl)) (by assumption) cb_Mo rfl (Nat.le_of_ble_eq_true rfl) ⟨by decide, by decide⟩ ⟨by omega, by omega⟩ (fun r_2 g_2 nx_2 hp_2 => ?_) rfl
  try dsimp only [Option.toList, List.nil_append, List.cons_append]
  obtain ⟨rfl, rfl, V2, G2⟩ := hp_2
  try dsimp only [Option.toList, List.nil_append, List.cons_append]
  have m2 := V2.1
  have fin : ∀ (z : Int32) lv, z = (if bl q.2.1 ≤ 63 ∧ bl q.2.2 ≤ 63 then 0 else 1) → lG lv 0 = some (.ref P) → lG lv 1 = some (.int (nI f)) → zJ E g_2 nx 0 0 33 lv [.int z, .int S.2.2.2.2, .ref P] := by
    intro z lv hz l0 l1
    refine z_sub (lv' := [(0, .ref P), (1, .int (nI f))]) (by simp only [List.map, l0, l1]) ?_
    refine z_iadd hE d_Mo_made_33 (rfl) ?_
    refine z_put hE d_Mo_made_34 fl_Mo_110 ct_Mo ff_Mo_6 (by assumption) rfl rfl (Nat.le_of_ble_eq_true rfl) ?_
    have V3 := MV_put V2 S.2.2.2.1 (S.2.2.2.2 + z) ts
    have m3 := V3.1
    obtain ⟨-, -, ⟨sn, A, B, b1, b2, b3, b4, b5, b6⟩, -⟩ := id V3
    have hs := (b6 f (by omega) q (if_pos rfl)).1
    refine z_aload_n hE d_Mo_made_37 rfl ?_
    refine z_aload_n hE d_Mo_made_38 rfl ?_
    refine z_get hE d_Mo_made_39 fl_Mo_13 (by assumption) rfl ?_
    refine z_iload_n hE d_Mo_made_42 rfl ?_
    refine z_iald hE d_Mo_made_43 (by assumption) (nI_in' (by omega : f < 58) (by omega)) ?_
    rw [nI_cl (by omega), hs]
    refine z_callV hE d_Mo_made_44 cl_Mo_116 (c_Mo_done l nx V3 q.1) (by assumption) cb_Mo rfl (Nat.le_of_ble_eq_true rfl) ⟨by decide, by decide⟩ ⟨by omega, by omega⟩ (fun r_3 g_3 nx_3 hp_3 => ?_) rfl
    try dsimp only [Option.toList, List.nil_append, List.cons_append]
    obtain ⟨rfl, rfl, V4, G4⟩ := hp_3
    try dsimp only [Option.toList, List.nil_append, List.cons_append]
    refine z_iret hE hQ d_Mo_made_47 rfl (by omega) (by omega) (pM_of (S := sC (sG (sF S f (some q)) z) 0) ?_ V4 (EQS_c hSF rfl rfl) (gW_t (gW_t (gW_t W1 (g2_W G2 (by omega) (by omega) (by omega) (by omega))) (gW_S (Nat.le_refl _) (by omega))) (g1_W G4 (by omega) (by omega))))
    rw [hz]
    exact if_pos hw
  by_cases hs : bl q.2.1 ≤ 63 ∧ bl q.2.2 ≤ 63
  · rw [if_pos hs]
    refine z_if_eq (tgt := 32) hE d_Mo_made_25 (by decide) (fun c_ => absurd c_ (by decide)) (fun _ => ?_)
    refine z_iconst (v := 0) hE d_Mo_made_28 (by decide) ?_
    refine z_goto (tgt := 33) hE d_Mo_made_29 (by decide) ?_
    exact fin 0 _ (by rw [if_pos hs]) rfl rfl
  · rw [if_neg hs]
    refine z_if_eq (tgt := 32) hE d_Mo_made_25 (by decide) (fun _ => ?_) (fun c_ => absurd c_ (by decide))
    refine z_iconst (v := 1) hE d_Mo_made_32 (by decide) ?_
    exact fin 1 _ (by rw [if_neg hs]) rfl rfl

