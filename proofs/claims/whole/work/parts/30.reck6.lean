/-! Reckoner: raise, ways, made -/
theorem i_neg {n : Int32} {z : Int} (h : n.toInt = z) (h1 : -1000000 ≤ z) (h2 : z ≤ 0) : -n = nI z.natAbs := by
  rw [← Int32.toInt_inj, Int32.toInt_neg, h, nI_ti (by omega)]
  rw [Int.bmod_eq_of_le (by omega) (by omega)]
  omega
theorem c_Re_raise (l : Launch) {g : Gh} (nx : Nat) {R f N M aa ab : Nat} {sg sa n : Int32} {v : Nat → Nat} (hV : RV g R sg v) (hf : FR g f N M sa aa ab) (hfo : f + 5 ≤ R ∨ R + 25 ≤ f) (b1 : aa < 4294967296 ^ 8) (b2 : ab < 4294967296 ^ 8) (hn1 : -300 ≤ n.toInt) (hn2 : n.toInt ≤ 300) : Ct l m_Re_raise 0 0 [.ref R, .ref f, .int n] g nx (fun w g' nx' => nx = nx' ∧ gW g g' R (R + 25) ∧ ∃ (X Y t : Nat) (v' : Nat → Nat), X = (if n.toInt < 0 then ab else aa) ∧ Y = (if n.toInt < 0 then aa else ab) ∧ t = n.toInt.natAbs ∧ RV g' R (if t % 2 = 0 ∧ (sa ≠ 0 ∨ t = 0) then 1 else sa) v' ∧ (X ^ t < 4294967296 ^ 8 ∧ Y ^ t < 4294967296 ^ 8 ∧ w = some (.int 1) ∧ v' 2 = X ^ t ∧ v' 4 = Y ^ t ∨ (4294967296 ^ 8 ≤ X ^ t ∨ 4294967296 ^ 8 ≤ Y ^ t) ∧ w = some (.int 0))) := by
  obtain ⟨f1, f2, f3⟩ := id hf
  have r1 := hV.1
  have r3 := hV.2.2.1
  unfold RE at r1
  obtain ⟨t, ht⟩ : ∃ t, n.toInt.natAbs = t := ⟨_, rfl⟩
  have ht300 : t ≤ 300 := by omega
  refine Ct.of (by decide) (Nat.le_of_ble_eq_true rfl) (fun E hE hQ => ?_)
  obtain ⟨s', hs'⟩ : ∃ s' : Int32, (if t % 2 = 0 ∧ (sa ≠ 0 ∨ t = 0) then 1 else sa) = s' := ⟨_, rfl⟩
  -- behind the sign
  have two : ∀ (g1 : Gh) lv, RV g1 R s' v → gW g g1 R (R + 25) → lG lv 0 = some (.ref R) → lG lv 1 = some (.ref f) → lG lv 2 = some (.int n) → lG lv 3 = some (.int (nI t)) → zJ E g1 nx 0 0 43 lv [] := by
    intro g1 lv V1 w1 l0 l1 l2 l3
    refine z_sub (lv' := [(0, .ref R), (1, .ref f), (2, .int n), (3, .int (nI t))]) (by simp only [List.map, l0, l1, l2, l3]) ?_
    obtain ⟨i1, i2, i3⟩ := id (FR_W hf w1 (by omega))
    have m1 := V1.1
    have m3 := V1.2.2.1
    unfold RE at m1
    have go : ∀ (X Y p q : Nat) lv, X = (if n.toInt < 0 then ab else aa) → Y = (if n.toInt < 0 then aa else ab) → X < 4294967296 ^ 8 → Y < 4294967296 ^ 8 → (∃ K, NA g1 p K X) → (p + 2 ≤ R ∨ R + 25 ≤ p) → (∀ gL lv, gW g gL R (R + 25) → (∃ sL vL, RV gL R sL vL) → lG lv 0 = some (.ref R) → lG lv 1 = some (.ref f) → lG lv 2 = some (.int n) → lG lv 3 = some (.int (nI t)) → (∃ K, NA gL q K Y) ∧ (zJ E gL nx 0 0 89 [(0, .ref R), (1, .ref f), (2, .int n), (3, .int (nI t))] [.ref q, .ref R] → zJ E gL nx 0 0 73 lv [])) → (q + 2 ≤ R ∨ R + 25 ≤ q) → lG lv 0 = some (.ref R) → lG lv 1 = some (.ref f) → lG lv 2 = some (.int n) → lG lv 3 = some (.int (nI t)) → zJ E g1 nx 0 0 59 lv [.ref p, .ref R] := by
      intro X Y p q lv eX eY bX bY hp hpo hq hqo l0 l1 l2 l3
      obtain ⟨K, hp⟩ := hp
      refine z_sub (lv' := [(0, .ref R), (1, .ref f), (2, .int n), (3, .int (nI t))]) (by simp only [List.map, l0, l1, l2, l3]) ?_
      refine z_iload_n hE d_Re_raise_59 rfl ?_
      refine z_aload_n hE d_Re_raise_60 rfl ?_
      refine z_get hE d_Re_raise_61 fl_Re_14 (by assumption) rfl ?_
      refine z_getN hE d_Re_raise_64 fl_Re_67 (by assumption) rfl ?_
      refine z_callV hE d_Re_raise_67 cl_Re_98 (c_Re_raiseInto l nx (r := 2) (k := t) V1 (Or.inl rfl) hp hpo bX (by omega)) (by assumption) cb_Re rfl (Nat.le_of_ble_eq_true rfl) ⟨by decide, by decide⟩ ⟨by omega, by omega⟩ (fun r_1 g_1 nx_1 hp_1 => ?_) rfl
      try dsimp only [Option.toList, List.nil_append, List.cons_append]
      obtain ⟨rfl, W2, v2, V2, eo2, hres⟩ := hp_1
      have w2 : gW g g_1 R (R + 25) := gW_t w1 W2
      rcases hres with ⟨c1, rfl, c2⟩ | ⟨c1, rfl⟩
      · try dsimp only [Option.toList, List.nil_append, List.cons_append]
        refine z_if_eq (tgt := 107) hE d_Re_raise_70 (by decide) (fun c_70 => ?_) (fun c_70 => ?_)
        · exact absurd c_70 (by decide)
        · obtain ⟨⟨K2, hq2⟩, hq3⟩ := hq g_1 [(0, .ref R), (1, .ref f), (2, .int n), (3, .int (nI t))] w2 ⟨_, _, V2⟩ rfl rfl rfl rfl
          refine hq3 ?_
          have m1 := V2.1
          have m3 := V2.2.2.1
          unfold RE at m1
          refine z_iload_n hE d_Re_raise_89 rfl ?_
          refine z_aload_n hE d_Re_raise_90 rfl ?_
          refine z_get hE d_Re_raise_91 fl_Re_14 (by assumption) rfl ?_
          refine z_getN hE d_Re_raise_94 fl_Re_74 (by assumption) rfl ?_
          refine z_callV hE d_Re_raise_97 cl_Re_98 (c_Re_raiseInto l nx (r := 4) (k := t) V2 (Or.inr rfl) hq2 hqo bY (by omega)) (by assumption) cb_Re rfl (Nat.le_of_ble_eq_true rfl) ⟨by decide, by decide⟩ ⟨by omega, by omega⟩ (fun r_2 g_2 nx_2 hp_2 => ?_) rfl
          try dsimp only [Option.toList, List.nil_append, List.cons_append]
          obtain ⟨rfl, W3, v3, V3, eo3, hres3⟩ := hp_2
          have w3 : gW g g_2 R (R + 25) := gW_t w2 W3
          rcases hres3 with ⟨c3, rfl, c4⟩ | ⟨c3, rfl⟩
          · try dsimp only [Option.toList, List.nil_append, List.cons_append]
            refine z_if_eq (tgt := 107) hE d_Re_raise_100 (by decide) (fun c_100 => ?_) (fun c_100 => ?_)
            · exact absurd c_100 (by decide)
            · refine z_iconst (v := 1) hE d_Re_raise_103 (by decide) ?_
              refine z_goto (tgt := 108) hE d_Re_raise_104 (by decide) ?_
              exact z_zret hE hQ d_Re_raise_108 rfl (Nat.le_refl _) (Nat.le_refl _) (Or.inr rfl) ⟨rfl, w3, X, Y, t, v3, eX, eY, ht.symm, by rw [hs']; exact V3, Or.inl ⟨c1, c3, rfl, by rw [eo3 2 (by decide) (by decide)]; exact c2, c4⟩⟩
          · try dsimp only [Option.toList, List.nil_append, List.cons_append]
            refine z_if_eq (tgt := 107) hE d_Re_raise_100 (by decide) (fun c_100 => ?_) (fun c_100 => ?_)
            · refine z_iconst (v := 0) hE d_Re_raise_107 (by decide) ?_
              exact z_zret hE hQ d_Re_raise_108 rfl (Nat.le_refl _) (Nat.le_refl _) (Or.inl rfl) ⟨rfl, w3, X, Y, t, v3, eX, eY, ht.symm, by rw [hs']; exact V3, Or.inr ⟨Or.inr c3, rfl⟩⟩
            · exact absurd rfl c_100
      · try dsimp only [Option.toList, List.nil_append, List.cons_append]
        refine z_if_eq (tgt := 107) hE d_Re_raise_70 (by decide) (fun c_70 => ?_) (fun c_70 => ?_)
        · refine z_iconst (v := 0) hE d_Re_raise_107 (by decide) ?_
          exact z_zret hE hQ d_Re_raise_108 rfl (Nat.le_refl _) (Nat.le_refl _) (Or.inl rfl) ⟨rfl, w2, X, Y, t, v2, eX, eY, ht.symm, by rw [hs']; exact V2, Or.inr ⟨Or.inl c1, rfl⟩⟩
        · exact absurd rfl c_70
    refine z_aload_n hE d_Re_raise_43 rfl ?_
    refine z_iload_n hE d_Re_raise_44 rfl ?_
    refine z_if_ge (tgt := 55) hE d_Re_raise_45 (by decide) (fun c_45 => ?_) (fun c_45 => ?_)
    · have hz : ¬ n.toInt < 0 := by have := i_ge0.mp c_45; omega
      refine z_aload_n hE d_Re_raise_55 rfl ?_
      refine z_getN hE d_Re_raise_56 fl_Re_67 (by assumption) rfl ?_
      refine go aa ab (f + 1) (f + 3) _ (by rw [if_neg hz]) (by rw [if_neg hz]) b1 b2 ⟨_, i2⟩ (by omega) ?_ (by omega) rfl rfl rfl rfl
      intro gL lv wL hLL l0 l1 l2 l3
      obtain ⟨sL, vL, VL⟩ := hLL
      obtain ⟨j1, j2, j3⟩ := id (FR_W hf wL (by omega))
      refine ⟨⟨_, j3⟩, fun hh => ?_⟩
      refine z_sub (lv' := [(0, .ref R), (1, .ref f), (2, .int n), (3, .int (nI t))]) (by simp only [List.map, l0, l1, l2, l3]) ?_
      refine z_aload_n hE d_Re_raise_73 rfl ?_
      refine z_iload_n hE d_Re_raise_74 rfl ?_
      refine z_if_ge (tgt := 85) hE d_Re_raise_75 (by decide) (fun c_75 => ?_) (fun c_75 => ?_)
      · refine z_aload_n hE d_Re_raise_85 rfl ?_
        refine z_getN hE d_Re_raise_86 fl_Re_74 (by assumption) rfl ?_
        exact hh
      · exact absurd (i_ge0.mpr (by omega)) c_75
    · have hz : n.toInt < 0 := by have := mt i_ge0.mpr c_45; omega
      refine z_aload_n hE d_Re_raise_48 rfl ?_
      refine z_getN hE d_Re_raise_49 fl_Re_74 (by assumption) rfl ?_
      refine z_goto (tgt := 59) hE d_Re_raise_52 (by decide) ?_
      refine go ab aa (f + 3) (f + 1) _ (by rw [if_pos hz]) (by rw [if_pos hz]) b2 b1 ⟨_, i3⟩ (by omega) ?_ (by omega) rfl rfl rfl rfl
      intro gL lv wL hLL l0 l1 l2 l3
      obtain ⟨sL, vL, VL⟩ := hLL
      obtain ⟨j1, j2, j3⟩ := id (FR_W hf wL (by omega))
      refine ⟨⟨_, j2⟩, fun hh => ?_⟩
      refine z_sub (lv' := [(0, .ref R), (1, .ref f), (2, .int n), (3, .int (nI t))]) (by simp only [List.map, l0, l1, l2, l3]) ?_
      refine z_aload_n hE d_Re_raise_73 rfl ?_
      refine z_iload_n hE d_Re_raise_74 rfl ?_
      refine z_if_ge (tgt := 85) hE d_Re_raise_75 (by decide) (fun c_75 => ?_) (fun c_75 => ?_)
      · exact absurd (i_ge0.mp c_75) (by omega)
      · refine z_aload_n hE d_Re_raise_78 rfl ?_
        refine z_getN hE d_Re_raise_79 fl_Re_67 (by assumption) rfl ?_
        refine z_goto (tgt := 89) hE d_Re_raise_82 (by decide) ?_
        exact hh
  -- the sign put
  have put : ∀ lv, lG lv 0 = some (.ref R) → lG lv 1 = some (.ref f) → lG lv 2 = some (.int n) → lG lv 3 = some (.int (nI t)) → zJ E g nx 0 0 40 lv [.int s', .ref (R + 1)] := by
    intro lv l0 l1 l2 l3
    refine z_putN hE d_Re_raise_40 fl_Re_55 ct_Fr ff_Fr_2 (by assumption) rfl rfl (Nat.le_of_ble_eq_true rfl) ?_
    exact two _ lv (RV_S hV) (gW_S (by omega) (by omega)) l0 l1 l2 l3
  have sign : ∀ lv, lG lv 0 = some (.ref R) → lG lv 1 = some (.ref f) → lG lv 2 = some (.int n) → zJ E g nx 0 0 10 lv [.int (nI t)] := by
    intro lv l0 l1 l2
    refine z_sub (lv' := [(0, .ref R), (1, .ref f), (2, .int n)]) (by simp only [List.map, l0, l1, l2]) ?_
    refine z_istore_n hE d_Re_raise_10 rfl (by decide) ?_
    refine z_aload_n hE d_Re_raise_11 rfl ?_
    refine z_get hE d_Re_raise_12 fl_Re_14 (by assumption) rfl ?_
    refine z_iload_n hE d_Re_raise_15 rfl ?_
    refine z_iconst (v := nI 2) hE d_Re_raise_16 (by decide) ?_
    refine z_irem (v := nI (t % 2)) hE d_Re_raise_17 (by decide) (pk_rem (by omega) (by omega) (by omega)) ?_
    refine z_if_ne (tgt := 36) hE d_Re_raise_18 (by decide) (fun c_18 => ?_) (fun c_18 => ?_)
    · have h2 : ¬ t % 2 = 0 := fun q => c_18 (by rw [q]; rfl)
      refine z_aload_n hE d_Re_raise_36 rfl ?_
      refine z_getN hE d_Re_raise_37 fl_Re_55 (by assumption) rfl ?_
      rw [if_neg (fun q => h2 q.1)] at hs'
      rw [hs']
      exact put _ rfl rfl rfl rfl
    · have h2 : t % 2 = 0 := (nI_EQ (b := 0) (by omega) (by omega)).mp c_18
      refine z_aload_n hE d_Re_raise_21 rfl ?_
      refine z_getN hE d_Re_raise_22 fl_Re_55 (by assumption) rfl ?_
      refine z_if_ne (tgt := 32) hE d_Re_raise_25 (by decide) (fun c_25 => ?_) (fun c_25 => ?_)
      · refine z_iconst (v := 1) hE d_Re_raise_32 (by decide) ?_
        refine z_goto (tgt := 40) hE d_Re_raise_33 (by decide) ?_
        rw [if_pos ⟨h2, Or.inl c_25⟩] at hs'
        rw [hs']
        exact put _ rfl rfl rfl rfl
      · refine z_iload_n hE d_Re_raise_28 rfl ?_
        refine z_if_ne (tgt := 36) hE d_Re_raise_29 (by decide) (fun c_29 => ?_) (fun c_29 => ?_)
        · have h3 : ¬ t = 0 := fun q => c_29 (by rw [q]; rfl)
          refine z_aload_n hE d_Re_raise_36 rfl ?_
          refine z_getN hE d_Re_raise_37 fl_Re_55 (by assumption) rfl ?_
          rw [if_neg (fun q => q.2.elim (fun z => z c_25) h3)] at hs'
          rw [hs']
          exact put _ rfl rfl rfl rfl
        · have h3 : t = 0 := (nI_EQ (b := 0) (by omega) (by omega)).mp c_29
          refine z_iconst (v := 1) hE d_Re_raise_32 (by decide) ?_
          refine z_goto (tgt := 40) hE d_Re_raise_33 (by decide) ?_
          rw [if_pos ⟨h2, Or.inr h3⟩] at hs'
          rw [hs']
          exact put _ rfl rfl rfl rfl
  refine z_iload_n hE d_Re_raise_0 rfl ?_
  refine z_if_ge (tgt := 9) hE d_Re_raise_1 (by decide) (fun c_1 => ?_) (fun c_1 => ?_)
  · have hz := i_ge0.mp c_1
    have e : n = nI t := by rw [← Int32.toInt_inj, nI_ti (by omega)]; omega
    refine z_iload_n hE d_Re_raise_9 rfl ?_
    have := sign [(0, .ref R), (1, .ref f), (2, .int n)] rfl rfl rfl
    rw [← e] at this
    exact this
  · have hz := mt i_ge0.mpr c_1
    refine z_iload_n hE d_Re_raise_4 rfl ?_
    refine z_ineg (v := nI t) hE d_Re_raise_5 (by rw [← ht]; exact i_neg rfl (by omega) (by omega)) ?_
    refine z_goto (tgt := 10) hE d_Re_raise_6 (by decide) ?_
    exact sign _ rfl rfl rfl

