/-! Row.take: as if the places were taken first -/
def tkP (i j n st x : Nat) : Prop := if j ≤ i then j ≤ x ∧ x < j + st else j + n ≤ x + st ∧ x < j + n
def tkK (i j n st : Nat) : Nat := if j ≤ i then st else n - 1 - st
theorem tkP_0 {i j n x : Nat} : ¬ tkP i j n 0 x := by
  unfold tkP; split <;> omega
theorem tkP_n {i j n x : Nat} : tkP i j n n x ↔ j ≤ x ∧ x < j + n := by
  unfold tkP; split <;> omega
theorem tkP_s {i j n st x : Nat} (h : st < n) : tkP i j n (st + 1) x ↔ tkP i j n st x ∨ x = j + tkK i j n st := by
  unfold tkP tkK; split <;> omega
theorem tkP_r {i j n st : Nat} (h : st < n) : ¬ tkP i j n st (i + tkK i j n st) := by
  unfold tkP tkK; split <;> omega
theorem tkK_lt {i j n st : Nat} (h : st < n) : tkK i j n st < n := by
  unfold tkK; split <;> omega
theorem c_Ro_take (l : Launch) {g : Gh} (nx : Nat) {t s i j n : Nat} {pt ps : Int32} {h h2 : Nat → Option Nat} (ht : RO g t pt h) (hs : RO g s ps h2) (hi : i + n ≤ 10) (hj : j + n ≤ 10) (hfr : ∀ k, k < 10 → ∀ w, h2 k = some w → ∃ vs, g w = some (.inr (1, vs))) : Ct l m_Ro_take 0 0 [.ref t, .int (nI j), .ref s, .int (nI i), .int (nI n)] g nx (fun v g' nx' => v = none ∧ nx = nx' ∧ ∃ h', g' = gR g t pt h' ∧ ∀ x, h' x = if j ≤ x ∧ x < j + n then h2 (i + (x - j)) else h x) := by
  have hst1 : s ≠ t + 1 := fun q => by
    have := hs.1
    rw [q, ht.2] at this
    cases this
  have hst2 : t ≠ s + 1 := fun q => by
    have := ht.1
    rw [q, hs.2] at this
    cases this
  have hkeep : ∀ (h' : Nat → Option Nat) k, k < 10 → ∀ w, h2 k = some w → ∃ vs, gR g t pt h' w = some (.inr (1, vs)) := by
    intro h' k hk w hw
    obtain ⟨vs, hvs⟩ := hfr k hk w hw
    refine ⟨vs, ?_⟩
    rw [gR_o]
    · exact hvs
    · intro q
      rw [q, ht.1] at hvs
      simp at hvs
    · intro q
      rw [q, ht.2] at hvs
      cases hvs
  refine Ct.of (by decide) (Nat.le_of_ble_eq_true rfl) (fun E hE hQ => ?_)
  have loop : ∀ (u st : Nat) (h' : Nat → Option Nat), st + u = n → (∀ x, tkP i j n st x → h' x = h2 (i + (x - j))) → (∀ x, ¬ tkP i j n st x → h' x = h x) → ∀ lv, lG lv 0 = some (.ref t) → lG lv 1 = some (.int (nI j)) → lG lv 2 = some (.ref s) → lG lv 3 = some (.int (nI i)) → lG lv 4 = some (.int (nI n)) → lG lv 5 = some (.int (nI st)) → zJ E (gR g t pt h') nx 0 0 3 lv [] := by
    intro u
    induction u with
    | zero =>
      intro st h' hst hp hnp lv l0 l1 l2 l3 l4 l5
      refine z_sub (lv' := [(0, .ref t), (1, .int (nI j)), (2, .ref s), (3, .int (nI i)), (4, .int (nI n)), (5, .int (nI st))]) (by simp only [List.map, l0, l1, l2, l3, l4, l5]) ?_
      have hst' : st = n := by omega
      subst hst'
      refine z_iload hE d_Ro_take_3 rfl ?_
      refine z_iload hE d_Ro_take_5 rfl ?_
      refine z_icmp_ge (tgt := 61) hE d_Ro_take_7 (by decide) (fun c_7 => ?_) (fun c_7 => ?_)
      · refine z_vret hE hQ d_Ro_take_61 rfl (Nat.le_refl _) (Nat.le_refl _) ⟨rfl, rfl, h', rfl, fun x => ?_⟩
        by_cases hx : j ≤ x ∧ x < j + st
        · rw [if_pos hx]; exact hp x (tkP_n.mpr hx)
        · rw [if_neg hx]; exact hnp x (fun q => hx (tkP_n.mp q))
      · exact absurd ((nI_LE (by omega) (by omega)).mpr (Nat.le_refl _)) c_7
    | succ u ih =>
      intro st h' hst hp hnp lv l0 l1 l2 l3 l4 l5
      refine z_sub (lv' := [(0, .ref t), (1, .int (nI j)), (2, .ref s), (3, .int (nI i)), (4, .int (nI n)), (5, .int (nI st))]) (by simp only [List.map, l0, l1, l2, l3, l4, l5]) ?_
      have hlt : st < n := by omega
      have hkl := tkK_lt (i := i) (j := j) hlt
      have hR := RO_gR (g := g) (r := t) (p := pt) (h := h')
      obtain ⟨q1, q2⟩ := id hR
      -- the source as it stands
      obtain ⟨hc, hRs, hcv⟩ : ∃ hc, RO (gR g t pt h') s ps hc ∧ hc (i + tkK i j n st) = h2 (i + tkK i j n st) := by
        by_cases hst3 : s = t
        · subst hst3
          have e1 := ht.1.symm.trans hs.1
          simp only [Option.some.injEq, Sum.inr.injEq, Prod.mk.injEq, List.cons.injEq, Value.int.injEq, true_and, and_true] at e1
          have e2 : h = h2 := by
            have := ht.2.symm.trans hs.2
            simp only [Option.some.injEq, Sum.inl.injEq, Prod.mk.injEq, Sum.inr.injEq, true_and] at this
            exact this
          refine ⟨h', by rw [← e1]; exact hR, ?_⟩
          rw [hnp _ (tkP_r hlt), e2]
        · exact ⟨h2, ⟨by rw [gR_o hst3 hst1]; exact hs.1, by rw [gR_o (by omega) (by omega)]; exact hs.2⟩, rfl⟩
      have hRs1 := hRs.1
      have go : ∀ lv, lG lv 0 = some (.ref t) → lG lv 1 = some (.int (nI j)) → lG lv 2 = some (.ref s) → lG lv 3 = some (.int (nI i)) → lG lv 4 = some (.int (nI n)) → lG lv 5 = some (.int (nI st)) → zJ E (gR g t pt h') nx 0 0 37 lv [.int (nI (tkK i j n st))] := by
        intro lv l0 l1 l2 l3 l4 l5
        refine z_sub (lv' := [(0, .ref t), (1, .int (nI j)), (2, .ref s), (3, .int (nI i)), (4, .int (nI n)), (5, .int (nI st))]) (by simp only [List.map, l0, l1, l2, l3, l4, l5]) ?_
        refine z_istore hE d_Ro_take_37 (by decide) ?_
        refine z_aload_n hE d_Ro_take_39 rfl ?_
        refine z_iload_n hE d_Ro_take_40 rfl ?_
        refine z_iload hE d_Ro_take_41 rfl ?_
        refine z_iadd (v := nI (j + tkK i j n st)) hE d_Ro_take_43 (nI_add _ _) ?_
        refine z_aload_n hE d_Ro_take_44 rfl ?_
        refine z_iload_n hE d_Ro_take_45 rfl ?_
        refine z_iload hE d_Ro_take_46 rfl ?_
        refine z_iadd (v := nI (i + tkK i j n st)) hE d_Ro_take_48 (nI_add _ _) ?_
        refine z_callV hE d_Ro_take_49 cl_Ro_27 (c_Ro_heldAt l nx hRs (i + tkK i j n st) (by omega)) (by assumption) cb_Ro rfl (Nat.le_of_ble_eq_true rfl) ⟨by decide, by decide⟩ ⟨by omega, by omega⟩ (fun r_49 g_49 nx_49 hp_49 => ?_) rfl
        obtain ⟨rfl, rfl, rfl⟩ := hp_49
        try dsimp only [Option.toList, List.nil_append, List.cons_append]
        rw [hcv]
        refine z_callV hE d_Ro_take_52 cl_Ro_31 (c_Ro_hold l nx hR (j + tkK i j n st) (by omega) (h2 (i + tkK i j n st)) (fun w hw => hkeep h' _ (by omega) w hw)) (by assumption) cb_Ro rfl (Nat.le_of_ble_eq_true rfl) ⟨by decide, by decide⟩ ⟨by omega, by omega⟩ (fun r_52 g_52 nx_52 hp_52 => ?_) rfl
        obtain ⟨rfl, rfl, rfl⟩ := hp_52
        try dsimp only [Option.toList, List.nil_append, List.cons_append]
        rw [gR_gR]
        refine z_iinc (v := nI (st + 1)) hE d_Ro_take_55 rfl (nI_1 st) (by decide) ?_
        refine z_goto (tgt := 3) hE d_Ro_take_58 (by decide) ?_
        refine ih (st + 1) _ (by omega) (fun x hx => ?_) (fun x hx => ?_) _ rfl rfl rfl rfl rfl rfl
        · unfold va_up
          by_cases hxe : x = j + tkK i j n st
          · rw [if_pos hxe, hxe, Nat.add_sub_cancel_left]
          · rw [if_neg hxe]
            rcases (tkP_s hlt).mp hx with z | z
            · exact hp x z
            · exact absurd z hxe
        · unfold va_up
          by_cases hxe : x = j + tkK i j n st
          · exact absurd ((tkP_s hlt).mpr (Or.inr hxe)) hx
          · rw [if_neg hxe]
            exact hnp x (fun z => hx ((tkP_s hlt).mpr (Or.inl z)))
      refine z_iload hE d_Ro_take_3 rfl ?_
      refine z_iload hE d_Ro_take_5 rfl ?_
      refine z_icmp_ge (tgt := 61) hE d_Ro_take_7 (by decide) (fun c_7 => ?_) (fun c_7 => ?_)
      · exact absurd ((nI_LE (by omega) (by omega)).mp c_7) (by omega)
      · refine z_iload hE d_Ro_take_10 rfl ?_
        refine z_aload_n hE d_Ro_take_12 rfl ?_
        refine z_get hE d_Ro_take_13 fl_Ro_11 (by assumption) rfl ?_
        refine z_alen hE d_Ro_take_16 (by assumption) (by decide) (rfl) ?_
        refine z_icmp_ge (tgt := 61) hE d_Ro_take_17 (by decide) (fun c_17 => ?_) (fun c_17 => ?_)
        · exact absurd ((nI_LE (a := 10) (b := st) (by omega) (by omega)).mp c_17) (by omega)
        · refine z_iload_n hE d_Ro_take_20 rfl ?_
          refine z_iload_n hE d_Ro_take_21 rfl ?_
          refine z_icmp_gt (tgt := 30) hE d_Ro_take_22 (by decide) (fun c_22 => ?_) (fun c_22 => ?_)
          · rw [nI_LT (by omega) (by omega)] at c_22
            have hk : tkK i j n st = n - 1 - st := if_neg (by omega)
            refine z_iload hE d_Ro_take_30 rfl ?_
            refine z_iconst (v := 1) hE d_Ro_take_32 (by decide) ?_
            refine z_isub (v := nI (n - 1)) hE d_Ro_take_33 (pk_sub (a := n) (b := 1) (by omega)) ?_
            refine z_iload hE d_Ro_take_34 rfl ?_
            refine z_isub (v := nI (tkK i j n st)) hE d_Ro_take_36 (by rw [hk]; exact pk_sub (by omega)) ?_
            exact go _ rfl rfl rfl rfl rfl rfl
          · rw [nI_LT (by omega) (by omega)] at c_22
            have hk : tkK i j n st = st := if_pos (by omega)
            refine z_iload hE d_Ro_take_25 rfl ?_
            refine z_goto (tgt := 37) hE d_Ro_take_27 (by decide) ?_
            have := go
            rw [hk] at this
            exact this _ rfl rfl rfl rfl rfl rfl
  refine z_iconst (v := nI 0) hE d_Ro_take_0 (by decide) ?_
  refine z_istore hE d_Ro_take_1 (by decide) ?_
  exact z_g (gR_id ht).symm (loop n 0 h (by omega) (fun x hx => absurd hx tkP_0) (fun _ _ => rfl) _ rfl rfl rfl rfl rfl rfl)

