/-! OddsFractions: its world -/
def KF (g : Gh) (O nx w : Nat) (q : Qf) : Prop := O + 62 ≤ w ∧ w + 5 ≤ nx ∧ (∃ N M, FR g w N M q.1 q.2.1 q.2.2) ∧ QK q
def HQ (g : Gh) (O nx : Nat) (a : Option Nat) (q : Option Qf) : Prop := (a = none ∧ q = none) ∨ ∃ w x, a = some w ∧ q = some x ∧ KF g O nx w x
abbrev oD (O : Nat) (c n : Int32) : gE := .inr (6, [.ref (O + 1), .ref (O + 2), .ref (O + 11), .ref (O + 36), .int c, .int n])
abbrev oA (fa : Nat → Option Nat) : gE := .inl (3, 16, .inr (.inr (.inr (.inr fa))))
def OV (g : Gh) (O nx : Nat) (S : Sx) (sg : Int32) (v w : Nat → Nat) : Prop :=
  g O = some (oD O S.2.2.2.1 S.2.2.2.2) ∧ (∃ fa, g (O + 1) = some (oA fa) ∧ ∀ k, k < 16 → HQ g O nx (fa k) (S.1 k)) ∧ (∃ ro : Nat → Option Nat, g (O + 2) = some (.inl (4, 4, .inr (.inr (.inr (.inr ro))))) ∧ ∀ k, k < 4 → ro k = some (O + 3 + 2 * k)) ∧
  (∀ r, r < 4 → (S.2.1 r = -1 ∨ ∃ n, n ≤ 10 ∧ S.2.1 r = nI n) ∧ ∃ h, RO g (O + 3 + 2 * r) (S.2.1 r) h ∧ ∀ k, k < 10 → HQ g O nx (h k) (S.2.2.1 r k)) ∧ RV g (O + 11) sg v ∧ TV g (O + 36) w ∧ O + 62 ≤ nx
def CW (g : Gh) (O nx : Nat) (S : Sx) : Prop := ∃ sg v w, OV g O nx S sg v w
/-- what a call of the class leaves: all that was there, but its own cells -/
def gX (g g' : Gh) (O nx : Nat) : Prop := ∀ q, q < O ∨ O + 48 ≤ q → q < nx → g' q = g q
theorem gX_r {g : Gh} {O nx : Nat} : gX g g O nx := fun _ _ _ => rfl
theorem gX_t {g g1 g2 : Gh} {O nx nx1 : Nat} (h1 : gX g g1 O nx) (h2 : gX g1 g2 O nx1) (hn : nx ≤ nx1) : gX g g2 O nx := fun q a b => (h2 q a (by omega)).trans (h1 q a b)
theorem gX_W {g g' : Gh} {O nx lo hi : Nat} (h : gW g g' lo hi) (h1 : O ≤ lo) (h2 : hi ≤ O + 48) : gX g g' O nx := fun q a _ => h q (by omega)
theorem gX_N {g g' : Gh} {O nx hi : Nat} (h : gW g g' nx hi) : gX g g' O nx := fun q _ b => h q (by omega)
theorem FR_E {g g' : Gh} {f N M a b : Nat} {sg : Int32} (h : FR g f N M sg a b) (he : ∀ q, f ≤ q → q < f + 5 → g' q = g q) : FR g' f N M sg a b := by
  obtain ⟨h1, ⟨n, d, q1, q2, q3⟩, ⟨m, e, p1, p2, p3⟩⟩ := h
  refine ⟨by rw [he f (by omega) (by omega)]; exact h1, ⟨n, d, ⟨?_, ?_, q1.2.2⟩, q2, q3⟩, ⟨m, e, ⟨?_, ?_, p1.2.2⟩, p2, p3⟩⟩
  · rw [he _ (by omega) (by omega)]; exact q1.1
  · rw [he _ (by omega) (by omega)]; exact q1.2.1
  · rw [he _ (by omega) (by omega)]; exact p1.1
  · rw [he _ (by omega) (by omega)]; exact p1.2.1
theorem KF_X {g g' : Gh} {O nx nx' w : Nat} {q : Qf} (h : KF g O nx w q) (hx : ∀ p, O + 62 ≤ p → p < nx → g' p = g p) (hn : nx ≤ nx') : KF g' O nx' w q := by
  obtain ⟨h1, h2, ⟨N, M, h3⟩, h4⟩ := h
  exact ⟨h1, by omega, ⟨N, M, FR_E h3 (fun p a b => hx p (by omega) (by omega))⟩, h4⟩
theorem HQ_X {g g' : Gh} {O nx nx' : Nat} {a : Option Nat} {q : Option Qf} (h : HQ g O nx a q) (hx : ∀ p, O + 62 ≤ p → p < nx → g' p = g p) (hn : nx ≤ nx') : HQ g' O nx' a q := by
  rcases h with h | ⟨w, x, h1, h2, h3⟩
  · exact Or.inl h
  · exact Or.inr ⟨w, x, h1, h2, KF_X h3 hx hn⟩
theorem RO_E {g g' : Gh} {r : Nat} {p : Int32} {h : Nat → Option Nat} (hr : RO g r p h) (he : ∀ q, r ≤ q → q < r + 2 → g' q = g q) : RO g' r p h := ⟨by rw [he r (by omega) (by omega)]; exact hr.1, by rw [he (r + 1) (by omega) (by omega)]; exact hr.2⟩
theorem TV_W {g g' : Gh} {T lo hi : Nat} {v : Nat → Nat} (h : TV g T v) (hw : gW g g' lo hi) (h1 : T + 12 ≤ lo ∨ hi ≤ T) : TV g' T v := by
  refine ⟨?_, ?_, fun j hj => ?_⟩
  · rw [hw T (by omega)]; exact h.1
  · unfold DV; rw [hw (T + 1) (by omega)]; exact h.2.1
  · have b := kT_b j hj
    exact NA_W (h.2.2 j hj) hw (by omega)
/-- the object's own fields put -/
theorem OV_put {g : Gh} {O nx : Nat} {S : Sx} {sg : Int32} {v w : Nat → Nat} (h : OV g O nx S sg v w) (c n : Int32) : OV (gS g O (oD O c n)) O nx (S.1, S.2.1, S.2.2.1, c, n) sg v w := by
  obtain ⟨h0, ⟨fa, h1, h1'⟩, ⟨ro, h2, h2'⟩, h3, h4, h5, h6⟩ := h
  have hw : gW g (gS g O (oD O c n)) O (O + 1) := gW_S (Nat.le_refl _) (by omega)
  refine ⟨gS_s, ⟨fa, by rw [gS_n (by omega)]; exact h1, fun k hk => HQ_X (h1' k hk) (fun p a b => gS_n (by omega)) (Nat.le_refl _)⟩, ⟨ro, by rw [gS_n (by omega)]; exact h2, h2'⟩, fun r hr => ?_, RV_W h4 hw (by omega), TV_W h5 hw (by omega), h6⟩
  obtain ⟨a1, x, a2, a3⟩ := h3 r hr
  exact ⟨a1, x, RO_E a2 (fun q a b => gS_n (by omega)), fun k hk => HQ_X (a3 k hk) (fun p a b => gS_n (by omega)) (Nat.le_refl _)⟩
/-- one fraction kept -/
theorem OV_fr {g : Gh} {O nx : Nat} {S : Sx} {sg : Int32} {v w : Nat → Nat} {fa : Nat → Option Nat} (h : OV g O nx S sg v w) (hfa : g (O + 1) = some (oA fa)) (f : Nat) (a : Option Nat) (q : Option Qf) (hq : HQ g O nx a q) : OV (gS g (O + 1) (oA (va_up fa f a))) O nx (sF S f q) sg v w := by
  obtain ⟨h0, ⟨fa', h1, h1'⟩, ⟨ro, h2, h2'⟩, h3, h4, h5, h6⟩ := h
  have hw : gW g (gS g (O + 1) (oA (va_up fa f a))) (O + 1) (O + 2) := gW_S (Nat.le_refl _) (by omega)
  have e : fa' = fa := by
    have := h1.symm.trans hfa
    simp only [Option.some.injEq, Sum.inl.injEq, Prod.mk.injEq, Sum.inr.injEq, true_and] at this
    exact this
  subst e
  refine ⟨by rw [gS_n (by omega)]; exact h0, ⟨_, gS_s, fun k hk => ?_⟩, ⟨ro, by rw [gS_n (by omega)]; exact h2, h2'⟩, fun r hr => ?_, RV_W h4 hw (by omega), TV_W h5 hw (by omega), h6⟩
  · show HQ _ O nx (va_up fa' f a k) (if k = f then q else S.1 k)
    unfold va_up
    by_cases hkf : k = f
    · rw [if_pos hkf, if_pos hkf]
      exact HQ_X hq (fun p a b => gS_n (by omega)) (Nat.le_refl _)
    · rw [if_neg hkf, if_neg hkf]
      exact HQ_X (h1' k hk) (fun p a b => gS_n (by omega)) (Nat.le_refl _)
  · obtain ⟨a1, x, a2, a3⟩ := h3 r hr
    exact ⟨a1, x, RO_E a2 (fun q a b => gS_n (by omega)), fun k hk => HQ_X (a3 k hk) (fun p a b => gS_n (by omega)) (Nat.le_refl _)⟩
/-- cells of the reckoner changed -/
theorem OV_re {g g' : Gh} {O nx : Nat} {S : Sx} {sg s' : Int32} {v w v' : Nat → Nat} (h : OV g O nx S sg v w) (hw : gW g g' (O + 11) (O + 11 + 25)) (hV : RV g' (O + 11) s' v') : OV g' O nx S s' v' w := by
  obtain ⟨h0, ⟨fa, h1, h1'⟩, ⟨ro, h2, h2'⟩, h3, h4, h5, h6⟩ := h
  refine ⟨by rw [hw _ (by omega)]; exact h0, ⟨fa, by rw [hw _ (by omega)]; exact h1, fun k hk => HQ_X (h1' k hk) (fun p a b => hw p (by omega)) (Nat.le_refl _)⟩, ⟨ro, by rw [hw _ (by omega)]; exact h2, h2'⟩, fun r hr => ?_, hV, TV_W h5 hw (by omega), h6⟩
  obtain ⟨a1, x, a2, a3⟩ := h3 r hr
  exact ⟨a1, x, RO_E a2 (fun q a b => hw q (by omega)), fun k hk => HQ_X (a3 k hk) (fun p a b => hw p (by omega)) (Nat.le_refl _)⟩
/-- cells of the teller changed -/
theorem OV_te {g g' : Gh} {O nx : Nat} {S : Sx} {sg : Int32} {v w w' : Nat → Nat} (h : OV g O nx S sg v w) (hw : gW g g' (O + 36) (O + 36 + 12)) (hT : TV g' (O + 36) w') : OV g' O nx S sg v w' := by
  obtain ⟨h0, ⟨fa, h1, h1'⟩, ⟨ro, h2, h2'⟩, h3, h4, h5, h6⟩ := h
  refine ⟨by rw [hw _ (by omega)]; exact h0, ⟨fa, by rw [hw _ (by omega)]; exact h1, fun k hk => HQ_X (h1' k hk) (fun p a b => hw p (by omega)) (Nat.le_refl _)⟩, ⟨ro, by rw [hw _ (by omega)]; exact h2, h2'⟩, fun r hr => ?_, RV_W h4 hw (by omega), hT, h6⟩
  obtain ⟨a1, x, a2, a3⟩ := h3 r hr
  exact ⟨a1, x, RO_E a2 (fun q a b => hw q (by omega)), fun k hk => HQ_X (a3 k hk) (fun p a b => hw p (by omega)) (Nat.le_refl _)⟩
/-- cells that aren't the class's changed, or new ones came -/
theorem OV_o {g g' : Gh} {O nx nx' : Nat} {S : Sx} {sg : Int32} {v w : Nat → Nat} (h : OV g O nx S sg v w) (hw : ∀ q, O ≤ q → q < O + 48 ∨ O + 62 ≤ q → q < nx → g' q = g q) (hn : nx ≤ nx') : OV g' O nx' S sg v w := by
  obtain ⟨h0, ⟨fa, h1, h1'⟩, ⟨ro, h2, h2'⟩, h3, h4, h5, h6⟩ := h
  refine ⟨by rw [hw _ (by omega) (by omega) (by omega)]; exact h0, ⟨fa, by rw [hw _ (by omega) (by omega) (by omega)]; exact h1, fun k hk => HQ_X (h1' k hk) (fun p a b => hw p (by omega) (by omega) (by omega)) hn⟩, ⟨ro, by rw [hw _ (by omega) (by omega) (by omega)]; exact h2, h2'⟩, fun r hr => ?_, ?_, ?_, by omega⟩
  · obtain ⟨a1, x, a2, a3⟩ := h3 r hr
    exact ⟨a1, x, RO_E a2 (fun q a b => hw q (by omega) (by omega) (by omega)), fun k hk => HQ_X (a3 k hk) (fun p a b => hw p (by omega) (by omega) (by omega)) hn⟩
  · refine ⟨?_, ?_, ?_, fun j hj => ?_⟩
    · unfold RE; rw [hw _ (by omega) (by omega) (by omega)]; exact h4.1
    · unfold DV; rw [hw _ (by omega) (by omega) (by omega)]; exact h4.2.1
    · rw [hw _ (by omega) (by omega) (by omega)]; exact h4.2.2.1
    · have b := kL_b j hj
      obtain ⟨n, d, q1, q2, q3⟩ := h4.2.2.2 j hj
      exact ⟨n, d, ⟨by rw [hw _ (by omega) (by omega) (by omega)]; exact q1.1, by rw [hw _ (by omega) (by omega) (by omega)]; exact q1.2.1, q1.2.2⟩, q2, q3⟩
  · refine ⟨?_, ?_, fun j hj => ?_⟩
    · rw [hw _ (by omega) (by omega) (by omega)]; exact h5.1
    · unfold DV; rw [hw _ (by omega) (by omega) (by omega)]; exact h5.2.1
    · have b := kT_b j hj
      obtain ⟨n, d, q1, q2, q3⟩ := h5.2.2 j hj
      exact ⟨n, d, ⟨by rw [hw _ (by omega) (by omega) (by omega)]; exact q1.1, by rw [hw _ (by omega) (by omega) (by omega)]; exact q1.2.1, q1.2.2⟩, q2, q3⟩
/-- a row's places changed -/
theorem OV_ro {g : Gh} {O nx : Nat} {S S' : Sx} {sg : Int32} {v w : Nat → Nat} {r : Nat} {p : Int32} {h' : Nat → Option Nat} (h : OV g O nx S sg v w) (hr : r < 4) (e1 : S'.1 = S.1) (e2 : S'.2.2.2 = S.2.2.2) (e3 : ∀ j, j < 4 → j ≠ r → S'.2.1 j = S.2.1 j ∧ ∀ k, S'.2.2.1 j k = S.2.2.1 j k) (e4 : S'.2.1 r = p) (e5 : p = -1 ∨ ∃ n, n ≤ 10 ∧ p = nI n) (e6 : ∀ k, k < 10 → HQ g O nx (h' k) (S'.2.2.1 r k)) : OV (gR g (O + 3 + 2 * r) p h') O nx S' sg v w := by
  obtain ⟨h0, ⟨fa, h1, h1'⟩, ⟨ro, h2, h2'⟩, h3, h4, h5, h6⟩ := h
  have hw : gW g (gR g (O + 3 + 2 * r) p h') (O + 3 + 2 * r) (O + 3 + 2 * r + 2) := fun q hq => gR_o (by omega) (by omega)
  refine ⟨by rw [hw _ (by omega), e2]; exact h0, ⟨fa, by rw [hw _ (by omega)]; exact h1, fun k hk => by rw [e1]; exact HQ_X (h1' k hk) (fun p a b => hw p (by omega)) (Nat.le_refl _)⟩, ⟨ro, by rw [hw _ (by omega)]; exact h2, h2'⟩, fun j hj => ?_, RV_W h4 hw (by omega), TV_W h5 hw (by omega), h6⟩
  by_cases hjr : j = r
  · subst hjr
    rw [e4]
    exact ⟨e5, h', RO_gR, fun k hk => HQ_X (e6 k hk) (fun p a b => hw p (by omega)) (Nat.le_refl _)⟩
  · obtain ⟨a1, x, a2, a3⟩ := h3 j hj
    obtain ⟨b1, b2⟩ := e3 j hj hjr
    rw [b1]
    exact ⟨a1, x, RO_E a2 (fun q a b => hw q (by omega)), fun k hk => by rw [b2]; exact HQ_X (a3 k hk) (fun p a b => hw p (by omega)) (Nat.le_refl _)⟩
theorem OV_SOK {g : Gh} {O nx : Nat} {S : Sx} {sg : Int32} {v w : Nat → Nat} (h : OV g O nx S sg v w) : SOK S := by
  obtain ⟨h0, ⟨fa, h1, h1'⟩, ⟨ro, h2, h2'⟩, h3, h4, h5, h6⟩ := h
  refine ⟨fun k hk q hq => ?_, fun r hr => (h3 r hr).1, fun r hr k hk q hq => ?_⟩
  · rcases h1' k hk with z | ⟨_, x, -, z, y⟩
    · rw [z.2] at hq; cases hq
    · rw [z] at hq; cases hq; exact y.2.2.2
  · obtain ⟨-, x, -, a3⟩ := h3 r hr
    rcases a3 k hk with z | ⟨_, x, -, z, y⟩
    · rw [z.2] at hq; cases hq
    · rw [z] at hq; cases hq; exact y.2.2.2
/-- a call's end -/
def pO (g : Gh) (O nx : Nat) (p : Vx) : Option Value → Gh → Nat → Prop := fun r g' nx' => r = some p.1 ∧ nx ≤ nx' ∧ CW g' O nx' p.2 ∧ gX g g' O nx
theorem d_Od_isOut_0 : decode b_Od_isOut 0 = .ok (.iload_n 0, 1) := by decide +kernel
theorem d_Od_isOut_1 : decode b_Od_isOut 1 = .ok (.iload_n 1, 1) := by decide +kernel
theorem d_Od_isOut_2 : decode b_Od_isOut 2 = .ok (.if_icmp .lt 8, 3) := by decide +kernel
theorem d_Od_isOut_5 : decode b_Od_isOut 5 = .ok (.iload_n 0, 1) := by decide +kernel
theorem d_Od_isOut_6 : decode b_Od_isOut 6 = .ok (.iload_n 2, 1) := by decide +kernel
theorem d_Od_isOut_7 : decode b_Od_isOut 7 = .ok (.if_icmp .le 7, 3) := by decide +kernel
theorem d_Od_isOut_10 : decode b_Od_isOut 10 = .ok (.iconst 1, 1) := by decide +kernel
theorem d_Od_isOut_11 : decode b_Od_isOut 11 = .ok (.goto 4, 3) := by decide +kernel
theorem d_Od_isOut_14 : decode b_Od_isOut 14 = .ok (.iconst 0, 1) := by decide +kernel
theorem d_Od_isOut_15 : decode b_Od_isOut 15 = .ok (.ireturn, 1) := by decide +kernel
theorem d_Od_isNoFraction_0 : decode b_Od_isNoFraction 0 = .ok (.iload_n 0, 1) := by decide +kernel
theorem d_Od_isNoFraction_1 : decode b_Od_isNoFraction 1 = .ok (.iconst 0, 1) := by decide +kernel
theorem d_Od_isNoFraction_2 : decode b_Od_isNoFraction 2 = .ok (.bipush 15, 2) := by decide +kernel
theorem d_Od_isNoFraction_4 : decode b_Od_isNoFraction 4 = .ok (.invokestatic 73, 3) := by decide +kernel
theorem d_Od_isNoFraction_7 : decode b_Od_isNoFraction 7 = .ok (.ireturn, 1) := by decide +kernel
theorem d_Od_isNoRow_0 : decode b_Od_isNoRow 0 = .ok (.iload_n 0, 1) := by decide +kernel
theorem d_Od_isNoRow_1 : decode b_Od_isNoRow 1 = .ok (.iconst 0, 1) := by decide +kernel
theorem d_Od_isNoRow_2 : decode b_Od_isNoRow 2 = .ok (.iconst 3, 1) := by decide +kernel
theorem d_Od_isNoRow_3 : decode b_Od_isNoRow 3 = .ok (.invokestatic 73, 3) := by decide +kernel
theorem d_Od_isNoRow_6 : decode b_Od_isNoRow 6 = .ok (.ireturn, 1) := by decide +kernel
theorem d_Od_fractionAt_0 : decode b_Od_fractionAt 0 = .ok (.iload_n 1, 1) := by decide +kernel
theorem d_Od_fractionAt_1 : decode b_Od_fractionAt 1 = .ok (.ifCond .lt 21, 3) := by decide +kernel
theorem d_Od_fractionAt_4 : decode b_Od_fractionAt 4 = .ok (.iload_n 1, 1) := by decide +kernel
theorem d_Od_fractionAt_5 : decode b_Od_fractionAt 5 = .ok (.aload_n 0, 1) := by decide +kernel
theorem d_Od_fractionAt_6 : decode b_Od_fractionAt 6 = .ok (.getfield 11, 3) := by decide +kernel
theorem d_Od_fractionAt_9 : decode b_Od_fractionAt 9 = .ok (.arraylength, 1) := by decide +kernel
theorem d_Od_fractionAt_10 : decode b_Od_fractionAt 10 = .ok (.if_icmp .ge 12, 3) := by decide +kernel
theorem d_Od_fractionAt_13 : decode b_Od_fractionAt 13 = .ok (.aload_n 0, 1) := by decide +kernel
theorem d_Od_fractionAt_14 : decode b_Od_fractionAt 14 = .ok (.getfield 11, 3) := by decide +kernel
theorem d_Od_fractionAt_17 : decode b_Od_fractionAt 17 = .ok (.iload_n 1, 1) := by decide +kernel
theorem d_Od_fractionAt_18 : decode b_Od_fractionAt 18 = .ok (.aaload, 1) := by decide +kernel
theorem d_Od_fractionAt_19 : decode b_Od_fractionAt 19 = .ok (.goto 4, 3) := by decide +kernel
theorem d_Od_fractionAt_22 : decode b_Od_fractionAt 22 = .ok (.aconst_null, 1) := by decide +kernel
theorem d_Od_fractionAt_23 : decode b_Od_fractionAt 23 = .ok (.areturn, 1) := by decide +kernel
theorem d_Od_keep_0 : decode b_Od_keep 0 = .ok (.iload_n 1, 1) := by decide +kernel
theorem d_Od_keep_1 : decode b_Od_keep 1 = .ok (.ifCond .lt 19, 3) := by decide +kernel
theorem d_Od_keep_4 : decode b_Od_keep 4 = .ok (.iload_n 1, 1) := by decide +kernel
theorem d_Od_keep_5 : decode b_Od_keep 5 = .ok (.aload_n 0, 1) := by decide +kernel
theorem d_Od_keep_6 : decode b_Od_keep 6 = .ok (.getfield 11, 3) := by decide +kernel
theorem d_Od_keep_9 : decode b_Od_keep 9 = .ok (.arraylength, 1) := by decide +kernel
theorem d_Od_keep_10 : decode b_Od_keep 10 = .ok (.if_icmp .ge 10, 3) := by decide +kernel
theorem d_Od_keep_13 : decode b_Od_keep 13 = .ok (.aload_n 0, 1) := by decide +kernel
theorem d_Od_keep_14 : decode b_Od_keep 14 = .ok (.getfield 11, 3) := by decide +kernel
theorem d_Od_keep_17 : decode b_Od_keep 17 = .ok (.iload_n 1, 1) := by decide +kernel
theorem d_Od_keep_18 : decode b_Od_keep 18 = .ok (.aload_n 2, 1) := by decide +kernel
theorem d_Od_keep_19 : decode b_Od_keep 19 = .ok (.aastore, 1) := by decide +kernel
theorem d_Od_keep_20 : decode b_Od_keep 20 = .ok (.return_, 1) := by decide +kernel
theorem d_Od_rowAt_0 : decode b_Od_rowAt 0 = .ok (.iload_n 1, 1) := by decide +kernel
theorem d_Od_rowAt_1 : decode b_Od_rowAt 1 = .ok (.ifCond .lt 21, 3) := by decide +kernel
theorem d_Od_rowAt_4 : decode b_Od_rowAt 4 = .ok (.iload_n 1, 1) := by decide +kernel
theorem d_Od_rowAt_5 : decode b_Od_rowAt 5 = .ok (.aload_n 0, 1) := by decide +kernel
theorem d_Od_rowAt_6 : decode b_Od_rowAt 6 = .ok (.getfield 17, 3) := by decide +kernel
theorem d_Od_rowAt_9 : decode b_Od_rowAt 9 = .ok (.arraylength, 1) := by decide +kernel
theorem d_Od_rowAt_10 : decode b_Od_rowAt 10 = .ok (.if_icmp .ge 12, 3) := by decide +kernel
theorem d_Od_rowAt_13 : decode b_Od_rowAt 13 = .ok (.aload_n 0, 1) := by decide +kernel
theorem d_Od_rowAt_14 : decode b_Od_rowAt 14 = .ok (.getfield 17, 3) := by decide +kernel
theorem d_Od_rowAt_17 : decode b_Od_rowAt 17 = .ok (.iload_n 1, 1) := by decide +kernel
theorem d_Od_rowAt_18 : decode b_Od_rowAt 18 = .ok (.aaload, 1) := by decide +kernel
theorem d_Od_rowAt_19 : decode b_Od_rowAt 19 = .ok (.goto 4, 3) := by decide +kernel
theorem d_Od_rowAt_22 : decode b_Od_rowAt 22 = .ok (.aconst_null, 1) := by decide +kernel
theorem d_Od_rowAt_23 : decode b_Od_rowAt 23 = .ok (.astore_n 2, 1) := by decide +kernel
theorem d_Od_rowAt_24 : decode b_Od_rowAt 24 = .ok (.aload_n 2, 1) := by decide +kernel
theorem d_Od_rowAt_25 : decode b_Od_rowAt 25 = .ok (.ifnull 14, 3) := by decide +kernel
theorem d_Od_rowAt_28 : decode b_Od_rowAt 28 = .ok (.aload_n 2, 1) := by decide +kernel
theorem d_Od_rowAt_29 : decode b_Od_rowAt 29 = .ok (.invokevirtual 206, 3) := by decide +kernel
theorem d_Od_rowAt_32 : decode b_Od_rowAt 32 = .ok (.ifCond .eq 7, 3) := by decide +kernel
theorem d_Od_rowAt_35 : decode b_Od_rowAt 35 = .ok (.aload_n 2, 1) := by decide +kernel
theorem d_Od_rowAt_36 : decode b_Od_rowAt 36 = .ok (.goto 4, 3) := by decide +kernel
theorem d_Od_rowAt_39 : decode b_Od_rowAt 39 = .ok (.aconst_null, 1) := by decide +kernel
theorem d_Od_rowAt_40 : decode b_Od_rowAt 40 = .ok (.areturn, 1) := by decide +kernel
theorem d_Od_tell_0 : decode b_Od_tell 0 = .ok (.aload_n 0, 1) := by decide +kernel
theorem d_Od_tell_1 : decode b_Od_tell 1 = .ok (.iload_n 1, 1) := by decide +kernel
theorem d_Od_tell_2 : decode b_Od_tell 2 = .ok (.putfield 36, 3) := by decide +kernel
theorem d_Od_tell_5 : decode b_Od_tell 5 = .ok (.iconst 0, 1) := by decide +kernel
theorem d_Od_tell_6 : decode b_Od_tell 6 = .ok (.ireturn, 1) := by decide +kernel
theorem d_Od_done_0 : decode b_Od_done 0 = .ok (.aload_n 0, 1) := by decide +kernel
theorem d_Od_done_1 : decode b_Od_done 1 = .ok (.iconst 0, 1) := by decide +kernel
theorem d_Od_done_2 : decode b_Od_done 2 = .ok (.putfield 36, 3) := by decide +kernel
theorem d_Od_done_5 : decode b_Od_done 5 = .ok (.iload_n 1, 1) := by decide +kernel
theorem d_Od_done_6 : decode b_Od_done 6 = .ok (.ireturn, 1) := by decide +kernel
theorem d_Od_make_0 : decode b_Od_make 0 = .ok (.aload_n 0, 1) := by decide +kernel
theorem d_Od_make_1 : decode b_Od_make 1 = .ok (.getfield 25, 3) := by decide +kernel
theorem d_Od_make_4 : decode b_Od_make 4 = .ok (.getfield 182, 3) := by decide +kernel
theorem d_Od_make_7 : decode b_Od_make 7 = .ok (.astore_n 2, 1) := by decide +kernel
theorem d_Od_make_8 : decode b_Od_make 8 = .ok (.aload_n 2, 1) := by decide +kernel
theorem d_Od_make_9 : decode b_Od_make 9 = .ok (.invokevirtual 203, 3) := by decide +kernel
theorem d_Od_make_12 : decode b_Od_make 12 = .ok (.ifCond .ne 10, 3) := by decide +kernel
theorem d_Od_make_15 : decode b_Od_make 15 = .ok (.aload_n 0, 1) := by decide +kernel
theorem d_Od_make_16 : decode b_Od_make 16 = .ok (.bipush 6, 2) := by decide +kernel
theorem d_Od_make_18 : decode b_Od_make 18 = .ok (.invokevirtual 48, 3) := by decide +kernel
theorem d_Od_make_21 : decode b_Od_make 21 = .ok (.ireturn, 1) := by decide +kernel
theorem d_Od_make_22 : decode b_Od_make 22 = .ok (.aload_n 0, 1) := by decide +kernel
theorem d_Od_make_23 : decode b_Od_make 23 = .ok (.iload_n 1, 1) := by decide +kernel
theorem d_Od_make_24 : decode b_Od_make 24 = .ok (.aload_n 2, 1) := by decide +kernel
theorem d_Od_make_25 : decode b_Od_make 25 = .ok (.invokevirtual 209, 3) := by decide +kernel
theorem d_Od_make_28 : decode b_Od_make 28 = .ok (.invokevirtual 63, 3) := by decide +kernel
theorem d_Od_make_31 : decode b_Od_make 31 = .ok (.aload_n 2, 1) := by decide +kernel
theorem d_Od_make_32 : decode b_Od_make 32 = .ok (.invokevirtual 101, 3) := by decide +kernel
theorem d_Od_make_35 : decode b_Od_make 35 = .ok (.ifCond .ne 13, 3) := by decide +kernel
theorem d_Od_make_38 : decode b_Od_make 38 = .ok (.aload_n 0, 1) := by decide +kernel
theorem d_Od_make_39 : decode b_Od_make 39 = .ok (.dup, 1) := by decide +kernel
theorem d_Od_make_40 : decode b_Od_make 40 = .ok (.getfield 40, 3) := by decide +kernel
theorem d_Od_make_43 : decode b_Od_make 43 = .ok (.iconst 1, 1) := by decide +kernel
theorem d_Od_make_44 : decode b_Od_make 44 = .ok (.iadd, 1) := by decide +kernel
theorem d_Od_make_45 : decode b_Od_make 45 = .ok (.putfield 40, 3) := by decide +kernel
theorem d_Od_make_48 : decode b_Od_make 48 = .ok (.aload_n 0, 1) := by decide +kernel
theorem d_Od_make_49 : decode b_Od_make 49 = .ok (.aload_n 2, 1) := by decide +kernel
theorem d_Od_make_50 : decode b_Od_make 50 = .ok (.getfield 67, 3) := by decide +kernel
theorem d_Od_make_53 : decode b_Od_make 53 = .ok (.invokevirtual 70, 3) := by decide +kernel
theorem d_Od_make_56 : decode b_Od_make 56 = .ok (.ireturn, 1) := by decide +kernel
theorem d_Od_code_0 : decode b_Od_code 0 = .ok (.aload_n 0, 1) := by decide +kernel
theorem d_Od_code_1 : decode b_Od_code 1 = .ok (.getfield 36, 3) := by decide +kernel
theorem d_Od_code_4 : decode b_Od_code 4 = .ok (.ireturn, 1) := by decide +kernel
theorem d_Od_grown_0 : decode b_Od_grown 0 = .ok (.aload_n 0, 1) := by decide +kernel
theorem d_Od_grown_1 : decode b_Od_grown 1 = .ok (.getfield 40, 3) := by decide +kernel
theorem d_Od_grown_4 : decode b_Od_grown 4 = .ok (.ireturn, 1) := by decide +kernel
theorem c_Od_isOut (l : Launch) (g : Gh) (nx : Nat) (x a b : Int32) : Ct l m_Od_isOut 0 0 [.int x, .int a, .int b] g nx (pP (some (.int (if inI x a.toInt b.toInt then 0 else 1))) g nx) := by
  refine Ct.of (by decide) (Nat.le_of_ble_eq_true rfl) (fun E hE hQ => ?_)
  have yes : ∀ lv, ¬ inI x a.toInt b.toInt → zJ E g nx 0 0 10 lv [] := by
    intro lv h
    refine z_iconst (v := 1) hE d_Od_isOut_10 (by decide) ?_
    refine z_goto (tgt := 15) hE d_Od_isOut_11 (by decide) ?_
    exact z_zret hE hQ d_Od_isOut_15 rfl (Nat.le_refl _) (Nat.le_refl _) (Or.inr rfl) ⟨by rw [if_neg h], rfl, rfl⟩
  refine z_iload_n hE d_Od_isOut_0 rfl ?_
  refine z_iload_n hE d_Od_isOut_1 rfl ?_
  refine z_icmp_lt (tgt := 10) hE d_Od_isOut_2 (by decide) (fun c_2 => ?_) (fun c_2 => ?_)
  · rw [Int32.lt_iff_toInt_lt] at c_2
    exact yes _ (by unfold inI; omega)
  · rw [Int32.lt_iff_toInt_lt] at c_2
    refine z_iload_n hE d_Od_isOut_5 rfl ?_
    refine z_iload_n hE d_Od_isOut_6 rfl ?_
    refine z_icmp_le (tgt := 14) hE d_Od_isOut_7 (by decide) (fun c_7 => ?_) (fun c_7 => ?_)
    · rw [Int32.le_iff_toInt_le] at c_7
      refine z_iconst (v := 0) hE d_Od_isOut_14 (by decide) ?_
      exact z_zret hE hQ d_Od_isOut_15 rfl (Nat.le_refl _) (Nat.le_refl _) (Or.inl rfl) ⟨by rw [if_pos ⟨by omega, by omega⟩], rfl, rfl⟩
    · rw [Int32.le_iff_toInt_le] at c_7
      exact yes _ (by unfold inI; omega)
theorem c_Od_isNoFraction (l : Launch) (g : Gh) (nx : Nat) (x : Int32) : Ct l m_Od_isNoFraction 0 0 [.int x] g nx (pP (some (.int (if inI x 0 15 then 0 else 1))) g nx) := by
  refine Ct.of (by decide) (Nat.le_of_ble_eq_true rfl) (fun E hE hQ => ?_)
  refine z_iload_n hE d_Od_isNoFraction_0 rfl ?_
  refine z_iconst (v := 0) hE d_Od_isNoFraction_1 (by decide) ?_
  refine z_bipush (v := 15) hE d_Od_isNoFraction_2 (by decide) ?_
  refine z_callS hE d_Od_isNoFraction_4 cl_Od_73 (c_Od_isOut l g nx x 0 15) rfl (Nat.le_of_ble_eq_true rfl) ⟨by decide, by decide⟩ ⟨by omega, by omega⟩ (fun r_4 g_4 nx_4 hp_4 => ?_) rfl
  obtain ⟨rfl, rfl, rfl⟩ := hp_4
  try dsimp only [Option.toList, List.nil_append, List.cons_append]
  refine z_zret hE hQ d_Od_isNoFraction_7 rfl (Nat.le_refl _) (Nat.le_refl _) (by split; exact Or.inl rfl; exact Or.inr rfl) ⟨rfl, rfl, rfl⟩
theorem c_Od_isNoRow (l : Launch) (g : Gh) (nx : Nat) (x : Int32) : Ct l m_Od_isNoRow 0 0 [.int x] g nx (pP (some (.int (if inI x 0 3 then 0 else 1))) g nx) := by
  refine Ct.of (by decide) (Nat.le_of_ble_eq_true rfl) (fun E hE hQ => ?_)
  refine z_iload_n hE d_Od_isNoRow_0 rfl ?_
  refine z_iconst (v := 0) hE d_Od_isNoRow_1 (by decide) ?_
  refine z_iconst (v := 3) hE d_Od_isNoRow_2 (by decide) ?_
  refine z_callS hE d_Od_isNoRow_3 cl_Od_73 (c_Od_isOut l g nx x 0 3) rfl (Nat.le_of_ble_eq_true rfl) ⟨by decide, by decide⟩ ⟨by omega, by omega⟩ (fun r_3 g_3 nx_3 hp_3 => ?_) rfl
  obtain ⟨rfl, rfl, rfl⟩ := hp_3
  try dsimp only [Option.toList, List.nil_append, List.cons_append]
  refine z_zret hE hQ d_Od_isNoRow_6 rfl (Nat.le_refl _) (Nat.le_refl _) (by split; exact Or.inl rfl; exact Or.inr rfl) ⟨rfl, rfl, rfl⟩
theorem c_Od_fractionAt (l : Launch) {g : Gh} {nx O : Nat} {S : Sx} {sg : Int32} {v w : Nat → Nat} (hC : OV g O nx S sg v w) (f : Nat) (hf : f < 16) : Ct l m_Od_fractionAt 0 0 [.ref O, .int (nI f)] g nx (fun r g' nx' => g = g' ∧ nx = nx' ∧ (r = some .null ∧ S.1 f = none ∨ ∃ a q, r = some (.ref a) ∧ S.1 f = some q ∧ KF g O nx a q)) := by
  obtain ⟨h0, ⟨fa, h1, h1'⟩, -⟩ := id hC
  refine Ct.of (by decide) (Nat.le_of_ble_eq_true rfl) (fun E hE hQ => ?_)
  refine z_iload_n hE d_Od_fractionAt_0 rfl ?_
  refine z_if_lt (tgt := 22) hE d_Od_fractionAt_1 (by decide) (fun c_1 => ?_) (fun c_1 => ?_)
  · exact absurd c_1 (nI_pos (by omega))
  · refine z_iload_n hE d_Od_fractionAt_4 rfl ?_
    refine z_aload_n hE d_Od_fractionAt_5 rfl ?_
    refine z_get hE d_Od_fractionAt_6 fl_Od_11 (by assumption) rfl ?_
    refine z_alen hE d_Od_fractionAt_9 (by assumption) (by decide) (rfl) ?_
    refine z_icmp_ge (tgt := 22) hE d_Od_fractionAt_10 (by decide) (fun c_10 => ?_) (fun c_10 => ?_)
    · exact absurd ((nI_LE (a := 16) (b := f) (by omega) (by omega)).mp c_10) (by omega)
    · refine z_aload_n hE d_Od_fractionAt_13 rfl ?_
      refine z_get hE d_Od_fractionAt_14 fl_Od_11 (by assumption) rfl ?_
      refine z_iload_n hE d_Od_fractionAt_17 rfl ?_
      refine z_aald hE d_Od_fractionAt_18 (by assumption) (by decide) (nI_in' hf (by omega)) ?_
      rw [nI_cl (by omega)]
      refine z_goto (tgt := 23) hE d_Od_fractionAt_19 (by decide) ?_
      refine z_aret hE hQ d_Od_fractionAt_23 rfl (Or.inl ⟨_, rfl⟩) (Nat.le_refl _) (Nat.le_refl _) ⟨rfl, rfl, ?_⟩
      rcases h1' f hf with ⟨z1, z2⟩ | ⟨a, q, z1, z2, z3⟩
      · rw [z1]; exact Or.inl ⟨rfl, z2⟩
      · rw [z1]; exact Or.inr ⟨a, q, rfl, z2, z3⟩
theorem c_Od_keep (l : Launch) {g : Gh} {nx O : Nat} {S : Sx} {sg : Int32} {v w : Nat → Nat} (hC : OV g O nx S sg v w) (f : Nat) (hf : f < 16) (a : Option Nat) (q : Option Qf) (hq : HQ g O nx a q) : Ct l m_Od_keep 0 0 [.ref O, .int (nI f), va_rf a] g nx (fun r g' nx' => r = none ∧ nx = nx' ∧ OV g' O nx (sF S f q) sg v w ∧ gW g g' (O + 1) (O + 2)) := by
  obtain ⟨h0, ⟨fa, h1, h1'⟩, -⟩ := id hC
  refine Ct.of (by decide) (by cases a <;> exact Nat.le_of_ble_eq_true rfl) (fun E hE hQ => ?_)
  refine z_sub (lv' := [(0, .ref O), (1, .int (nI f)), (2, va_rf a)]) (by cases a <;> rfl) ?_
  refine z_iload_n hE d_Od_keep_0 rfl ?_
  refine z_if_lt (tgt := 20) hE d_Od_keep_1 (by decide) (fun c_1 => ?_) (fun c_1 => ?_)
  · exact absurd c_1 (nI_pos (by omega))
  · refine z_iload_n hE d_Od_keep_4 rfl ?_
    refine z_aload_n hE d_Od_keep_5 rfl ?_
    refine z_get hE d_Od_keep_6 fl_Od_11 (by assumption) rfl ?_
    refine z_alen hE d_Od_keep_9 (by assumption) (by decide) (rfl) ?_
    refine z_icmp_ge (tgt := 20) hE d_Od_keep_10 (by decide) (fun c_10 => ?_) (fun c_10 => ?_)
    · exact absurd ((nI_LE (a := 16) (b := f) (by omega) (by omega)).mp c_10) (by omega)
    · refine z_aload_n hE d_Od_keep_13 rfl ?_
      refine z_get hE d_Od_keep_14 fl_Od_11 (by assumption) rfl ?_
      refine z_iload_n hE d_Od_keep_17 rfl ?_
      refine z_aload_nq hE d_Od_keep_18 rfl ?_
      refine z_aastq (ci := 1) hE d_Od_keep_19 (by assumption) (by decide) (fun w0 hw0 => by rcases hq with ⟨z1, z2⟩ | ⟨a1, q1, z1, z2, z3⟩; rw [z1] at hw0; cases hw0; rw [z1] at hw0; cases hw0; obtain ⟨_, _, ⟨_, _, y⟩, _⟩ := z3; exact ⟨_, y.1⟩) (nI_in' hf (by omega)) ?_
      rw [nI_cl (by omega)]
      exact z_vret hE hQ d_Od_keep_20 rfl (Nat.le_refl _) (Nat.le_refl _) ⟨rfl, rfl, OV_fr hC h1 f a q hq, gW_S (Nat.le_refl _) (by omega)⟩
theorem c_Od_rowAt (l : Launch) {g : Gh} {nx O : Nat} {S : Sx} {sg : Int32} {v w : Nat → Nat} (hC : OV g O nx S sg v w) (r : Nat) (hr : r < 4) : Ct l m_Od_rowAt 0 0 [.ref O, .int (nI r)] g nx (fun x g' nx' => g = g' ∧ nx = nx' ∧ (x = some .null ∧ S.2.1 r = -1 ∨ x = some (.ref (O + 3 + 2 * r)) ∧ S.2.1 r ≠ -1 ∧ ∃ n h, n ≤ 10 ∧ S.2.1 r = nI n ∧ RO g (O + 3 + 2 * r) (nI n) h ∧ ∀ k, k < 10 → HQ g O nx (h k) (S.2.2.1 r k))) := by
  obtain ⟨h0, -, ⟨ro, h2, h2'⟩, h3, -⟩ := id hC
  obtain ⟨a1, h, a2, a3⟩ := h3 r hr
  refine Ct.of (by decide) (Nat.le_of_ble_eq_true rfl) (fun E hE hQ => ?_)
  refine z_iload_n hE d_Od_rowAt_0 rfl ?_
  refine z_if_lt (tgt := 22) hE d_Od_rowAt_1 (by decide) (fun c_1 => ?_) (fun c_1 => ?_)
  · exact absurd c_1 (nI_pos (by omega))
  · refine z_iload_n hE d_Od_rowAt_4 rfl ?_
    refine z_aload_n hE d_Od_rowAt_5 rfl ?_
    refine z_get hE d_Od_rowAt_6 fl_Od_17 (by assumption) rfl ?_
    refine z_alen hE d_Od_rowAt_9 (by assumption) (by decide) (rfl) ?_
    refine z_icmp_ge (tgt := 22) hE d_Od_rowAt_10 (by decide) (fun c_10 => ?_) (fun c_10 => ?_)
    · exact absurd ((nI_LE (a := 4) (b := r) (by omega) (by omega)).mp c_10) (by omega)
    · have a21 := a2.1
      refine z_aload_n hE d_Od_rowAt_13 rfl ?_
      refine z_get hE d_Od_rowAt_14 fl_Od_17 (by assumption) rfl ?_
      refine z_iload_n hE d_Od_rowAt_17 rfl ?_
      refine z_aald hE d_Od_rowAt_18 (by assumption) (by decide) (nI_in' hr (by omega)) ?_
      rw [nI_cl (by omega), h2' r hr]
      refine z_goto (tgt := 23) hE d_Od_rowAt_19 (by decide) ?_
      show zJ E g nx 0 0 23 _ [Value.ref (O + 3 + 2 * r)]
      refine z_astore_n hE d_Od_rowAt_23 rfl (by decide) ?_
      refine z_aload_n hE d_Od_rowAt_24 rfl ?_
      show zJ E g nx 0 0 25 _ [va_rf (some (O + 3 + 2 * r))]
      refine z_ifnull (tgt := 39) hE d_Od_rowAt_25 (by decide) (fun c_25 => ?_) (fun a_25 c_25 => ?_)
      · cases c_25
      · refine z_aload_n hE d_Od_rowAt_28 rfl ?_
        refine z_callV hE d_Od_rowAt_29 cl_Od_206 (c_Ro_isThere l nx a2) (by assumption) cb_Ro rfl (Nat.le_of_ble_eq_true rfl) ⟨by decide, by decide⟩ ⟨by omega, by omega⟩ (fun r_29 g_29 nx_29 hp_29 => ?_) rfl
        obtain ⟨rfl, rfl, rfl⟩ := hp_29
        try dsimp only [Option.toList, List.nil_append, List.cons_append]
        rcases a1 with z | ⟨n, hn, z⟩
        · rw [z]
          refine z_if_eq (tgt := 39) hE d_Od_rowAt_32 (by decide) (fun c_32 => ?_) (fun c_32 => ?_)
          · refine z_null hE d_Od_rowAt_39 ?_
            exact z_aret (r := none) hE hQ d_Od_rowAt_40 rfl (Or.inl ⟨_, rfl⟩) (Nat.le_refl _) (Nat.le_refl _) ⟨rfl, rfl, Or.inl ⟨rfl, z⟩⟩
          · exact absurd (by decide) c_32
        · have hne : S.2.1 r ≠ -1 := by
            rw [z]
            intro q
            have := congrArg Int32.toInt q
            rw [nI_ti (by omega)] at this
            have h5 : (-1 : Int32).toInt = -1 := by decide
            omega
          rw [if_neg (by rw [z]; exact nI_pos (by omega))]
          refine z_if_eq (tgt := 39) hE d_Od_rowAt_32 (by decide) (fun c_32 => ?_) (fun c_32 => ?_)
          · exact absurd c_32 (by decide)
          · refine z_aload_n hE d_Od_rowAt_35 rfl ?_
            refine z_goto (tgt := 40) hE d_Od_rowAt_36 (by decide) ?_
            exact z_aret (r := some (O + 3 + 2 * r)) hE hQ d_Od_rowAt_40 rfl (Or.inl ⟨_, rfl⟩) (Nat.le_refl _) (Nat.le_refl _) ⟨rfl, rfl, Or.inr ⟨rfl, hne, n, h, hn, z, by rw [← z]; exact a2, a3⟩⟩
theorem c_Od_tell (l : Launch) {g : Gh} {nx O : Nat} {S : Sx} {sg : Int32} {v w : Nat → Nat} (hC : OV g O nx S sg v w) (c : Int32) : Ct l m_Od_tell 0 0 [.ref O, .int c] g nx (fun r g' nx' => r = some (.int 0) ∧ nx = nx' ∧ OV g' O nx (sC S c) sg v w ∧ gW g g' O (O + 1)) := by
  have h0 := hC.1
  refine Ct.of (by decide) (Nat.le_of_ble_eq_true rfl) (fun E hE hQ => ?_)
  refine z_aload_n hE d_Od_tell_0 rfl ?_
  refine z_iload_n hE d_Od_tell_1 rfl ?_
  refine z_put hE d_Od_tell_2 fl_Od_36 ct_Od ff_Od_4 (by assumption) rfl rfl (Nat.le_of_ble_eq_true rfl) ?_
  refine z_iconst (v := 0) hE d_Od_tell_5 (by decide) ?_
  exact z_iret hE hQ d_Od_tell_6 rfl (Nat.le_refl _) (Nat.le_refl _) ⟨rfl, rfl, OV_put hC c S.2.2.2.2, gW_S (Nat.le_refl _) (by omega)⟩
theorem c_Od_done (l : Launch) {g : Gh} {nx O : Nat} {S : Sx} {sg : Int32} {v w : Nat → Nat} (hC : OV g O nx S sg v w) (a : Int32) : Ct l m_Od_done 0 0 [.ref O, .int a] g nx (fun r g' nx' => r = some (.int a) ∧ nx = nx' ∧ OV g' O nx (sC S 0) sg v w ∧ gW g g' O (O + 1)) := by
  have h0 := hC.1
  refine Ct.of (by decide) (Nat.le_of_ble_eq_true rfl) (fun E hE hQ => ?_)
  refine z_aload_n hE d_Od_done_0 rfl ?_
  refine z_iconst (v := 0) hE d_Od_done_1 (by decide) ?_
  refine z_put hE d_Od_done_2 fl_Od_36 ct_Od ff_Od_4 (by assumption) rfl rfl (Nat.le_of_ble_eq_true rfl) ?_
  refine z_iload_n hE d_Od_done_5 rfl ?_
  exact z_iret hE hQ d_Od_done_6 rfl (Nat.le_refl _) (Nat.le_refl _) ⟨rfl, rfl, OV_put hC 0 S.2.2.2.2, gW_S (Nat.le_refl _) (by omega)⟩
theorem c_Od_code (l : Launch) {g : Gh} {nx O : Nat} {S : Sx} (hC : CW g O nx S) : Ct l m_Od_code 0 0 [.ref O] g nx (pO g O nx (spCode S)) := by
  obtain ⟨sg, v, w, hV⟩ := id hC
  have h0 := hV.1
  refine Ct.of (by decide) (Nat.le_of_ble_eq_true rfl) (fun E hE hQ => ?_)
  refine z_aload_n hE d_Od_code_0 rfl ?_
  refine z_get hE d_Od_code_1 fl_Od_36 (by assumption) rfl ?_
  exact z_iret hE hQ d_Od_code_4 rfl (Nat.le_refl _) (Nat.le_refl _) ⟨rfl, Nat.le_refl _, hC, gX_r⟩
theorem c_Od_grown (l : Launch) {g : Gh} {nx O : Nat} {S : Sx} (hC : CW g O nx S) : Ct l m_Od_grown 0 0 [.ref O] g nx (pO g O nx (spGrown S)) := by
  obtain ⟨sg, v, w, hV⟩ := id hC
  have h0 := hV.1
  refine Ct.of (by decide) (Nat.le_of_ble_eq_true rfl) (fun E hE hQ => ?_)
  refine z_aload_n hE d_Od_grown_0 rfl ?_
  refine z_get hE d_Od_grown_1 fl_Od_40 (by assumption) rfl ?_
  exact z_iret hE hQ d_Od_grown_4 rfl (Nat.le_refl _) (Nat.le_refl _) ⟨rfl, Nat.le_refl _, hC, gX_r⟩
theorem c_Od_make (l : Launch) {g : Gh} {nx O : Nat} {S : Sx} {sg : Int32} {v w : Nat → Nat} {q : Qf} (hC : OV g O nx S sg v w) (hq : q = (sg, v 2, v 4)) (hok : QOK q) (f : Nat) (hf : f < 16) : Ct l m_Od_make 5 47 [.ref O, .int (nI f)] g nx (pO g O nx (mkS S f q)) := by
  subst hq
  have h0 := hC.1
  have hV := hC.2.2.2.2.1
  have hF := RV_F hV
  have hn := hC.2.2.2.2.2.2
  have r1 := hV.1
  unfold RE at r1
  have hF1 := hF.1
  refine Ct.of (by decide) (Nat.le_of_ble_eq_true rfl) (fun E hE hQ => ?_)
  refine z_aload_n hE d_Od_make_0 rfl ?_
  refine z_get hE d_Od_make_1 fl_Od_25 (by assumption) rfl ?_
  refine z_getN hE d_Od_make_4 fl_Od_182 (by assumption) rfl ?_
  refine z_astore_n hE d_Od_make_7 rfl (by decide) ?_
  refine z_aload_n hE d_Od_make_8 rfl ?_
  refine z_callV hE d_Od_make_9 cl_Od_203 (c_Fr_isWide l nx hF) (by assumption) cb_Fr rfl (Nat.le_of_ble_eq_true rfl) ⟨by decide, by decide⟩ ⟨by omega, by omega⟩ (fun r_9 g_9 nx_9 hp_9 => ?_) rfl
  obtain ⟨rfl, rfl, rfl⟩ := hp_9
  try dsimp only [Option.toList, List.nil_append, List.cons_append]
  by_cases hw : v 2 < 4294967296 ^ 8 ∧ v 4 < 4294967296 ^ 8
  · rw [if_pos hw]
    refine z_if_ne (tgt := 22) hE d_Od_make_12 (by decide) (fun c_12 => ?_) (fun c_12 => ?_)
    · have hm : mkS S f (sg, v 2, v 4) = (.int sg, sC (sG (sF S f (some (sg, v 2, v 4))) (if bl (v 2) ≤ 63 ∧ bl (v 4) ≤ 63 then 0 else 1)) 0) := if_pos hw
      rw [hm] at hQ
      refine z_aload_n hE d_Od_make_22 rfl ?_
      refine z_iload_n hE d_Od_make_23 rfl ?_
      refine z_aload_n hE d_Od_make_24 rfl ?_
      refine z_callV hE d_Od_make_25 cl_Od_209 (c_Fr_copied l hF (by omega)) (by assumption) cb_Fr rfl (Nat.le_of_ble_eq_true rfl) ⟨by decide, by decide⟩ ⟨by omega, by omega⟩ (fun r_1 g_1 nx_1 hp_1 => ?_) rfl
      try dsimp only [Option.toList, List.nil_append, List.cons_append]
      obtain ⟨rfl, rfl, ⟨N', M', F1⟩, W1⟩ := hp_1
      try dsimp only [Option.toList, List.nil_append, List.cons_append]
      have C1 : OV g_1 O (nx + 5) S sg v w := OV_o hC (fun q a b c => W1 q (by omega)) (by omega)
      have kq : HQ g_1 O (nx + 5) (some nx) (some (sg, v 2, v 4)) := Or.inr ⟨nx, _, rfl, rfl, by omega, by omega, ⟨N', M', F1⟩, hok, hw⟩
      have m0 := C1.1
      refine z_callV hE d_Od_make_28 cl_Od_63 (c_Od_keep l C1 f hf (some nx) (some (sg, v 2, v 4)) kq) (by assumption) cb_Od rfl (Nat.le_of_ble_eq_true rfl) ⟨by decide, by decide⟩ ⟨by omega, by omega⟩ (fun r_2 g_2 nx_2 hp_2 => ?_) rfl
      try dsimp only [Option.toList, List.nil_append, List.cons_append]
      obtain ⟨rfl, rfl, C2, W2⟩ := hp_2
      try dsimp only [Option.toList, List.nil_append, List.cons_append]
      have F2 := RV_F C2.2.2.2.2.1
      have F21 := F2.1
      have x2 : gX g g_2 O nx := gX_t (nx1 := nx + 5) (gX_N W1) (gX_W W2 (by omega) (by omega)) (by omega)
      refine z_aload_n hE d_Od_make_31 rfl ?_
      refine z_callV hE d_Od_make_32 cl_Od_101 (c_Fr_isSmall l (nx + 5) F2) (by assumption) cb_Fr rfl (Nat.le_of_ble_eq_true rfl) ⟨by decide, by decide⟩ ⟨by omega, by omega⟩ (fun r_32 g_32 nx_32 hp_32 => ?_) rfl
      obtain ⟨rfl, rfl, rfl⟩ := hp_32
      try dsimp only [Option.toList, List.nil_append, List.cons_append]
      have fin : ∀ (g3 : Gh) (S3 : Sx) lv, OV g3 O (nx + 5) S3 sg v w → gX g g3 O nx → sC S3 0 = sC (sG (sF S f (some (sg, v 2, v 4))) (if bl (v 2) ≤ 63 ∧ bl (v 4) ≤ 63 then 0 else 1)) 0 → lG lv 0 = some (.ref O) → lG lv 2 = some (.ref (O + 11 + 1)) → zJ E g3 (nx + 5) 5 47 48 lv [] := by
        intro g3 S3 lv C3 x3 e3 l0 l2
        refine z_sub (lv' := [(0, .ref O), (2, .ref (O + 11 + 1))]) (by simp only [List.map, l0, l2]) ?_
        have F31 := (RV_F C3.2.2.2.2.1).1
        have m0 := C3.1
        refine z_aload_n hE d_Od_make_48 rfl ?_
        refine z_aload_n hE d_Od_make_49 rfl ?_
        refine z_getN hE d_Od_make_50 fl_Od_67 (by assumption) rfl ?_
        refine z_callV hE d_Od_make_53 cl_Od_70 (c_Od_done l C3 sg) (by assumption) cb_Od rfl (Nat.le_of_ble_eq_true rfl) ⟨by decide, by decide⟩ ⟨by omega, by omega⟩ (fun r_3 g_3 nx_3 hp_3 => ?_) rfl
        try dsimp only [Option.toList, List.nil_append, List.cons_append]
        obtain ⟨rfl, rfl, C4, W4⟩ := hp_3
        try dsimp only [Option.toList, List.nil_append, List.cons_append]
        refine z_iret hE hQ d_Od_make_56 rfl (Nat.le_refl _) (Nat.le_refl _) ⟨rfl, by omega, ⟨sg, v, w, ?_⟩, gX_t x3 (gX_W W4 (Nat.le_refl _) (by omega)) (Nat.le_refl _)⟩
        rw [← e3]; exact C4
      by_cases hs : bl (v 2) ≤ 63 ∧ bl (v 4) ≤ 63
      · rw [if_pos hs]
        refine z_if_ne (tgt := 48) hE d_Od_make_35 (by decide) (fun c_35 => ?_) (fun c_35 => ?_)
        · refine fin g_2 (sF S f (some (sg, v 2, v 4))) _ C2 x2 ?_ rfl rfl
          rw [if_pos hs]
          show ((_, _, _, _, _) : Sx) = (_, _, _, _, _)
          simp only [sC, sG, sF, Int32.add_zero]
        · exact absurd c_35 (by decide)
      · rw [if_neg hs]
        have m0 := C2.1
        refine z_if_ne (tgt := 48) hE d_Od_make_35 (by decide) (fun c_35 => ?_) (fun c_35 => ?_)
        · exact absurd rfl c_35
        · refine z_aload_n hE d_Od_make_38 rfl ?_
          refine z_dup hE d_Od_make_39 rfl ?_
          refine z_get hE d_Od_make_40 fl_Od_40 (by assumption) rfl ?_
          refine z_iconst (v := 1) hE d_Od_make_43 (by decide) ?_
          refine z_iadd hE d_Od_make_44 (rfl) ?_
          refine z_put hE d_Od_make_45 fl_Od_40 ct_Od ff_Od_5 (by assumption) rfl rfl (Nat.le_of_ble_eq_true rfl) ?_
          have C3 := OV_put C2 (sF S f (some (sg, v 2, v 4))).2.2.2.1 ((sF S f (some (sg, v 2, v 4))).2.2.2.2 + 1)
          refine fin _ _ _ C3 (gX_t x2 (gX_W (gW_S (Nat.le_refl O) (by omega : O < O + 1)) (Nat.le_refl _) (by omega)) (Nat.le_refl _)) ?_ rfl rfl
          rw [if_neg hs]
          rfl
    · exact absurd c_12 (by decide)
  · rw [if_neg hw]
    have hm : mkS S f (sg, v 2, v 4) = tellS S 6 := if_neg hw
    rw [hm] at hQ
    refine z_if_ne (tgt := 22) hE d_Od_make_12 (by decide) (fun c_12 => ?_) (fun c_12 => ?_)
    · exact absurd rfl c_12
    · refine z_aload_n hE d_Od_make_15 rfl ?_
      refine z_bipush (v := 6) hE d_Od_make_16 (by decide) ?_
      refine z_callV hE d_Od_make_18 cl_Od_48 (c_Od_tell l hC 6) (by assumption) cb_Od rfl (Nat.le_of_ble_eq_true rfl) ⟨by decide, by decide⟩ ⟨by omega, by omega⟩ (fun r_1 g_1 nx_1 hp_1 => ?_) rfl
      try dsimp only [Option.toList, List.nil_append, List.cons_append]
      obtain ⟨rfl, rfl, C1, W1⟩ := hp_1
      try dsimp only [Option.toList, List.nil_append, List.cons_append]
      exact z_iret hE hQ d_Od_make_21 rfl (by omega) (by omega) ⟨rfl, Nat.le_refl _, ⟨sg, v, w, C1⟩, gX_W W1 (Nat.le_refl _) (by omega)⟩

