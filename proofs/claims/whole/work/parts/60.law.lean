/-! the law -/
def zX (E : zE) (b L : Nat) (xs : Nat → Int32) : Prop := match E with
  | ((_, _, _, _, s, _, _, _, _, _, _), _, _, base) => va_X b L xs s s.heap ∧ b < s.heap.size ∧ base = s.heap.size
section ZS
variable {E : zE} {l : Launch} {M : mI} {tc ts : Nat} {g : Gh} {nx cells slots pc : Nat} {lv : List (Nat × Value)} {rest : List Value}
theorem z_slen (hE : zOk E l M tc ts) {b L : Nat} {xs : Nat → Int32} (hd : decode M.2.1 pc = .ok (.arraylength, 1)) (hX : zX E b L xs) (k : zJ E g nx cells slots (pc + 1) lv (.int (nI L) :: rest)) : zJ E g nx cells slots pc lv (.ref b :: rest) := by
  obtain ⟨⟨p, l', e, R, s, m, args, below, meth, c, Q⟩, D, τ, base⟩ := E
  obtain ⟨rfl, hx, hb, hml, hown, hts, hK, hN, hAO, hr, hlk, hnm, hRf, hRl, hRc, hRs, hbs⟩ := hE
  obtain ⟨h1, h2, h3⟩ := hX
  intro H locs ls hP hS hl
  exact va_slen hx hb h1 h2 (by rw [h3]; exact Nat.not_le.mpr h2) hS hd (k H locs ls hP hS hl)
theorem z_sld (hE : zOk E l M tc ts) {b L : Nat} {xs : Nat → Int32} {i : Int32} (hd : decode M.2.1 pc = .ok (.iaload, 1)) (hX : zX E b L xs) (hin : vp_in i L) (k : zJ E g nx cells slots (pc + 1) lv (.int (xs i.toNatClampNeg) :: rest)) : zJ E g nx cells slots pc lv (.int i :: .ref b :: rest) := by
  obtain ⟨⟨p, l', e, R, s, m, args, below, meth, c, Q⟩, D, τ, base⟩ := E
  obtain ⟨rfl, hx, hb, hml, hown, hts, hK, hN, hAO, hr, hlk, hnm, hRf, hRl, hRc, hRs, hbs⟩ := hE
  obtain ⟨h1, h2, h3⟩ := hX
  intro H locs ls hP hS hl
  exact va_sld hx hb h1 h2 (by rw [h3]; exact Nat.not_le.mpr h2) hS hin hd (k H locs ls hP hS hl)
end ZS
theorem MW_X {g g' : Gh} {P : Nat} {S : Sx} (h : MW g P S) (hx : ∀ q, P ≤ q → q < P + 14 → g' q = g q) : MW g' P S := by
  obtain ⟨E, t, ts, hV, hS⟩ := h
  refine ⟨E, t, ts, MV_x hV (fun q a b => hx q a (by omega)) (fun k k1 k2 => ?_), hS⟩
  obtain ⟨d, hd, e⟩ := MV_m hV k k1 k2
  exact ⟨d, ⟨(hx _ (by omega) (by omega)).trans hd.1, hd.2⟩, e⟩
theorem CW_W {g g' : Gh} {O nx : Nat} {S : Sx} (h : CW g O nx S) (hw : gW g g' (O + 48) (O + 48 + 14)) : CW g' O nx S := by
  obtain ⟨sg, v, w, hV⟩ := h
  exact ⟨sg, v, w, OV_o hV (fun q a b c => hw q (by omega)) (Nat.le_refl _)⟩
theorem CW_n {g : Gh} {O nx : Nat} {S : Sx} (h : CW g O nx S) : O + 62 ≤ nx := by
  obtain ⟨sg, v, w, hV⟩ := h
  exact hV.2.2.2.2.2.2
theorem CW_S {g : Gh} {O nx : Nat} {S : Sx} (h : CW g O nx S) : SOK S := by
  obtain ⟨sg, v, w, hV⟩ := h
  exact OV_SOK hV

