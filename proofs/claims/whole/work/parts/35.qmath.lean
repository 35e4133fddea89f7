/-! fractions as numbers: a sign, ABOVE, BELOW -/
abbrev Qf : Type := Int32 × Nat × Nat
def mk (s : Int32) (t b : Nat) : Qf := (if t = 0 then 0 else s, t / Nat.gcd t b, b / Nat.gcd t b)
def QOK (q : Qf) : Prop := isS q.1 q.2.1 ∧ Nat.gcd q.2.1 q.2.2 = 1 ∧ 0 < q.2.2
abbrev QW (q : Qf) : Prop := q.2.1 < 4294967296 ^ 8 ∧ q.2.2 < 4294967296 ^ 8
def sm (s : Int32) : Prop := s = 1 ∨ s = -1
theorem mk_ok {s : Int32} {t b : Nat} (hs : t ≠ 0 → sm s) (hb : 0 < b) : QOK (mk s t b) := by
  have hg := Nat.gcd_pos_of_pos_right t hb
  refine ⟨?_, Nat.coprime_div_gcd_div_gcd hg, Nat.div_pos (Nat.gcd_le_right t hb) hg⟩
  show isS (if t = 0 then 0 else s) (t / Nat.gcd t b)
  by_cases h : t = 0
  · rw [if_pos h, h, Nat.zero_div]
    exact Or.inl ⟨rfl, rfl⟩
  · rw [if_neg h]
    have h1 : 0 < t / Nat.gcd t b := Nat.div_pos (Nat.gcd_le_left b (by omega)) hg
    rcases hs h with q | q
    · exact Or.inr (Or.inl ⟨q, h1⟩)
    · exact Or.inr (Or.inr ⟨q, h1⟩)
theorem mk_1 {s : Int32} {t b : Nat} (h : Nat.gcd t b = 1) : mk s t b = (if t = 0 then 0 else s, t, b) := by
  unfold mk
  rw [h, Nat.div_one, Nat.div_one]
theorem mk_Q {q : Qf} (h : QOK q) : mk q.1 q.2.1 q.2.2 = q := by
  obtain ⟨s, a, b⟩ := q
  rw [mk_1 h.2.1]
  show ((if a = 0 then 0 else s, a, b) : Qf) = (s, a, b)
  by_cases ha : a = 0
  · rw [if_pos ha]
    rcases h.1 with z | z | z
    · have : s = 0 := z.1
      rw [this]
    · exact absurd ha (by have := z.2; dsimp only at this; omega)
    · exact absurd ha (by have := z.2; dsimp only at this; omega)
  · rw [if_neg ha]
theorem mk_s {s s' : Int32} {t b : Nat} (h : t ≠ 0 → s = s') : mk s t b = mk s' t b := by
  unfold mk
  by_cases ht : t = 0
  · rw [if_pos ht, if_pos ht]
  · rw [if_neg ht, if_neg ht, h ht]
theorem sgI_sm {t : Int} (h : t.natAbs ≠ 0) : sm (sgI t) := by
  rcases Int.lt_or_gt_of_ne (show t ≠ 0 by omega) with q | q
  · exact Or.inr (sgI_n q)
  · exact Or.inl (sgI_p q)
/-! a sum -/
def adS (x y : Qf) (sb : Int32) : Int := sv x.1 (x.2.1 * y.2.2) + sv sb (y.2.1 * x.2.2)
def addQ (x y : Qf) (sb : Int32) : Qf := mk (sgI (adS x y sb)) (adS x y sb).natAbs (x.2.2 * y.2.2)
theorem sv_mul (s : Int32) (n m : Nat) : sv s (n * m) = sv s n * m := by
  unfold sv
  rw [Int.natCast_mul, Int.mul_assoc]
theorem sgI_mul {t : Int} {d : Nat} (h : 0 < d) : sgI (t * d) = sgI t := by
  rcases Int.lt_trichotomy t 0 with q | q | q
  · rw [sgI_n q, sgI_n (Int.mul_neg_of_neg_of_pos q (by omega))]
  · rw [q, Int.zero_mul]
  · rw [sgI_p q, sgI_p (Int.mul_pos q (by omega))]
theorem nd_iff {d : Nat} {z : Int} : (d : Int) ∣ z ↔ d ∣ z.natAbs := by rw [← Int.natAbs_dvd_natAbs, Int.natAbs_natCast]
/-- a divisor of one summand alone -/
theorem sv_abs {s : Int32} {n : Nat} (h : isS s n) (m : Nat) : (sv s (n * m)).natAbs = n * m := by
  rcases h with ⟨q, r⟩ | ⟨q, -⟩ | ⟨q, -⟩
  · rw [q, r, sv_0, Nat.zero_mul]; rfl
  · rw [q, sv_1]; omega
  · rw [q, sv_m]; omega
theorem cop_add2 {x y : Int} {k : Nat} (h : Nat.gcd x.natAbs k = 1) (hy : (k : Int) ∣ y) : Nat.gcd (x + y).natAbs k = 1 := by
  rw [Nat.gcd_eq_one_iff]
  intro d hd1 hd2
  have h1 : (d : Int) ∣ x + y := nd_iff.mpr hd1
  have h2 : (d : Int) ∣ (k : Int) := Int.natCast_dvd_natCast.mpr hd2
  have h3 : (d : Int) ∣ y := Int.dvd_trans h2 hy
  have h4 : (d : Int) ∣ x := by
    have := Int.dvd_sub h1 h3
    rwa [Int.add_sub_cancel] at this
  exact (Nat.gcd_eq_one_iff.mp h) d (nd_iff.mp h4) hd2
theorem addQ_eq {x y : Qf} {sb : Int32} (hx : QOK x) (hy : QOK y) (hb : isS sb y.2.1) : addQ x y sb = (sgI (adT x.1 x.2.1 x.2.2 sb y.2.1 y.2.2), (adT x.1 x.2.1 x.2.2 sb y.2.1 y.2.2).natAbs / Nat.gcd (adT x.1 x.2.1 x.2.2 sb y.2.1 y.2.2).natAbs (adD x.2.2 y.2.2), x.2.2 / adD x.2.2 y.2.2 * (y.2.2 / Nat.gcd (adT x.1 x.2.1 x.2.2 sb y.2.1 y.2.2).natAbs (adD x.2.2 y.2.2))) := by
  obtain ⟨sa, aa, ab⟩ := x
  obtain ⟨s0, ba, bb⟩ := y
  obtain ⟨x1, x2, x3⟩ := hx
  obtain ⟨y1, y2, y3⟩ := hy
  unfold addQ adS
  dsimp only at *
  have hDp := Nat.gcd_pos_of_pos_right ab y3
  have hDa := Nat.gcd_dvd_left ab bb
  have hDb := Nat.gcd_dvd_right ab bb
  have hco := Nat.coprime_div_gcd_div_gcd hDp
  unfold adD
  obtain ⟨T, hT⟩ : ∃ T, adT sa aa ab sb ba bb = T := ⟨_, rfl⟩
  rw [hT]
  unfold adT at hT
  obtain ⟨D, hD⟩ : ∃ D, Nat.gcd ab bb = D := ⟨_, rfl⟩
  rw [hD] at hDp hDa hDb hco hT ⊢
  obtain ⟨p, hp⟩ := hDa
  obtain ⟨q, hq⟩ := hDb
  have ep : ab / D = p := by rw [hp]; exact Nat.mul_div_cancel_left p hDp
  have eq : bb / D = q := by rw [hq]; exact Nat.mul_div_cancel_left q hDp
  rw [ep, eq] at hco hT
  rw [ep]
  -- the sum is D times T
  have hS : sv sa (aa * bb) + sv sb (ba * ab) = T * D := by
    rw [← hT, hp, hq, Nat.mul_left_comm, Nat.mul_left_comm ba, Nat.mul_comm D, Nat.mul_comm D, sv_mul, sv_mul sb, Int.add_mul]
  rw [hS]
  have hn : (T * (D : Int)).natAbs = D * T.natAbs := by rw [Int.natAbs_mul, Int.natAbs_natCast, Nat.mul_comm]
  -- what T shares with p and q is 1
  have cp : Nat.gcd T.natAbs p = 1 := by
    rw [← hT]
    refine cop_add2 ?_ ?_
    · rw [sv_abs x1]
      exact Nat.Coprime.mul_left (Nat.Coprime.coprime_dvd_right ⟨D, by rw [hp, Nat.mul_comm]⟩ x2) (Nat.Coprime.symm hco)
    · rw [sv_mul]; exact Int.dvd_mul_left _ _
  have cq : Nat.gcd T.natAbs q = 1 := by
    rw [← hT, Int.add_comm]
    refine cop_add2 ?_ ?_
    · rw [sv_abs hb]
      exact Nat.Coprime.mul_left (Nat.Coprime.coprime_dvd_right ⟨D, by rw [hq, Nat.mul_comm]⟩ y2) hco
    · rw [sv_mul]; exact Int.dvd_mul_left _ _
  have hg : Nat.gcd (D * T.natAbs) (ab * bb) = D * Nat.gcd T.natAbs D := by
    rw [hp, hq, Nat.mul_assoc, Nat.gcd_mul_left, Nat.gcd_mul_right_right_of_gcd_eq_one cp, Nat.mul_comm D q, Nat.gcd_mul_right_right_of_gcd_eq_one cq]
  unfold mk
  rw [hn, hg, sgI_mul hDp]
  have hgp : 0 < Nat.gcd T.natAbs D := Nat.gcd_pos_of_pos_right _ hDp
  have k1 : (if D * T.natAbs = 0 then (0 : Int32) else sgI T) = sgI T := by
    by_cases h : T = 0
    · rw [h]; rw [if_pos (by simp)]; rfl
    · rw [if_neg]
      intro h2
      rcases Nat.mul_eq_zero.mp h2 with z | z
      · omega
      · omega
  have k2 : D * T.natAbs / (D * Nat.gcd T.natAbs D) = T.natAbs / Nat.gcd T.natAbs D := Nat.mul_div_mul_left _ _ hDp
  have k3 : ab * bb / (D * Nat.gcd T.natAbs D) = p * (bb / Nat.gcd T.natAbs D) := by
    rw [hp, Nat.mul_assoc, Nat.mul_div_mul_left _ _ hDp]
    refine Nat.mul_div_assoc p ?_
    exact Nat.dvd_trans (Nat.gcd_dvd_right _ _) ⟨q, hq⟩
  rw [k1, k2, k3]
/-! a product; a quotient is the product by the other turned over -/
theorem mul_eq {aa ab x y : Nat} {s : Int32} (h1 : Nat.gcd aa ab = 1) (h2 : Nat.gcd x y = 1) (hab : 0 < ab) (hy : 0 < y) (hs : aa * x = 0 → s = 0) : mk s (aa * x) (ab * y) = (s, aa / Nat.gcd aa y * (x / Nat.gcd x ab), ab / Nat.gcd x ab * (y / Nat.gcd aa y)) := by
  have p1 : 0 < Nat.gcd aa y := Nat.gcd_pos_of_pos_right _ hy
  have p2 : 0 < Nat.gcd x ab := Nat.gcd_pos_of_pos_right _ hab
  have c1 := Nat.coprime_div_gcd_div_gcd p1
  have c2 := Nat.coprime_div_gcd_div_gcd p2
  obtain ⟨a', ha⟩ := Nat.gcd_dvd_left aa y
  obtain ⟨y', hy'⟩ := Nat.gcd_dvd_right aa y
  obtain ⟨x', hx⟩ := Nat.gcd_dvd_left x ab
  obtain ⟨b', hb⟩ := Nat.gcd_dvd_right x ab
  obtain ⟨g1, hg1⟩ : ∃ g, Nat.gcd aa y = g := ⟨_, rfl⟩
  obtain ⟨g2, hg2⟩ : ∃ g, Nat.gcd x ab = g := ⟨_, rfl⟩
  rw [hg1] at p1 c1 ha hy' ⊢
  rw [hg2] at p2 c2 hx hb ⊢
  have e1 : aa / g1 = a' := by rw [ha]; exact Nat.mul_div_cancel_left _ p1
  have e2 : y / g1 = y' := by rw [hy']; exact Nat.mul_div_cancel_left _ p1
  have e3 : x / g2 = x' := by rw [hx]; exact Nat.mul_div_cancel_left _ p2
  have e4 : ab / g2 = b' := by rw [hb]; exact Nat.mul_div_cancel_left _ p2
  rw [e1, e2] at c1
  rw [e3, e4] at c2
  rw [e1, e2, e3, e4]
  have d1 : Nat.Coprime a' b' := Nat.Coprime.coprime_dvd_left ⟨g1, by rw [ha, Nat.mul_comm]⟩ (Nat.Coprime.coprime_dvd_right ⟨g2, by rw [hb, Nat.mul_comm]⟩ h1)
  have d2 : Nat.Coprime x' y' := Nat.Coprime.coprime_dvd_left ⟨g2, by rw [hx, Nat.mul_comm]⟩ (Nat.Coprime.coprime_dvd_right ⟨g1, by rw [hy', Nat.mul_comm]⟩ h2)
  have cc : Nat.Coprime (a' * x') (b' * y') := Nat.Coprime.mul_left (Nat.Coprime.mul_right d1 c1) (Nat.Coprime.mul_right c2 d2)
  have q1 : aa * x = (g1 * g2) * (a' * x') := by rw [ha, hx]; simp only [Nat.mul_comm, Nat.mul_left_comm]
  have q2 : ab * y = (g1 * g2) * (b' * y') := by rw [hb, hy']; simp only [Nat.mul_comm, Nat.mul_left_comm]
  unfold mk
  have hg : Nat.gcd (aa * x) (ab * y) = g1 * g2 := by
    rw [q1, q2, Nat.gcd_mul_left, cc, Nat.mul_one]
  have gp := Nat.mul_pos p1 p2
  have k0 : (if aa * x = 0 then (0 : Int32) else s) = s := by
    by_cases h : aa * x = 0
    · rw [if_pos h, hs h]
    · rw [if_neg h]
  rw [hg, k0]
  have k1 : aa * x / (g1 * g2) = a' * x' := by rw [q1]; exact Nat.mul_div_cancel_left _ gp
  have k2 : ab * y / (g1 * g2) = b' * y' := by rw [q2]; exact Nat.mul_div_cancel_left _ gp
  rw [k1, k2]
/-! a double's number -/
theorem gcd_two {m z n : Nat} (hm : m % 2 = 1) : Nat.gcd (m * 2 ^ z) (2 ^ n) = 2 ^ (min z n) := by
  have hc : Nat.Coprime m 2 := by
    show Nat.gcd m 2 = 1
    rw [Nat.gcd_comm, Nat.gcd_rec, hm]; rfl
  rw [Nat.Coprime.gcd_mul_left_cancel _ (Nat.Coprime.pow_right n hc)]
  rcases Nat.le_total z n with h | h
  · rw [Nat.min_eq_left h]; exact Nat.gcd_eq_left (Nat.pow_dvd_pow 2 h)
  · rw [Nat.min_eq_right h]; exact Nat.gcd_eq_right (Nat.pow_dvd_pow 2 h)
theorem mk_two {s : Int32} {m z : Nat} {tw : Int} (hm : m % 2 = 1) : mk s (m * 2 ^ z * 2 ^ tw.toNat) (2 ^ (-tw).toNat) = (s, m * 2 ^ (tw + z).toNat, 2 ^ (-(tw + z)).toNat) := by
  have h0 : m * 2 ^ z * 2 ^ tw.toNat = m * 2 ^ (z + tw.toNat) := by rw [Nat.mul_assoc, ← Nat.pow_add]
  rw [h0]
  unfold mk
  rw [gcd_two hm, if_neg (by have := Nat.mul_pos (show 0 < m by omega) (p2_pos (z + tw.toNat)); omega)]
  obtain ⟨k, hk⟩ : ∃ k, min (z + tw.toNat) (-tw).toNat = k := ⟨_, rfl⟩
  rw [hk]
  have e1 : z + tw.toNat = (tw + z).toNat + k := by omega
  have e2 : (-tw).toNat = (-(tw + z)).toNat + k := by omega
  have k1 : m * 2 ^ (z + tw.toNat) / 2 ^ k = m * 2 ^ (tw + z).toNat := by
    rw [e1, Nat.pow_add, ← Nat.mul_assoc]; exact Nat.mul_div_cancel _ (p2_pos k)
  have k2 : 2 ^ (-tw).toNat / 2 ^ k = 2 ^ (-(tw + z)).toNat := by
    rw [e2, Nat.pow_add]; exact Nat.mul_div_cancel _ (p2_pos k)
  rw [k1, k2]

