/-! what the calls come to, over numbers alone: fractions, rows' places, what rows hold, the CODE, the count of GROWN -/
abbrev Sx : Type := (Nat → Option Qf) × (Nat → Int32) × (Nat → Nat → Option Qf) × Int32 × Int32
abbrev Vx : Type := Value × Sx
abbrev inI (x : Int32) (a b : Int) : Prop := a ≤ x.toInt ∧ x.toInt ≤ b
def fx (x : Int32) : Nat := x.toInt.toNat
theorem fx_of {x : Int32} {a b : Int} (h : inI x a b) (ha : 0 ≤ a) (hb : b ≤ 1000000) : x = nI (fx x) ∧ (fx x : Int) = x.toInt ∧ (fx x : Int) ≤ b := by
  unfold fx
  refine ⟨?_, by omega, by omega⟩
  rw [← Int32.toInt_inj, nI_ti (by omega)]
  omega
def sC (S : Sx) (c : Int32) : Sx := (S.1, S.2.1, S.2.2.1, c, S.2.2.2.2)
def sF (S : Sx) (f : Nat) (q : Option Qf) : Sx := (fun j => if j = f then q else S.1 j, S.2)
def sG (S : Sx) (d : Int32) : Sx := (S.1, S.2.1, S.2.2.1, S.2.2.2.1, S.2.2.2.2 + d)
def sR (S : Sx) (r : Nat) (n : Int32) : Sx := (S.1, fun j => if j = r then n else S.2.1 j, fun j k => if j = r then none else S.2.2.1 j k, S.2.2.2)
def sP (S : Sx) (r k : Nat) (q : Option Qf) : Sx := (S.1, S.2.1, fun j x => if j = r ∧ x = k then q else S.2.2.1 j x, S.2.2.2)
def sM (S : Sx) (r i q j n : Nat) : Sx := (S.1, S.2.1, fun p x => if p = q ∧ j ≤ x ∧ x < j + n then S.2.2.1 r (i + (x - j)) else S.2.2.1 p x, S.2.2.2)
def tellS (S : Sx) (c : Int32) : Vx := (.int 0, sC S c)
def tellL (S : Sx) (c : Int32) : Vx := (.long 0, sC S c)
def doneS (S : Sx) (a : Int32) : Vx := (.int a, sC S 0)
def outS (S : Sx) : Vx := (.int (-2000000001), S)
def outL (S : Sx) : Vx := (.long (-2000000001), S)
def smQ (q : Qf) : Prop := bl q.2.1 ≤ 63 ∧ bl q.2.2 ≤ 63
def mkS (S : Sx) (f : Nat) (q : Qf) : Vx := if QW q then (.int q.1, sC (sG (sF S f (some q)) (if bl q.2.1 ≤ 63 ∧ bl q.2.2 ≤ 63 then 0 else 1)) 0) else tellS S 6
def cmpQ (x y : Qf) : Int32 := cmpF x.1 x.2.1 x.2.2 y.1 y.2.1 y.2.2
def spValue (S : Sx) (f : Int32) (x y : Int64) : Vx := if inI f 0 15 then (if y = 0 then tellS S 5 else mkS S (fx f) (mk (sgL x * sgL y) (szL x) (szL y))) else outS S
def spCopy (S : Sx) (f a : Int32) : Vx := if inI f 0 15 ∧ inI a 0 15 then (match S.1 (fx a) with | none => tellS S 1 | some q => doneS (sF S (fx f) (some q)) q.1) else outS S
def spNothing (S : Sx) (f : Int32) : Vx := if inI f 0 15 then (.int (if (S.1 (fx f)).isSome then 1 else 0), sF S (fx f) none) else outS S
def wkQ (act : Nat) (x y : Qf) : Qf := match act with
  | 0 => addQ x y y.1
  | 1 => addQ x y (-y.1)
  | 2 => mk (x.1 * y.1) (x.2.1 * y.2.1) (x.2.2 * y.2.2)
  | 3 => mk (x.1 * y.1) (x.2.1 * y.2.2) (x.2.2 * y.2.1)
  | 4 => if cmpQ x y ≤ 0 then x else y
  | _ => if 0 ≤ cmpQ x y then x else y
def spWork (S : Sx) (act f a b : Int32) : Vx := if inI act 0 5 ∧ inI f 0 15 ∧ inI a 0 15 ∧ inI b 0 15 then (match S.1 (fx a), S.1 (fx b) with
  | some x, some y => if fx act = 3 ∧ y.1 = 0 then tellS S 5 else mkS S (fx f) (wkQ (fx act) x y)
  | _, _ => tellS S 1) else outS S
def pwQ (x : Qf) (n : Int) : Qf := (if n.natAbs % 2 = 0 ∧ (x.1 ≠ 0 ∨ n.natAbs = 0) then 1 else x.1, (if n < 0 then x.2.2 else x.2.1) ^ n.natAbs, (if n < 0 then x.2.1 else x.2.2) ^ n.natAbs)
def spPower (S : Sx) (f a n : Int32) : Vx := if inI f 0 15 ∧ inI a 0 15 ∧ inI n (-300) 300 then (match S.1 (fx a) with
  | none => tellS S 1
  | some x => if n.toInt < 0 ∧ x.1 = 0 then tellS S 5 else mkS S (fx f) (pwQ x n.toInt)) else outS S
def spBinomial (S : Sx) (f n k : Int32) : Vx := if inI f 0 15 ∧ inI n 0 250 then mkS S (fx f) (if 0 ≤ k.toInt ∧ k.toInt ≤ n.toInt then ((1 : Int32), ch (fx n) (fx k), 1) else (0, 0, 1)) else outS S
def spCommon (S : Sx) (f a b : Int32) : Vx := if inI f 0 15 ∧ inI a 0 15 ∧ inI b 0 15 then (match S.1 (fx a), S.1 (fx b) with
  | some x, some y => if x.2.2 = 1 ∧ y.2.2 = 1 then mkS S (fx f) (if Nat.gcd x.2.1 y.2.1 = 0 then 0 else 1, Nat.gcd x.2.1 y.2.1, 1) else tellS S 2
  | _, _ => tellS S 1) else outS S
def spOrder (S : Sx) (a b : Int32) : Vx := if inI a 0 15 ∧ inI b 0 15 then (match S.1 (fx a), S.1 (fx b) with
  | some x, some y => doneS S (cmpQ x y)
  | _, _ => tellS S 1) else outS S
def spSign (S : Sx) (a : Int32) : Vx := if inI a 0 15 then (match S.1 (fx a) with | none => tellS S 1 | some x => doneS S x.1) else outS S
def spSmall (S : Sx) (a : Int32) : Vx := if inI a 0 15 then (match S.1 (fx a) with | none => tellS S 1 | some x => doneS S (if bl x.2.1 ≤ 63 ∧ bl x.2.2 ≤ 63 then 1 else 0)) else outS S
def ptQ (x : Qf) (p : Nat) : Nat := if p = 0 then x.2.1 else x.2.2
def lmQ (v : Nat) : Nat := (bl v + 31) / 32
def spLimbs (S : Sx) (a p : Int32) : Vx := if inI a 0 15 ∧ inI p 0 1 then (match S.1 (fx a) with | none => tellS S 1 | some x => doneS S (nI (lmQ (ptQ x (fx p))))) else outS S
def spLimb (S : Sx) (a p k : Int32) : Vx := if inI a 0 15 ∧ inI p 0 1 then (match S.1 (fx a) with
  | none => tellL S 1
  | some x => if 0 ≤ k.toInt ∧ k.toInt < lmQ (ptQ x (fx p)) then (.long (lN (ptQ x (fx p) / 4294967296 ^ fx k % 4294967296)), sC S 0) else tellL S 3) else outL S
def spRound (S : Sx) (a n w : Int32) : Vx := if inI a 0 15 ∧ inI n 0 18 ∧ inI w 0 3 then (match S.1 (fx a) with
  | none => tellL S 1
  | some x => if rnd x.1 x.2.1 x.2.2 (fx n) (fx w) < 9223372036854775808 ∨ x.1 < 0 ∧ rnd x.1 x.2.1 x.2.2 (fx n) (fx w) = 9223372036854775808 then (.long (if x.1 < 0 then -(lN (rnd x.1 x.2.1 x.2.2 (fx n) (fx w))) else lN (rnd x.1 x.2.1 x.2.2 (fx n) (fx w))), sC S 0) else tellL S 7) else outL S
def spReal (S : Sx) (a e : Int32) : Vx := if inI a 0 15 ∧ inI e 0 1 then (match S.1 (fx a) with
  | none => tellL S 1
  | some x => (.long (dbl x.1 x.2.1 x.2.2 (fx e)), sC S 0)) else outL S
def spFrom (S : Sx) (f : Int32) (x : Int64) : Vx := if inI f 0 15 then (if uN x / 4503599627370496 % 2048 = 2047 then tellS S 7 else mkS S (fx f) (dQ (uN x))) else outS S
def exV (k : Nat) (a b : Int64) : Option Int64 := match k with
  | 0 => if (a < 0 ↔ b < 0) ∧ ¬ (a + b < 0 ↔ a < 0) then none else some (a + b)
  | 1 => if ¬ (a < 0 ↔ b < 0) ∧ ¬ (a - b < 0 ↔ a < 0) then none else some (a - b)
  | 2 => if -9223372036854775808 ≤ a.toInt * b.toInt ∧ a.toInt * b.toInt ≤ 9223372036854775807 then some (a * b) else none
  | 3 => if a = -9223372036854775808 then none else some (-a)
  | 4 => if a = a.toInt32.toInt64 then some a else none
  | 5 => if a = -9223372036854775808 ∧ b = -1 then none else some (a / b)
  | 6 => some (a - a / b * b)
  | _ => if a = -9223372036854775808 ∧ b = -1 then none else some (if ¬ a - a / b * b = 0 ∧ ¬ (a < 0 ↔ b < 0) then a / b - 1 else a / b)
def spExact (S : Sx) (op : Int32) (a b : Int64) : Vx := if inI op 0 7 then (if 5 ≤ fx op ∧ b = 0 then tellL S 5 else match exV (fx op) a b with | none => tellL S 7 | some z => (.long z, sC S 0)) else outL S
def spRow (S : Sx) (r n : Int32) : Vx := if inI r 0 3 ∧ n.toInt ≤ 10 then (if n.toInt < 0 then tellS S 4 else doneS (sR S (fx r) n) n) else outS S
def spPut (S : Sx) (r k a : Int32) : Vx := if inI r 0 3 ∧ inI a 0 15 then (match S.1 (fx a) with
  | none => tellS S 1
  | some q => if S.2.1 (fx r) = -1 then tellS S 1 else if 0 ≤ k.toInt ∧ k.toInt < (S.2.1 (fx r)).toInt then doneS (sP S (fx r) (fx k) (some q)) 1 else tellS S 3) else outS S
def spMove (S : Sx) (r i q j n : Int32) : Vx := if inI r 0 3 ∧ inI q 0 3 then (if S.2.1 (fx r) = -1 ∨ S.2.1 (fx q) = -1 then tellS S 1 else
  if (0 ≤ i.toInt ∧ 0 ≤ n.toInt ∧ i.toInt + n.toInt ≤ (S.2.1 (fx r)).toInt) ∧ 0 ≤ j.toInt ∧ 0 ≤ n.toInt ∧ j.toInt + n.toInt ≤ (S.2.1 (fx q)).toInt then doneS (sM S (fx r) (fx i) (fx q) (fx j) (fx n)) n else tellS S 3) else outS S
def cntQ (h : Nat → Option Qf) : Nat → Nat
  | 0 => 0
  | k + 1 => cntQ h k + if (h k).isSome then 1 else 0
def spFilled (S : Sx) (r : Int32) : Vx := if inI r 0 3 then (if S.2.1 (fx r) = -1 then tellS S 1 else doneS S (nI (cntQ (S.2.2.1 (fx r)) (fx (S.2.1 (fx r)))))) else outS S
/-- the sum of the first places; none: one on the way isn't WIDE as told -/
def sq (h : Nat → Option Qf) : Nat → Option Qf
  | 0 => some (0, 0, 1)
  | k + 1 => match sq h k, h k with
    | some t, some q => if QW (addQ t q q.1) then some (addQ t q q.1) else none
    | _, _ => none
def sumC (S : Sx) (r : Nat) : Option Qf ⊕ Int32 := if S.2.1 r = -1 ∨ cntQ (S.2.2.1 r) (fx (S.2.1 r)) < fx (S.2.1 r) then .inr 1 else match sq (S.2.2.1 r) (fx (S.2.1 r)) with | none => .inr 6 | some t => .inl (some t)
def spSum (S : Sx) (f r : Int32) : Vx := if inI f 0 15 ∧ inI r 0 3 then (if S.2.1 (fx r) = -1 ∨ cntQ (S.2.2.1 (fx r)) (fx (S.2.1 (fx r))) < fx (S.2.1 (fx r)) then tellS S 1 else match sq (S.2.2.1 (fx r)) (fx (S.2.1 (fx r))) with
  | none => tellS S 6
  | some t => mkS S (fx f) t) else outS S
def spOne (S : Sx) (r : Int32) : Vx := if inI r 0 3 then (if S.2.1 (fx r) = -1 ∨ cntQ (S.2.2.1 (fx r)) (fx (S.2.1 (fx r))) < fx (S.2.1 (fx r)) then tellS S 1 else match sq (S.2.2.1 (fx r)) (fx (S.2.1 (fx r))) with
  | none => tellS S 6
  | some t => doneS S (if 0 < t.1 ∧ t.2.1 = 1 ∧ t.2.2 = 1 then 1 else 0)) else outS S
/-- answer and CODE of a pick, from place k on with a sum so far -/
def pq (h : Nat → Option Qf) (bd : Qf) : Nat → Nat → Qf → Int32 × Int32
  | 0, _, _ => (-1, 0)
  | u + 1, k, t => match h k with
    | none => (0, 1)
    | some q => if QW (addQ t q q.1) then (if 0 < cmpQ (addQ t q q.1) bd then (nI k, 0) else pq h bd u (k + 1) (addQ t q q.1)) else (0, 6)
def spPick (S : Sx) (r a : Int32) : Vx := if inI r 0 3 ∧ inI a 0 15 then (match S.1 (fx a) with
  | none => tellS S 1
  | some x => if S.2.1 (fx r) = -1 then tellS S 1 else (.int (pq (S.2.2.1 (fx r)) x (fx (S.2.1 (fx r))) 0 (0, 0, 1)).1, sC S (pq (S.2.2.1 (fx r)) x (fx (S.2.1 (fx r))) 0 (0, 0, 1)).2)) else outS S
def spCode (S : Sx) : Vx := (.int S.2.2.2.1, S)
def spGrown (S : Sx) : Vx := (.int S.2.2.2.2, S)
/-- what always holds -/
def QK (q : Qf) : Prop := QOK q ∧ QW q
def SOK (S : Sx) : Prop := (∀ k, k < 16 → ∀ q, S.1 k = some q → QK q) ∧ (∀ r, r < 4 → S.2.1 r = -1 ∨ ∃ n, n ≤ 10 ∧ S.2.1 r = nI n) ∧ ∀ r, r < 4 → ∀ k, k < 10 → ∀ q, S.2.2.1 r k = some q → QK q
theorem addQ_ok {x y : Qf} {sb : Int32} (hx : QOK x) (hy : QOK y) : QOK (addQ x y sb) := mk_ok (fun h => sgI_sm h) (Nat.mul_pos hx.2.2 hy.2.2)
theorem q0_ok : QOK ((0, 0, 1) : Qf) := ⟨Or.inl ⟨rfl, rfl⟩, rfl, by decide⟩

