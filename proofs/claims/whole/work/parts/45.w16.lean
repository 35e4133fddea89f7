/-! the reference's numbers: 56 figures of 16 bits -/
def w16 (d : Nat → Nat) : Nat → Nat
  | 0 => 0
  | n + 1 => w16 d n + d n * 65536 ^ n
theorem w16_s (d : Nat → Nat) (n : Nat) : w16 d (n + 1) = w16 d n + d n * 65536 ^ n := rfl
theorem Hp (n : Nat) : 0 < 65536 ^ n := Nat.pow_pos (by decide)
theorem Hs (n : Nat) : 65536 ^ (n + 1) = 65536 * 65536 ^ n := by rw [Nat.pow_succ, Nat.mul_comm]
theorem H2 (n : Nat) : 65536 ^ n = 2 ^ (16 * n) := by rw [Nat.pow_mul]
theorem w16_lt {d : Nat → Nat} (h : ∀ j, d j < 65536) : ∀ n, w16 d n < 65536 ^ n
  | 0 => by simp [w16]
  | n + 1 => by
    have h1 := w16_lt h n
    have h2 : d n + 1 ≤ 65536 := h n
    have h3 := Nat.mul_le_mul_right (65536 ^ n) h2
    rw [Nat.add_mul, Nat.one_mul] at h3
    rw [w16_s, Hs]
    omega
theorem w16_ext {d e : Nat → Nat} : ∀ n, (∀ j, j < n → d j = e j) → w16 d n = w16 e n
  | 0, _ => rfl
  | n + 1, h => by rw [w16_s, w16_s, w16_ext n (fun j hj => h j (by omega)), h n (by omega)]
theorem w16_up {d : Nat → Nat} {k x : Nat} : w16 (upN d k x) (k + 1) = w16 d k + x * 65536 ^ k := by
  rw [w16_s, upN_s, w16_ext k (fun j hj => upN_n (by omega))]
theorem w16_z {d : Nat → Nat} : ∀ n, (∀ j, j < n → d j = 0) → w16 d n = 0
  | 0, _ => rfl
  | n + 1, h => by rw [w16_s, w16_z n (fun j hj => h j (by omega)), h n (by omega), Nat.zero_mul]
theorem w16_zs {d : Nat → Nat} {n : Nat} : ∀ k, (∀ j, n ≤ j → j < n + k → d j = 0) → w16 d (n + k) = w16 d n
  | 0, _ => rfl
  | k + 1, h => by
    rw [show n + (k + 1) = (n + k) + 1 by omega, w16_s, w16_zs k (fun j h1 h2 => h j h1 (by omega)), h (n + k) (by omega) (by omega)]
    omega
theorem w16_mono {d : Nat → Nat} {n : Nat} : ∀ k, w16 d n ≤ w16 d (n + k)
  | 0 => Nat.le_refl _
  | k + 1 => by have := w16_mono (d := d) (n := n) k; rw [show n + (k + 1) = (n + k) + 1 by omega, w16_s]; omega
/-- a figure of a number -/
theorem w16_dig {d : Nat → Nat} (hd : ∀ j, d j < 65536) (i : Nat) : ∀ n, i < n → w16 d n / 65536 ^ i % 65536 = d i := by
  intro n
  induction n with
  | zero => intro h; omega
  | succ n ih =>
    intro h
    rw [w16_s]
    by_cases hi : i = n
    · subst hi
      rw [Nat.add_mul_div_right _ _ (Hp i), Nat.div_eq_of_lt (w16_lt hd i), Nat.zero_add, Nat.mod_eq_of_lt (hd i)]
    · obtain ⟨k, hk⟩ : ∃ k, n = i + (k + 1) := ⟨n - i - 1, by omega⟩
      have e : d n * 65536 ^ n = 65536 ^ i * (65536 * (d n * 65536 ^ k)) := by
        have : 65536 ^ n = 65536 ^ i * (65536 * 65536 ^ k) := by rw [hk, Nat.pow_add, Hs]
        rw [this, Nat.mul_left_comm, Nat.mul_left_comm (d n)]
      rw [e, Nat.add_mul_div_left _ _ (Hp i), Nat.add_mul_mod_self_left, ih (by omega)]
/-- the lowest figures -/
theorem w16_low {d : Nat → Nat} (hd : ∀ j, d j < 65536) {m n : Nat} (h : w16 d (n + m) < 65536 ^ n) : w16 d (n + m) = w16 d n := by
  induction m with
  | zero => rfl
  | succ m ih =>
    rw [show n + (m + 1) = (n + m) + 1 by omega, w16_s] at h ⊢
    have h1 := Nat.pow_le_pow_right (by decide : 0 < 65536) (show n ≤ n + m by omega)
    have h0 : d (n + m) = 0 := by
      rcases Nat.eq_zero_or_pos (d (n + m)) with z | z
      · exact z
      · have := Nat.mul_le_mul_right (65536 ^ (n + m)) z
        omega
    rw [h0, Nat.zero_mul, Nat.add_zero] at h ⊢
    exact ih h
theorem w16_0 {d : Nat → Nat} {n : Nat} (h : w16 d n = 0) : ∀ j, j < n → d j = 0 := by
  induction n with
  | zero => intro j hj; omega
  | succ n ih =>
    rw [w16_s] at h
    intro j hj
    by_cases hjn : j = n
    · subst hjn
      have h1 : d j * 65536 ^ j = 0 := by omega
      rcases Nat.mul_eq_zero.mp h1 with z | z
      · exact z
      · have := Hp j; omega
    · exact ih (by omega) j (by omega)
/-- an even number's lowest figure -/
theorem w16_odd (d : Nat → Nat) : ∀ n, w16 d (n + 1) % 2 = d 0 % 2
  | 0 => by simp [w16]
  | n + 1 => by
    rw [w16_s, Hs, Nat.mul_left_comm]
    have := w16_odd d n
    omega
/-! arrays of figures -/
abbrev oI (N : Nat) (d : Nat → Nat) : gE := .inl (1, N, .inl (fun j => nI (d j)))
def I56 (g : Gh) (a : Nat) (d : Nat → Nat) : Prop := g a = some (oI 56 d) ∧ ∀ j, d j < 65536
def MA (g : Gh) (a v : Nat) : Prop := ∃ d, I56 g a d ∧ w16 d 56 = v
def g1 (g g' : Gh) (a : Nat) : Prop := ∀ q, q ≠ a → g' q = g q
def g2 (g g' : Gh) (a b : Nat) : Prop := ∀ q, q ≠ a → q ≠ b → g' q = g q
def p1 (g : Gh) (a v nx : Nat) : Option Value → Gh → Nat → Prop := fun r g' nx' => r = none ∧ nx = nx' ∧ MA g' a v ∧ g1 g g' a
theorem g1_r {g : Gh} {a : Nat} : g1 g g a := fun _ _ => rfl
theorem g1_S {g : Gh} {a : Nat} {e : gE} : g1 g (gS g a e) a := fun _ h => gS_n h
theorem g1_t {g g' g'' : Gh} {a : Nat} (h : g1 g g' a) (h' : g1 g' g'' a) : g1 g g'' a := fun q z => (h' q z).trans (h q z)
theorem MA_o {g g' : Gh} {a b v : Nat} (h : MA g b v) (h1 : g1 g g' a) (hne : b ≠ a) : MA g' b v := by
  obtain ⟨d, hd, e⟩ := h
  exact ⟨d, ⟨(h1 b hne).trans hd.1, hd.2⟩, e⟩
theorem MA_lt {g : Gh} {a v : Nat} (h : MA g a v) : v < 65536 ^ 56 := by
  obtain ⟨d, hd, e⟩ := h
  rw [← e]; exact w16_lt hd.2 56
theorem updI (d : Nat → Nat) (k x : Nat) : upd (fun j => nI (d j)) k (nI x) = fun j => nI (upN d k x j) := by
  funext j
  unfold upd upN
  by_cases h : j = k
  · rw [if_pos h, if_pos h]
  · rw [if_neg h, if_neg h]
theorem upN_16 {d : Nat → Nat} {k x : Nat} (h : ∀ j, d j < 65536) (hx : x < 65536) : ∀ j, upN d k x j < 65536 := by
  intro j
  unfold upN
  by_cases hj : j = k
  · rw [if_pos hj]; exact hx
  · rw [if_neg hj]; exact h j
theorem I56_S {g : Gh} {a k x : Nat} {d : Nat → Nat} (h : I56 g a d) (hx : x < 65536) : I56 (gS g a (.inl (1, 56, .inl (upd (fun j => nI (d j)) k (nI x))))) a (upN d k x) := ⟨by rw [gS_s, updI], upN_16 h.2 hx⟩
theorem I56_o {g g' : Gh} {a b : Nat} {d : Nat → Nat} (h : I56 g b d) (h1 : g1 g g' a) (hne : b ≠ a) : I56 g' b d := ⟨(h1 b hne).trans h.1, h.2⟩
/-! steps of loops, with a power P -/
theorem st_add {x c' a b c P : Nat} (h : x + 65536 * c' = a + b + c) : x * P + c' * (65536 * P) = a * P + b * P + c * P := by
  have := congrArg (· * P) h
  simp only [Nat.add_mul] at this
  rw [Nat.mul_left_comm, ← Nat.mul_assoc]
  exact this
theorem st_mul (a b P : Nat) : a * (b * P) = b * (a * P) := Nat.mul_left_comm _ _ _
theorem sh31 : ∀ k, k < 32 → ((nI k &&& 31).toBitVec.smod 32).toNat = k := by decide +kernel
theorem i_shr {n k : Nat} (h : n < 2 ^ 31) (hk : k < 32) : nI n >>> (nI k &&& 31) = nI (n / 2 ^ k) := pk_shrN h _ k (sh31 k hk)
theorem i_shl {n k : Nat} (hk : k < 32) (h : n * 2 ^ k < 2 ^ 32) : nI n <<< (nI k &&& 31) = nI (n * 2 ^ k) := pk_shlN _ k (sh31 k hk) h
theorem i_or (a b : Nat) : nI a ||| nI b = nI (a ||| b) := by
  apply Int32.toBitVec_inj.mp
  show BitVec.ofNat 32 a ||| BitVec.ofNat 32 b = BitVec.ofNat 32 (a ||| b)
  rw [BitVec.ofNat_or]
theorem i_and1 (m : Nat) : nI m &&& 1 = nI (m % 2) := by
  rw [show (1 : Int32) = nI 1 from rfl, nx_and, Nat.and_one_is_mod]
theorem i_l2 (n : Nat) : (lN n).toInt32 = nI n := lN_i n

