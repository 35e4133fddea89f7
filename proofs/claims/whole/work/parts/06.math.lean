/-! the value of limbs -/
theorem val_s (d : Nat → Nat) (n : Nat) : val d (n + 1) = val d n + d n * 4294967296 ^ n := rfl
theorem Bp (n : Nat) : 0 < 4294967296 ^ n := Nat.pow_pos (by decide)
theorem Bs (n : Nat) : 4294967296 ^ (n + 1) = 4294967296 * 4294967296 ^ n := by rw [Nat.pow_succ, Nat.mul_comm]
theorem val_lt {d : Nat → Nat} (h : ∀ j, d j < 4294967296) : ∀ n, val d n < 4294967296 ^ n
  | 0 => by simp [val]
  | n + 1 => by
    have h1 := val_lt h n
    have h2 : d n + 1 ≤ 4294967296 := h n
    have h3 := Nat.mul_le_mul_right (4294967296 ^ n) h2
    rw [Nat.add_mul, Nat.one_mul] at h3
    rw [val_s, Bs]
    omega
theorem val_ext {d e : Nat → Nat} : ∀ n, (∀ j, j < n → d j = e j) → val d n = val e n
  | 0, _ => rfl
  | n + 1, h => by rw [val_s, val_s, val_ext n (fun j hj => h j (by omega)), h n (by omega)]
theorem val_z {d : Nat → Nat} {n : Nat} : ∀ k, (∀ j, n ≤ j → j < n + k → d j = 0) → val d (n + k) = val d n
  | 0, _ => rfl
  | k + 1, h => by
    rw [show n + (k + 1) = (n + k) + 1 by omega, val_s, val_z k (fun j h1 h2 => h j h1 (by omega)), h (n + k) (by omega) (by omega)]
    omega
theorem val_zeros {d : Nat → Nat} {n m : Nat} (hm : n ≤ m) (h : ∀ j, n ≤ j → j < m → d j = 0) : val d m = val d n := by
  obtain ⟨k, rfl⟩ : ∃ k, m = n + k := ⟨m - n, by omega⟩
  exact val_z k h
theorem val_tl (d : Nat → Nat) : ∀ n, val d (tl d n) = val d n
  | 0 => rfl
  | n + 1 => by
    unfold tl
    split
    · rename_i h
      rw [val_tl d n, val_s, h]; omega
    · rfl
theorem tl_norm (d : Nat → Nat) : ∀ n, tl d n = 0 ∨ d (tl d n - 1) ≠ 0
  | 0 => Or.inl rfl
  | n + 1 => by
    unfold tl
    split
    · exact tl_norm d n
    · rename_i h
      exact Or.inr h
theorem val_low {d : Nat → Nat} {n : Nat} (h : d n ≠ 0) : 4294967296 ^ n ≤ val d (n + 1) := by
  rw [val_s]
  have h1 : 1 ≤ d n := by omega
  have h2 := Nat.mul_le_mul_right (4294967296 ^ n) h1
  omega
theorem norm_len {d : Nat → Nat} {n k : Nat} (hd : ∀ j, d j < 4294967296) (hn : n = 0 ∨ d (n - 1) ≠ 0) : val d n < 4294967296 ^ k ↔ n ≤ k := by
  constructor
  · intro h
    rcases hn with rfl | hn
    · omega
    · cases n with
      | zero => omega
      | succ n =>
        have h1 := val_low (n := n) hn
        have h2 : 4294967296 ^ n < 4294967296 ^ k := by omega
        have h3 := (Nat.pow_lt_pow_iff_right (by decide : 1 < 4294967296)).mp h2
        omega
  · intro h
    have h1 := val_lt hd n
    have h2 := Nat.pow_le_pow_right (by decide : 0 < 4294967296) h
    omega
theorem val_dig {d : Nat → Nat} (hd : ∀ j, d j < 4294967296) (i : Nat) : ∀ n, val d n / 4294967296 ^ i % 4294967296 = dz n d i := by
  intro n
  induction n with
  | zero =>
    rw [dz_out (Or.inr (by omega))]
    simp [val]
  | succ n ih =>
    rw [val_s]
    rcases Nat.lt_trichotomy i n with h | h | h
    · obtain ⟨k, hk⟩ : ∃ k, n = i + (k + 1) := ⟨n - i - 1, by omega⟩
      have e : d n * 4294967296 ^ n = 4294967296 ^ i * (4294967296 * (d n * 4294967296 ^ k)) := by
        have : 4294967296 ^ n = 4294967296 ^ i * (4294967296 * 4294967296 ^ k) := by rw [hk, Nat.pow_add, Bs]
        rw [this, Nat.mul_left_comm, Nat.mul_left_comm (d n)]
      rw [e, Nat.add_mul_div_left _ _ (Bp i), Nat.add_mul_mod_self_left, ih]
      rw [dz_in (by omega), dz_in (by omega)]
    · subst h
      rw [Nat.add_mul_div_right _ _ (Bp i), Nat.div_eq_of_lt (val_lt hd i), Nat.zero_add, Nat.mod_eq_of_lt (hd i), dz_in (by omega)]
    · have h1 : val d n + d n * 4294967296 ^ n < 4294967296 ^ i := by
        have h1 := val_lt hd (n + 1)
        rw [val_s] at h1
        have h2 := Nat.pow_le_pow_right (by decide : 0 < 4294967296) (show n + 1 ≤ i by omega)
        omega
      rw [Nat.div_eq_of_lt h1, dz_out (Or.inr (by omega))]
/-- a Natural at a, with room for N limbs, of the value v -/
def NA (g : Gh) (a N v : Nat) : Prop := ∃ (n : Nat) (d : Nat → Nat), RN g a N n d ∧ val d n = v ∧ (n = 0 ∨ d (n - 1) ≠ 0)
/-- what a change of the Natural at a leaves -/
def gO (g g' : Gh) (a : Nat) : Prop := ∀ q, q ≠ a → q ≠ a + 1 → g' q = g q
def pNA (g : Gh) (a N v nx : Nat) : Option Value → Gh → Nat → Prop := fun r g' nx' => r = none ∧ nx = nx' ∧ NA g' a N v ∧ gO g g' a
theorem gO_N {g : Gh} {a N n : Nat} {d : Nat → Nat} : gO g (gN g a N n d) a := fun _ h1 h2 => gN_o h1 h2
theorem gO_r {g : Gh} {a : Nat} : gO g g a := fun _ _ _ => rfl
theorem gO_t {g g1 g2 : Gh} {a : Nat} (h1 : gO g g1 a) (h2 : gO g1 g2 a) : gO g g2 a := fun q x y => (h2 q x y).trans (h1 q x y)
theorem NA_o {g g' : Gh} {a b N M v w : Nat} (ha : NA g a N v) (hb : NA g b M w) (h : b ≠ a) (ho : gO g g' a) : NA g' b M w := by
  obtain ⟨n, d, h1, h2, h3⟩ := hb
  obtain ⟨m, e, h4, -, -⟩ := ha
  have x1 := RN_apart h4 h1
  have x2 := RN_apart h1 h4
  exact ⟨n, d, ⟨by rw [ho b h x1]; exact h1.1, by rw [ho (b + 1) (by omega) (by omega)]; exact h1.2.1, h1.2.2⟩, h2, h3⟩
theorem pw_ge {a b : Nat} (h : a ≤ b) : 4294967296 ^ a ≤ 4294967296 ^ b := Nat.pow_le_pow_right (by decide) h

