/-! Division.divide -/
theorem gN_comm {g : Gh} {a b N M n m : Nat} {d e : Nat → Nat} (h1 : a ≠ b) (h2 : a ≠ b + 1) (h3 : b ≠ a + 1) : gN (gN g a N n d) b M m e = gN (gN g b M m e) a N n d := by
  funext q
  by_cases q1 : q = b
  · subst q1
    rw [gN_a, gN_o (Ne.symm h1) h3, gN_a]
  · by_cases q2 : q = b + 1
    · subst q2
      rw [gN_p, gN_o (Ne.symm h2) (by omega), gN_p]
    · rw [gN_o q1 q2]
      by_cases q3 : q = a
      · subst q3
        rw [gN_a, gN_a]
      · by_cases q4 : q = a + 1
        · subst q4
          rw [gN_p, gN_p]
        · rw [gN_o q3 q4, gN_o q3 q4, gN_o q1 q2]
theorem val_upNm {d : Nat → Nat} {k x : Nat} (h0 : d k = 0) : ∀ j, val (upN d k x) (k + 1 + j) = val d (k + 1 + j) + x * 4294967296 ^ k
  | 0 => by
    show val (upN d k x) (k + 1) = val d (k + 1) + _
    rw [val_upN, val_s, h0]
    omega
  | j + 1 => by
    rw [show k + 1 + (j + 1) = (k + 1 + j) + 1 by omega, val_s, val_s, val_upNm h0 j, upN_n (by omega)]
    omega
def gW (g g' : Gh) (lo hi : Nat) : Prop := ∀ q, q < lo ∨ hi ≤ q → g' q = g q
theorem gW_r {g : Gh} {lo hi : Nat} : gW g g lo hi := fun _ _ => rfl
theorem gW_t {g g1 g2 : Gh} {lo hi : Nat} (h1 : gW g g1 lo hi) (h2 : gW g1 g2 lo hi) : gW g g2 lo hi := fun q h => (h2 q h).trans (h1 q h)
theorem gW_O {g g' : Gh} {a lo hi : Nat} (h : gO g g' a) (h1 : lo ≤ a) (h2 : a + 2 ≤ hi) : gW g g' lo hi := fun q hq => h q (by omega) (by omega)
theorem gW_N {g : Gh} {a N n lo hi : Nat} {d : Nat → Nat} (h1 : lo ≤ a) (h2 : a + 2 ≤ hi) : gW g (gN g a N n d) lo hi := gW_O gO_N h1 h2
theorem gW_le {g g' : Gh} {lo hi lo' hi' : Nat} (h : gW g g' lo hi) (h1 : lo' ≤ lo) (h2 : hi ≤ hi') : gW g g' lo' hi' := fun q hq => h q (by omega)
theorem NA_W {g g' : Gh} {a N v lo hi : Nat} (h : NA g a N v) (hw : gW g g' lo hi) (ha : a + 1 < lo ∨ hi ≤ a) : NA g' a N v := by
  obtain ⟨n, d, h1, h2, h3⟩ := h
  exact ⟨n, d, ⟨by rw [hw a (by omega)]; exact h1.1, by rw [hw (a + 1) (by omega)]; exact h1.2.1, h1.2.2⟩, h2, h3⟩
theorem NA_ne {g : Gh} {a o N v ci : Nat} {fs : List Value} (h : NA g a N v) (ho : g o = some (.inr (ci, fs))) (hc : ci ≠ 2) : a ≠ o ∧ a + 1 ≠ o := by
  obtain ⟨n, d, h1, -, -⟩ := h
  constructor
  · intro q
    have := h1.1
    rw [q, ho] at this
    simp only [Option.some.injEq, Sum.inr.injEq, Prod.mk.injEq] at this
    exact hc this.1
  · intro q
    have := h1.2.1
    rw [q, ho] at this
    cases this
/-- the step of long division, in numbers -/
theorem kn_step {V U q b b2 U1 U2 P : Nat} (hV : V < P) (h1 : q * V < U + V) (h2 : U < (q + 1) * V) (ht : U1 + q * V = U + b * P) (hb : b ≤ 1) (hU1 : U1 < P) (hg : b = 1 → U2 + b2 * P = U1 + V ∧ b2 ≤ 1 ∧ U2 < P) : (b = 0 → U1 + q * V = U ∧ U1 < V) ∧ (b = 1 → 1 ≤ q ∧ U2 + (q - 1) * V = U ∧ U2 < V) := by
  rw [Nat.add_mul, Nat.one_mul] at h2
  constructor
  · intro h
    subst h
    omega
  · intro h
    subst h
    obtain ⟨g1, g2, g3⟩ := hg rfl
    have hq : 1 ≤ q := by
      rcases Nat.eq_zero_or_pos q with z | z
      · subst z; omega
      · exact z
    obtain ⟨k, rfl⟩ : ∃ k, q = k + 1 := ⟨q - 1, by omega⟩
    rw [Nat.add_sub_cancel]
    rw [Nat.add_mul, Nat.one_mul] at h1 ht
    rcases (show b2 = 0 ∨ b2 = 1 by omega) with z | z
    · subst z; omega
    · subst z; omega
/-- the guessed digit against the true one -/
theorem kn_guess {n z k : Nat} {e r : Nat → Nat} (he : ∀ j, e j < 4294967296) (hr : ∀ j, r j < 4294967296) (hn : 1 ≤ n) (hv1 : 2147483648 ≤ e (n - 1)) (hk : k + n < z) (hU : val (sh r k) (n + 1) < val e n * 4294967296) :
    r (k + n) ≤ e (n - 1) ∧ ∃ q, q ≤ 4294967295 ∧ min 4294967295 (((r (k + n) * 4294967296 + r (k + n - 1)) * 4294967296 + dz z r (((k + n : Nat) : Int) - 2)) / (e (n - 1) * 4294967296 + dz n e ((n : Int) - 2))) = q ∧ q * val e n < val (sh r k) (n + 1) + val e n ∧ val (sh r k) (n + 1) < (q + 1) * val e n := by
  obtain ⟨m, rfl⟩ : ∃ m, n = m + 1 := ⟨n - 1, by omega⟩
  rw [show m + 1 - 1 = m by omega] at *
  have u1 : val (sh r k) (m + 1 + 1) = val (sh r k) (m + 1) + r (k + (m + 1)) * 4294967296 ^ (m + 1) := val_s _ _
  have v1 : val e (m + 1) = val e m + e m * 4294967296 ^ m := val_s _ _
  have v2 := val_lt he m
  have hpos := Bp m
  have hle : r (k + (m + 1)) ≤ e m := by
    rcases Nat.lt_or_ge (e m) (r (k + (m + 1))) with h | h
    · exfalso
      have h1 := Nat.mul_le_mul_right (4294967296 ^ (m + 1)) (show e m + 1 ≤ r (k + (m + 1)) from h)
      rw [Nat.add_mul, Nat.one_mul, Bs, Nat.mul_left_comm (e m)] at h1
      rw [u1, v1, Bs, Nat.add_mul] at hU
      omega
    · exact h
  refine ⟨hle, _, Nat.min_le_left _ _, rfl, ?_⟩
  cases m with
  | zero =>
    have e0 : dz (0 + 1) e (((0 + 1 : Nat) : Int) - 2) = 0 := dz_out (Or.inl (by omega))
    have hVe : val e (0 + 1) = e 0 := by rw [v1]; show 0 + e 0 * 1 = e 0; omega
    have hUe : val (sh r k) (0 + 1 + 1) = r (k + (0 + 1)) * 4294967296 + r (k + (0 + 1) - 1) := by
      rw [u1]
      show 0 + r (k + 0) * 1 + r (k + (0 + 1)) * 4294967296 = _
      rw [show k + (0 + 1) - 1 = k + 0 by omega]
      omega
    rw [e0, ← hUe, Nat.add_zero (e 0 * 4294967296)]
    rw [hVe] at hU ⊢
    have x2 := dz_lt (n := z) hr (((k + (0 + 1) : Nat) : Int) - 2)
    generalize dz z r (((k + (0 + 1) : Nat) : Int) - 2) = c at x2
    generalize val (sh r k) (0 + 1 + 1) = U at hU
    have e1 : (U * 4294967296 + c) / (e 0 * 4294967296) = U / e 0 := by
      rw [Nat.mul_comm (e 0), ← Nat.div_div_eq_div_mul, Nat.mul_comm U, Nat.mul_add_div (by decide), Nat.div_eq_of_lt x2, Nat.add_zero]
    have e2 : U / e 0 < 4294967296 := (Nat.div_lt_iff_lt_mul (by omega)).mpr (by rw [Nat.mul_comm]; exact hU)
    rw [e1, Nat.min_eq_right (by omega)]
    have e3 := Nat.div_mul_le_self U (e 0)
    have e4 := Nat.lt_mul_div_succ U (show 0 < e 0 by omega)
    rw [Nat.mul_comm] at e4
    constructor
    · omega
    · exact e4
  | succ i =>
    have d1 : dz (i + 1 + 1) e (((i + 1 + 1 : Nat) : Int) - 2) = e i := by
      rw [show ((i + 1 + 1 : Nat) : Int) - 2 = (i : Int) by omega, dz_in (by omega)]
    have d2 : dz z r (((k + (i + 1 + 1) : Nat) : Int) - 2) = r (k + i) := by
      rw [show ((k + (i + 1 + 1) : Nat) : Int) - 2 = ((k + i : Nat) : Int) by omega, dz_in (by omega)]
    have d3 : r (k + (i + 1 + 1) - 1) = r (k + (i + 1)) := by rw [show k + (i + 1 + 1) - 1 = k + (i + 1) by omega]
    rw [d1, d2, d3]
    have x1 := he i
    have x2 := hr (k + i)
    have hV1 : val e (i + 1 + 1) = val e i + (e (i + 1) * 4294967296 + e i) * 4294967296 ^ i := val_top e i
    have hU1 : val (sh r k) (i + 1 + 1 + 1) = ((r (k + (i + 1 + 1)) * 4294967296 + r (k + (i + 1))) * 4294967296 + r (k + i)) * 4294967296 ^ i + val (sh r k) i := by
      rw [u1, val_top]
      show val (sh r k) i + (r (k + (i + 1)) * 4294967296 + r (k + i)) * 4294967296 ^ i + r (k + (i + 1 + 1)) * 4294967296 ^ (i + 1 + 1) = _
      rw [Bs, Bs]
      generalize 4294967296 ^ i = P
      have h1 : ((r (k + (i + 1 + 1)) * 4294967296 + r (k + (i + 1))) * 4294967296 + r (k + i)) * P = r (k + (i + 1 + 1)) * (4294967296 * (4294967296 * P)) + (r (k + (i + 1)) * 4294967296 + r (k + i)) * P := by
        rw [Nat.add_mul, Nat.add_mul, Nat.add_mul, Nat.add_mul, ← Nat.mul_assoc, ← Nat.mul_assoc, Nat.add_assoc]
      omega
    obtain ⟨W, hW⟩ : ∃ W, e (i + 1) * 4294967296 + e i = W := ⟨_, rfl⟩
    obtain ⟨lo, hlo⟩ : ∃ lo, (r (k + (i + 1 + 1)) * 4294967296 + r (k + (i + 1))) * 4294967296 + r (k + i) = lo := ⟨_, rfl⟩
    rw [hW] at hV1 ⊢
    rw [hlo] at hU1 ⊢
    have hW1 : 4294967296 ≤ W := by omega
    have ve := val_lt he i
    refine q_digit (W := W) (P := 4294967296 ^ i) hU1 (val_lt (fun j => hr (k + j)) i) (by rw [hV1]; omega) (by rw [hV1, Nat.add_mul]; omega) hW1 (Nat.min_le_left _ _) ?_ ?_ hU
    · exact Nat.le_trans (Nat.mul_le_mul_right W (Nat.min_le_right _ _)) (Nat.div_mul_le_self lo W)
    · rcases Nat.le_total 4294967295 (lo / W) with h | h
      · right; exact Nat.min_eq_left h
      · left
        rw [Nat.min_eq_right h]
        have := Nat.lt_mul_div_succ lo (show 0 < W by omega)
        rw [Nat.mul_comm] at this
        exact this
theorem d_Dv_divide_0 : decode b_Dv_divide 0 = .ok (.aload_n 0, 1) := by decide +kernel
theorem d_Dv_divide_1 : decode b_Dv_divide 1 = .ok (.getfield 23, 3) := by decide +kernel
theorem d_Dv_divide_4 : decode b_Dv_divide 4 = .ok (.aload_n 1, 1) := by decide +kernel
theorem d_Dv_divide_5 : decode b_Dv_divide 5 = .ok (.invokevirtual 26, 3) := by decide +kernel
theorem d_Dv_divide_8 : decode b_Dv_divide 8 = .ok (.aload_n 0, 1) := by decide +kernel
theorem d_Dv_divide_9 : decode b_Dv_divide 9 = .ok (.getfield 20, 3) := by decide +kernel
theorem d_Dv_divide_12 : decode b_Dv_divide 12 = .ok (.invokevirtual 30, 3) := by decide +kernel
theorem d_Dv_divide_15 : decode b_Dv_divide 15 = .ok (.aload_n 2, 1) := by decide +kernel
theorem d_Dv_divide_16 : decode b_Dv_divide 16 = .ok (.invokevirtual 33, 3) := by decide +kernel
theorem d_Dv_divide_19 : decode b_Dv_divide 19 = .ok (.ifCond .ne 11, 3) := by decide +kernel
theorem d_Dv_divide_22 : decode b_Dv_divide 22 = .ok (.aload_n 1, 1) := by decide +kernel
theorem d_Dv_divide_23 : decode b_Dv_divide 23 = .ok (.aload_n 2, 1) := by decide +kernel
theorem d_Dv_divide_24 : decode b_Dv_divide 24 = .ok (.invokevirtual 37, 3) := by decide +kernel
theorem d_Dv_divide_27 : decode b_Dv_divide 27 = .ok (.ifCond .ge 4, 3) := by decide +kernel
theorem d_Dv_divide_30 : decode b_Dv_divide 30 = .ok (.return_, 1) := by decide +kernel
theorem d_Dv_divide_31 : decode b_Dv_divide 31 = .ok (.bipush 32, 2) := by decide +kernel
theorem d_Dv_divide_33 : decode b_Dv_divide 33 = .ok (.aload_n 2, 1) := by decide +kernel
theorem d_Dv_divide_34 : decode b_Dv_divide 34 = .ok (.aload_n 2, 1) := by decide +kernel
theorem d_Dv_divide_35 : decode b_Dv_divide 35 = .ok (.getfield 41, 3) := by decide +kernel
theorem d_Dv_divide_38 : decode b_Dv_divide 38 = .ok (.iconst 1, 1) := by decide +kernel
theorem d_Dv_divide_39 : decode b_Dv_divide 39 = .ok (.isub, 1) := by decide +kernel
theorem d_Dv_divide_40 : decode b_Dv_divide 40 = .ok (.invokevirtual 45, 3) := by decide +kernel
theorem d_Dv_divide_43 : decode b_Dv_divide 43 = .ok (.invokestatic 49, 3) := by decide +kernel
theorem d_Dv_divide_46 : decode b_Dv_divide 46 = .ok (.isub, 1) := by decide +kernel
theorem d_Dv_divide_47 : decode b_Dv_divide 47 = .ok (.istore_n 3, 1) := by decide +kernel
theorem d_Dv_divide_48 : decode b_Dv_divide 48 = .ok (.aload_n 0, 1) := by decide +kernel
theorem d_Dv_divide_49 : decode b_Dv_divide 49 = .ok (.getfield 14, 3) := by decide +kernel
theorem d_Dv_divide_52 : decode b_Dv_divide 52 = .ok (.aload_n 2, 1) := by decide +kernel
theorem d_Dv_divide_53 : decode b_Dv_divide 53 = .ok (.invokevirtual 26, 3) := by decide +kernel
theorem d_Dv_divide_56 : decode b_Dv_divide 56 = .ok (.aload_n 0, 1) := by decide +kernel
theorem d_Dv_divide_57 : decode b_Dv_divide 57 = .ok (.getfield 14, 3) := by decide +kernel
theorem d_Dv_divide_60 : decode b_Dv_divide 60 = .ok (.iload_n 3, 1) := by decide +kernel
theorem d_Dv_divide_61 : decode b_Dv_divide 61 = .ok (.invokevirtual 53, 3) := by decide +kernel
theorem d_Dv_divide_64 : decode b_Dv_divide 64 = .ok (.aload_n 0, 1) := by decide +kernel
theorem d_Dv_divide_65 : decode b_Dv_divide 65 = .ok (.getfield 23, 3) := by decide +kernel
theorem d_Dv_divide_68 : decode b_Dv_divide 68 = .ok (.iload_n 3, 1) := by decide +kernel
theorem d_Dv_divide_69 : decode b_Dv_divide 69 = .ok (.invokevirtual 53, 3) := by decide +kernel
theorem d_Dv_divide_72 : decode b_Dv_divide 72 = .ok (.aload_n 0, 1) := by decide +kernel
theorem d_Dv_divide_73 : decode b_Dv_divide 73 = .ok (.getfield 23, 3) := by decide +kernel
theorem d_Dv_divide_76 : decode b_Dv_divide 76 = .ok (.getfield 41, 3) := by decide +kernel
theorem d_Dv_divide_79 : decode b_Dv_divide 79 = .ok (.aload_n 0, 1) := by decide +kernel
theorem d_Dv_divide_80 : decode b_Dv_divide 80 = .ok (.getfield 14, 3) := by decide +kernel
theorem d_Dv_divide_83 : decode b_Dv_divide 83 = .ok (.getfield 41, 3) := by decide +kernel
theorem d_Dv_divide_86 : decode b_Dv_divide 86 = .ok (.isub, 1) := by decide +kernel
theorem d_Dv_divide_87 : decode b_Dv_divide 87 = .ok (.iconst 1, 1) := by decide +kernel
theorem d_Dv_divide_88 : decode b_Dv_divide 88 = .ok (.iadd, 1) := by decide +kernel
theorem d_Dv_divide_89 : decode b_Dv_divide 89 = .ok (.istore 4, 2) := by decide +kernel
theorem d_Dv_divide_91 : decode b_Dv_divide 91 = .ok (.aload_n 0, 1) := by decide +kernel
theorem d_Dv_divide_92 : decode b_Dv_divide 92 = .ok (.getfield 23, 3) := by decide +kernel
theorem d_Dv_divide_95 : decode b_Dv_divide 95 = .ok (.aload_n 0, 1) := by decide +kernel
theorem d_Dv_divide_96 : decode b_Dv_divide 96 = .ok (.getfield 23, 3) := by decide +kernel
theorem d_Dv_divide_99 : decode b_Dv_divide 99 = .ok (.getfield 41, 3) := by decide +kernel
theorem d_Dv_divide_102 : decode b_Dv_divide 102 = .ok (.iconst 1, 1) := by decide +kernel
theorem d_Dv_divide_103 : decode b_Dv_divide 103 = .ok (.iadd, 1) := by decide +kernel
theorem d_Dv_divide_104 : decode b_Dv_divide 104 = .ok (.invokevirtual 56, 3) := by decide +kernel
theorem d_Dv_divide_107 : decode b_Dv_divide 107 = .ok (.aload_n 0, 1) := by decide +kernel
theorem d_Dv_divide_108 : decode b_Dv_divide 108 = .ok (.getfield 20, 3) := by decide +kernel
theorem d_Dv_divide_111 : decode b_Dv_divide 111 = .ok (.iload 4, 2) := by decide +kernel
theorem d_Dv_divide_113 : decode b_Dv_divide 113 = .ok (.invokevirtual 56, 3) := by decide +kernel
theorem d_Dv_divide_116 : decode b_Dv_divide 116 = .ok (.iload 4, 2) := by decide +kernel
theorem d_Dv_divide_118 : decode b_Dv_divide 118 = .ok (.iconst 1, 1) := by decide +kernel
theorem d_Dv_divide_119 : decode b_Dv_divide 119 = .ok (.isub, 1) := by decide +kernel
theorem d_Dv_divide_120 : decode b_Dv_divide 120 = .ok (.istore 5, 2) := by decide +kernel
theorem d_Dv_divide_122 : decode b_Dv_divide 122 = .ok (.iload 5, 2) := by decide +kernel
theorem d_Dv_divide_124 : decode b_Dv_divide 124 = .ok (.ifCond .lt 59, 3) := by decide +kernel
theorem d_Dv_divide_127 : decode b_Dv_divide 127 = .ok (.aload_n 0, 1) := by decide +kernel
theorem d_Dv_divide_128 : decode b_Dv_divide 128 = .ok (.iload 5, 2) := by decide +kernel
theorem d_Dv_divide_130 : decode b_Dv_divide 130 = .ok (.aload_n 0, 1) := by decide +kernel
theorem d_Dv_divide_131 : decode b_Dv_divide 131 = .ok (.getfield 14, 3) := by decide +kernel
theorem d_Dv_divide_134 : decode b_Dv_divide 134 = .ok (.getfield 41, 3) := by decide +kernel
theorem d_Dv_divide_137 : decode b_Dv_divide 137 = .ok (.iadd, 1) := by decide +kernel
theorem d_Dv_divide_138 : decode b_Dv_divide 138 = .ok (.invokevirtual 59, 3) := by decide +kernel
theorem d_Dv_divide_141 : decode b_Dv_divide 141 = .ok (.lstore 6, 2) := by decide +kernel
theorem d_Dv_divide_143 : decode b_Dv_divide 143 = .ok (.aload_n 0, 1) := by decide +kernel
theorem d_Dv_divide_144 : decode b_Dv_divide 144 = .ok (.lload 6, 2) := by decide +kernel
theorem d_Dv_divide_146 : decode b_Dv_divide 146 = .ok (.iload 5, 2) := by decide +kernel
theorem d_Dv_divide_148 : decode b_Dv_divide 148 = .ok (.invokevirtual 62, 3) := by decide +kernel
theorem d_Dv_divide_151 : decode b_Dv_divide 151 = .ok (.ifCond .eq 15, 3) := by decide +kernel
theorem d_Dv_divide_154 : decode b_Dv_divide 154 = .ok (.lload 6, 2) := by decide +kernel
theorem d_Dv_divide_156 : decode b_Dv_divide 156 = .ok (.lconst 1, 1) := by decide +kernel
theorem d_Dv_divide_157 : decode b_Dv_divide 157 = .ok (.lsub, 1) := by decide +kernel
theorem d_Dv_divide_158 : decode b_Dv_divide 158 = .ok (.lstore 6, 2) := by decide +kernel
theorem d_Dv_divide_160 : decode b_Dv_divide 160 = .ok (.aload_n 0, 1) := by decide +kernel
theorem d_Dv_divide_161 : decode b_Dv_divide 161 = .ok (.iload 5, 2) := by decide +kernel
theorem d_Dv_divide_163 : decode b_Dv_divide 163 = .ok (.invokevirtual 66, 3) := by decide +kernel
theorem d_Dv_divide_166 : decode b_Dv_divide 166 = .ok (.aload_n 0, 1) := by decide +kernel
theorem d_Dv_divide_167 : decode b_Dv_divide 167 = .ok (.getfield 20, 3) := by decide +kernel
theorem d_Dv_divide_170 : decode b_Dv_divide 170 = .ok (.iload 5, 2) := by decide +kernel
theorem d_Dv_divide_172 : decode b_Dv_divide 172 = .ok (.lload 6, 2) := by decide +kernel
theorem d_Dv_divide_174 : decode b_Dv_divide 174 = .ok (.invokevirtual 69, 3) := by decide +kernel
theorem d_Dv_divide_177 : decode b_Dv_divide 177 = .ok (.iinc 5 (-1), 3) := by decide +kernel
theorem d_Dv_divide_180 : decode b_Dv_divide 180 = .ok (.goto (-58), 3) := by decide +kernel
theorem d_Dv_divide_183 : decode b_Dv_divide 183 = .ok (.aload_n 0, 1) := by decide +kernel
theorem d_Dv_divide_184 : decode b_Dv_divide 184 = .ok (.getfield 20, 3) := by decide +kernel
theorem d_Dv_divide_187 : decode b_Dv_divide 187 = .ok (.invokevirtual 73, 3) := by decide +kernel
theorem d_Dv_divide_190 : decode b_Dv_divide 190 = .ok (.aload_n 0, 1) := by decide +kernel
theorem d_Dv_divide_191 : decode b_Dv_divide 191 = .ok (.getfield 23, 3) := by decide +kernel
theorem d_Dv_divide_194 : decode b_Dv_divide 194 = .ok (.invokevirtual 73, 3) := by decide +kernel
theorem d_Dv_divide_197 : decode b_Dv_divide 197 = .ok (.aload_n 0, 1) := by decide +kernel
theorem d_Dv_divide_198 : decode b_Dv_divide 198 = .ok (.getfield 23, 3) := by decide +kernel
theorem d_Dv_divide_201 : decode b_Dv_divide 201 = .ok (.iload_n 3, 1) := by decide +kernel
theorem d_Dv_divide_202 : decode b_Dv_divide 202 = .ok (.invokevirtual 76, 3) := by decide +kernel
theorem d_Dv_divide_205 : decode b_Dv_divide 205 = .ok (.return_, 1) := by decide +kernel
def pDV (g : Gh) (o x y nx : Nat) : Option Value → Gh → Nat → Prop := fun r g' nx' => r = none ∧ nx = nx' ∧ NA g' (o + 3) 20 (x / y) ∧ NA g' (o + 5) 20 (x % y) ∧ (∃ w, NA g' (o + 1) 20 w) ∧ gW g g' (o + 1) (o + 7)
theorem nrm_top {t : Nat} (h0 : t ≠ 0) (h : t < 4294967296) : 1 ≤ bl t ∧ bl t ≤ 32 ∧ 2147483648 ≤ t * 2 ^ (32 - bl t) ∧ (t + 1) * 2 ^ (32 - bl t) ≤ 4294967296 := by
  have h1 := bl_lt t
  have h2 := bl_le h0
  have h3 : bl t ≤ 32 := bl_iff.mpr h
  have h4 : 1 ≤ bl t := by
    rcases Nat.eq_zero_or_pos (bl t) with q | q
    · rw [q] at h1; omega
    · exact q
  refine ⟨h4, h3, ?_, ?_⟩
  · have h5 := Nat.mul_le_mul_right (2 ^ (32 - bl t)) h2
    rw [← Nat.pow_add, show bl t - 1 + (32 - bl t) = 31 by omega] at h5
    exact h5
  · have h5 := Nat.mul_le_mul_right (2 ^ (32 - bl t)) (show t + 1 ≤ 2 ^ bl t from h1)
    rw [← Nat.pow_add, show bl t + (32 - bl t) = 32 by omega] at h5
    exact h5

