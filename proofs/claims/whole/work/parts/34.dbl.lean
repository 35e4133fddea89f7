/-! Teller: the bits of doubles -/
def dT (a b : Nat) : Int := 53 - (bl a : Int) + (bl b : Int)
def dX (a b : Nat) : Nat := a * 2 ^ (dT a b).toNat
def dY (a b : Nat) : Nat := b * 2 ^ (-dT a b).toNat
def dq (a b : Nat) : Nat := dX a b / dY a b
def dM (a b : Nat) : Nat := if 9007199254740992 ≤ dq a b then dq a b / 2 else dq a b
def dW (a b : Nat) : Int := if 9007199254740992 ≤ dq a b then dT a b - 1 else dT a b
def dI (a b : Nat) : Nat := if dX a b % dY a b = 0 ∧ (9007199254740992 ≤ dq a b → dq a b % 2 = 0) then 1 else 0
def dU (s : Int32) (a b e : Nat) : Nat := if (s < 0 ↔ e = 0) ∧ dI a b = 0 then 1 else 0
def dB (a b : Nat) : Nat := (1075 - dW a b).toNat * 4503599627370496 + (dM a b - 4503599627370496)
def dbl (s : Int32) (a b e : Nat) : Int64 := if s = 0 then 0 else if s < 0 then lN (dB a b + dU s a b e) ||| (-9223372036854775808) else lN (dB a b + dU s a b e)
theorem p2_pos (n : Nat) : 0 < 2 ^ n := Nat.pow_pos (by decide)
/-- the quotient lies between 2^52 and 2^54 -/
theorem dq_b {a b : Nat} (ha : a ≠ 0) (hb : b ≠ 0) : 4503599627370496 ≤ dq a b ∧ dq a b < 18014398509481984 := by
  have a1 := bl_le ha
  have a2 := bl_lt a
  have b1 := bl_le hb
  have b2 := bl_lt b
  have pa : bl a ≠ 0 := fun q => by rw [q] at a2; simp at a2; omega
  have pb : bl b ≠ 0 := fun q => by rw [q] at b2; simp at b2; omega
  obtain ⟨k, hk⟩ : ∃ k, bl a = k + 1 := ⟨bl a - 1, by omega⟩
  obtain ⟨m, hm⟩ : ∃ m, bl b = m + 1 := ⟨bl b - 1, by omega⟩
  rw [hk] at a1 a2
  rw [hm] at b1 b2
  rw [Nat.add_sub_cancel] at a1 b1
  have hY : 0 < dY a b := Nat.mul_pos (Nat.pos_of_ne_zero hb) (p2_pos _)
  have hT : dT a b = 53 - (k : Int) + m := by unfold dT; rw [hk, hm]; omega
  obtain ⟨u, hu⟩ : ∃ u, (dT a b).toNat = u := ⟨_, rfl⟩
  obtain ⟨w, hw⟩ : ∃ w, (-dT a b).toNat = w := ⟨_, rfl⟩
  have huw : u + k = w + m + 53 := by omega
  have pe1 : 2 ^ k * 2 ^ u = 2 ^ (m + 1) * 2 ^ w * 2 ^ 52 := by
    rw [← Nat.pow_add, ← Nat.pow_add, ← Nat.pow_add]; congr 1; omega
  have pe2 : 2 ^ (k + 1) * 2 ^ u = 2 ^ m * 2 ^ w * 2 ^ 54 := by
    rw [← Nat.pow_add, ← Nat.pow_add, ← Nat.pow_add]; congr 1; omega
  constructor
  · show _ ≤ dX a b / dY a b
    rw [Nat.le_div_iff_mul_le hY]
    have x1 := Nat.mul_le_mul_right (2 ^ u) a1
    have x2 := Nat.mul_le_mul_right (2 ^ 52) (Nat.mul_le_mul_right (2 ^ w) (Nat.le_of_lt b2))
    unfold dX dY
    rw [hu, hw, show (4503599627370496 : Nat) = 2 ^ 52 from rfl, Nat.mul_comm (2 ^ 52)]
    exact Nat.le_trans x2 (Nat.le_trans (Nat.le_of_eq pe1.symm) x1)
  · show dX a b / dY a b < _
    rw [Nat.div_lt_iff_lt_mul hY]
    have x1 := Nat.mul_lt_mul_of_pos_right a2 (p2_pos u)
    have x2 := Nat.mul_le_mul_right (2 ^ 54) (Nat.mul_le_mul_right (2 ^ w) b1)
    unfold dX dY
    rw [hu, hw, show (18014398509481984 : Nat) = 2 ^ 54 from rfl, Nat.mul_comm (2 ^ 54)]
    exact Nat.lt_of_lt_of_le x1 (Nat.le_trans (Nat.le_of_eq pe2) x2)
theorem c_Na_shiftUpI (l : Launch) {g : Gh} (nx : Nat) {a v p : Nat} (ha : NA g a 20 v) (x : Int32) (hx : x.toInt ≤ 1000) (hv : v < 4294967296 ^ p) (hp : p + x.toInt.toNat / 32 + 1 ≤ 20) : Ct l m_Na_shiftUp 0 0 [.ref a, .int x] g nx (pNA g a 20 (v * 2 ^ x.toInt.toNat) nx) := by
  by_cases h0 : 0 ≤ x.toInt
  · have e : x = nI x.toInt.toNat := by rw [← Int32.toInt_inj, nI_ti (by omega)]; omega
    have h := c_Na_shiftUp l nx ha x.toInt.toNat (by omega) hv hp
    rw [← e] at h
    exact h
  · refine Ct.of (by decide) (Nat.le_of_ble_eq_true rfl) (fun E hE hQ => ?_)
    refine z_iload_n hE d_Na_shiftUp_0 rfl ?_
    refine z_if_gt (tgt := 5) hE d_Na_shiftUp_1 (by decide) (fun c_1 => ?_) (fun c_1 => ?_)
    · rw [Int32.lt_iff_toInt_lt] at c_1
      exact absurd c_1 (by show ¬ (0 : Int) < _; omega)
    · refine z_vret hE hQ d_Na_shiftUp_4 rfl (Nat.le_refl _) (Nat.le_refl _) ⟨rfl, rfl, ?_, gO_r⟩
      rw [show x.toInt.toNat = 0 by omega, Nat.pow_zero, Nat.mul_one]
      exact ha
theorem i_addsub {a b c : Nat} (ha : a ≤ 100000) (hb : b ≤ 100000) (hc : c ≤ 100000) : (nI a - nI b + nI c).toInt = (a : Int) - b + c := by
  rw [Int32.toInt_add, pk_sub_toInt (by omega) (by omega), nI_ti (by omega)]
  exact Int.bmod_eq_of_le (by omega) (by omega)
theorem i_negI {x : Int32} (h1 : -100000 ≤ x.toInt) (h2 : x.toInt ≤ 100000) : (-x).toInt = -x.toInt := by
  rw [Int32.toInt_neg]
  exact Int.bmod_eq_of_le (by omega) (by omega)
theorem i_m1I {x : Int32} (h1 : -100000 ≤ x.toInt) (h2 : x.toInt ≤ 100000) : (x + (-1)).toInt = x.toInt - 1 := by
  rw [Int32.toInt_add]
  exact Int.bmod_eq_of_le (by show _ ≤ x.toInt + (-1); omega) (by show x.toInt + (-1) < _; omega)
theorem i_ge {x : Int32} {n : Nat} (h : x.toInt = n) (hn : n ≤ 1000000) : x = nI n := by rw [← Int32.toInt_inj, nI_ti hn]; exact h
theorem wide_bl {v : Nat} (h : v < 4294967296 ^ 8) : bl v ≤ 256 := by
  rw [bl_iff]
  exact h
theorem d_Te_doubleBits_0 : decode b_Te_doubleBits 0 = .ok (.aload_n 1, 1) := by decide +kernel
theorem d_Te_doubleBits_1 : decode b_Te_doubleBits 1 = .ok (.getfield 65, 3) := by decide +kernel
theorem d_Te_doubleBits_4 : decode b_Te_doubleBits 4 = .ok (.ifCond .ne 5, 3) := by decide +kernel
theorem d_Te_doubleBits_7 : decode b_Te_doubleBits 7 = .ok (.lconst 0, 1) := by decide +kernel
theorem d_Te_doubleBits_8 : decode b_Te_doubleBits 8 = .ok (.lreturn, 1) := by decide +kernel
theorem d_Te_doubleBits_9 : decode b_Te_doubleBits 9 = .ok (.bipush 53, 2) := by decide +kernel
theorem d_Te_doubleBits_11 : decode b_Te_doubleBits 11 = .ok (.aload_n 1, 1) := by decide +kernel
theorem d_Te_doubleBits_12 : decode b_Te_doubleBits 12 = .ok (.getfield 36, 3) := by decide +kernel
theorem d_Te_doubleBits_15 : decode b_Te_doubleBits 15 = .ok (.invokevirtual 95, 3) := by decide +kernel
theorem d_Te_doubleBits_18 : decode b_Te_doubleBits 18 = .ok (.isub, 1) := by decide +kernel
theorem d_Te_doubleBits_19 : decode b_Te_doubleBits 19 = .ok (.aload_n 1, 1) := by decide +kernel
theorem d_Te_doubleBits_20 : decode b_Te_doubleBits 20 = .ok (.getfield 43, 3) := by decide +kernel
theorem d_Te_doubleBits_23 : decode b_Te_doubleBits 23 = .ok (.invokevirtual 95, 3) := by decide +kernel
theorem d_Te_doubleBits_26 : decode b_Te_doubleBits 26 = .ok (.iadd, 1) := by decide +kernel
theorem d_Te_doubleBits_27 : decode b_Te_doubleBits 27 = .ok (.istore_n 3, 1) := by decide +kernel
theorem d_Te_doubleBits_28 : decode b_Te_doubleBits 28 = .ok (.aload_n 0, 1) := by decide +kernel
theorem d_Te_doubleBits_29 : decode b_Te_doubleBits 29 = .ok (.getfield 23, 3) := by decide +kernel
theorem d_Te_doubleBits_32 : decode b_Te_doubleBits 32 = .ok (.aload_n 1, 1) := by decide +kernel
theorem d_Te_doubleBits_33 : decode b_Te_doubleBits 33 = .ok (.getfield 36, 3) := by decide +kernel
theorem d_Te_doubleBits_36 : decode b_Te_doubleBits 36 = .ok (.invokevirtual 73, 3) := by decide +kernel
theorem d_Te_doubleBits_39 : decode b_Te_doubleBits 39 = .ok (.aload_n 0, 1) := by decide +kernel
theorem d_Te_doubleBits_40 : decode b_Te_doubleBits 40 = .ok (.getfield 27, 3) := by decide +kernel
theorem d_Te_doubleBits_43 : decode b_Te_doubleBits 43 = .ok (.aload_n 1, 1) := by decide +kernel
theorem d_Te_doubleBits_44 : decode b_Te_doubleBits 44 = .ok (.getfield 43, 3) := by decide +kernel
theorem d_Te_doubleBits_47 : decode b_Te_doubleBits 47 = .ok (.invokevirtual 73, 3) := by decide +kernel
theorem d_Te_doubleBits_50 : decode b_Te_doubleBits 50 = .ok (.aload_n 0, 1) := by decide +kernel
theorem d_Te_doubleBits_51 : decode b_Te_doubleBits 51 = .ok (.getfield 23, 3) := by decide +kernel
theorem d_Te_doubleBits_54 : decode b_Te_doubleBits 54 = .ok (.iload_n 3, 1) := by decide +kernel
theorem d_Te_doubleBits_55 : decode b_Te_doubleBits 55 = .ok (.invokevirtual 76, 3) := by decide +kernel
theorem d_Te_doubleBits_58 : decode b_Te_doubleBits 58 = .ok (.aload_n 0, 1) := by decide +kernel
theorem d_Te_doubleBits_59 : decode b_Te_doubleBits 59 = .ok (.getfield 27, 3) := by decide +kernel
theorem d_Te_doubleBits_62 : decode b_Te_doubleBits 62 = .ok (.iload_n 3, 1) := by decide +kernel
theorem d_Te_doubleBits_63 : decode b_Te_doubleBits 63 = .ok (.ineg, 1) := by decide +kernel
theorem d_Te_doubleBits_64 : decode b_Te_doubleBits 64 = .ok (.invokevirtual 76, 3) := by decide +kernel
theorem d_Te_doubleBits_67 : decode b_Te_doubleBits 67 = .ok (.aload_n 0, 1) := by decide +kernel
theorem d_Te_doubleBits_68 : decode b_Te_doubleBits 68 = .ok (.getfield 12, 3) := by decide +kernel
theorem d_Te_doubleBits_71 : decode b_Te_doubleBits 71 = .ok (.aload_n 0, 1) := by decide +kernel
theorem d_Te_doubleBits_72 : decode b_Te_doubleBits 72 = .ok (.getfield 23, 3) := by decide +kernel
theorem d_Te_doubleBits_75 : decode b_Te_doubleBits 75 = .ok (.aload_n 0, 1) := by decide +kernel
theorem d_Te_doubleBits_76 : decode b_Te_doubleBits 76 = .ok (.getfield 27, 3) := by decide +kernel
theorem d_Te_doubleBits_79 : decode b_Te_doubleBits 79 = .ok (.invokevirtual 44, 3) := by decide +kernel
theorem d_Te_doubleBits_82 : decode b_Te_doubleBits 82 = .ok (.aload_n 0, 1) := by decide +kernel
theorem d_Te_doubleBits_83 : decode b_Te_doubleBits 83 = .ok (.getfield 12, 3) := by decide +kernel
theorem d_Te_doubleBits_86 : decode b_Te_doubleBits 86 = .ok (.getfield 51, 3) := by decide +kernel
theorem d_Te_doubleBits_89 : decode b_Te_doubleBits 89 = .ok (.invokevirtual 89, 3) := by decide +kernel
theorem d_Te_doubleBits_92 : decode b_Te_doubleBits 92 = .ok (.lstore 4, 2) := by decide +kernel
theorem d_Te_doubleBits_94 : decode b_Te_doubleBits 94 = .ok (.aload_n 0, 1) := by decide +kernel
theorem d_Te_doubleBits_95 : decode b_Te_doubleBits 95 = .ok (.getfield 12, 3) := by decide +kernel
theorem d_Te_doubleBits_98 : decode b_Te_doubleBits 98 = .ok (.getfield 58, 3) := by decide +kernel
theorem d_Te_doubleBits_101 : decode b_Te_doubleBits 101 = .ok (.invokevirtual 61, 3) := by decide +kernel
theorem d_Te_doubleBits_104 : decode b_Te_doubleBits 104 = .ok (.istore 6, 2) := by decide +kernel
theorem d_Te_doubleBits_106 : decode b_Te_doubleBits 106 = .ok (.lload 4, 2) := by decide +kernel
theorem d_Te_doubleBits_108 : decode b_Te_doubleBits 108 = .ok (.ldc2_w 99, 3) := by decide +kernel
theorem d_Te_doubleBits_111 : decode b_Te_doubleBits 111 = .ok (.lcmp, 1) := by decide +kernel
theorem d_Te_doubleBits_112 : decode b_Te_doubleBits 112 = .ok (.ifCond .lt 33, 3) := by decide +kernel
theorem d_Te_doubleBits_115 : decode b_Te_doubleBits 115 = .ok (.iload 6, 2) := by decide +kernel
theorem d_Te_doubleBits_117 : decode b_Te_doubleBits 117 = .ok (.ifCond .eq 16, 3) := by decide +kernel
theorem d_Te_doubleBits_120 : decode b_Te_doubleBits 120 = .ok (.lload 4, 2) := by decide +kernel
theorem d_Te_doubleBits_122 : decode b_Te_doubleBits 122 = .ok (.lconst 1, 1) := by decide +kernel
theorem d_Te_doubleBits_123 : decode b_Te_doubleBits 123 = .ok (.land, 1) := by decide +kernel
theorem d_Te_doubleBits_124 : decode b_Te_doubleBits 124 = .ok (.lconst 0, 1) := by decide +kernel
theorem d_Te_doubleBits_125 : decode b_Te_doubleBits 125 = .ok (.lcmp, 1) := by decide +kernel
theorem d_Te_doubleBits_126 : decode b_Te_doubleBits 126 = .ok (.ifCond .ne 7, 3) := by decide +kernel
theorem d_Te_doubleBits_129 : decode b_Te_doubleBits 129 = .ok (.iconst 1, 1) := by decide +kernel
theorem d_Te_doubleBits_130 : decode b_Te_doubleBits 130 = .ok (.goto 4, 3) := by decide +kernel
theorem d_Te_doubleBits_133 : decode b_Te_doubleBits 133 = .ok (.iconst 0, 1) := by decide +kernel
theorem d_Te_doubleBits_134 : decode b_Te_doubleBits 134 = .ok (.istore 6, 2) := by decide +kernel
theorem d_Te_doubleBits_136 : decode b_Te_doubleBits 136 = .ok (.lload 4, 2) := by decide +kernel
theorem d_Te_doubleBits_138 : decode b_Te_doubleBits 138 = .ok (.iconst 1, 1) := by decide +kernel
theorem d_Te_doubleBits_139 : decode b_Te_doubleBits 139 = .ok (.lshr, 1) := by decide +kernel
theorem d_Te_doubleBits_140 : decode b_Te_doubleBits 140 = .ok (.lstore 4, 2) := by decide +kernel
theorem d_Te_doubleBits_142 : decode b_Te_doubleBits 142 = .ok (.iinc 3 (-1), 3) := by decide +kernel
theorem d_Te_doubleBits_145 : decode b_Te_doubleBits 145 = .ok (.sipush 1075, 3) := by decide +kernel
theorem d_Te_doubleBits_148 : decode b_Te_doubleBits 148 = .ok (.iload_n 3, 1) := by decide +kernel
theorem d_Te_doubleBits_149 : decode b_Te_doubleBits 149 = .ok (.isub, 1) := by decide +kernel
theorem d_Te_doubleBits_150 : decode b_Te_doubleBits 150 = .ok (.i2l, 1) := by decide +kernel
theorem d_Te_doubleBits_151 : decode b_Te_doubleBits 151 = .ok (.bipush 52, 2) := by decide +kernel
theorem d_Te_doubleBits_153 : decode b_Te_doubleBits 153 = .ok (.lshl, 1) := by decide +kernel
theorem d_Te_doubleBits_154 : decode b_Te_doubleBits 154 = .ok (.lload 4, 2) := by decide +kernel
theorem d_Te_doubleBits_156 : decode b_Te_doubleBits 156 = .ok (.ldc2_w 101, 3) := by decide +kernel
theorem d_Te_doubleBits_159 : decode b_Te_doubleBits 159 = .ok (.lsub, 1) := by decide +kernel
theorem d_Te_doubleBits_160 : decode b_Te_doubleBits 160 = .ok (.ladd, 1) := by decide +kernel
theorem d_Te_doubleBits_161 : decode b_Te_doubleBits 161 = .ok (.lstore 7, 2) := by decide +kernel
theorem d_Te_doubleBits_163 : decode b_Te_doubleBits 163 = .ok (.aload_n 1, 1) := by decide +kernel
theorem d_Te_doubleBits_164 : decode b_Te_doubleBits 164 = .ok (.getfield 65, 3) := by decide +kernel
theorem d_Te_doubleBits_167 : decode b_Te_doubleBits 167 = .ok (.ifCond .ge 7, 3) := by decide +kernel
theorem d_Te_doubleBits_170 : decode b_Te_doubleBits 170 = .ok (.iconst 1, 1) := by decide +kernel
theorem d_Te_doubleBits_171 : decode b_Te_doubleBits 171 = .ok (.goto 4, 3) := by decide +kernel
theorem d_Te_doubleBits_174 : decode b_Te_doubleBits 174 = .ok (.iconst 0, 1) := by decide +kernel
theorem d_Te_doubleBits_175 : decode b_Te_doubleBits 175 = .ok (.iload_n 2, 1) := by decide +kernel
theorem d_Te_doubleBits_176 : decode b_Te_doubleBits 176 = .ok (.ifCond .ne 7, 3) := by decide +kernel
theorem d_Te_doubleBits_179 : decode b_Te_doubleBits 179 = .ok (.iconst 1, 1) := by decide +kernel
theorem d_Te_doubleBits_180 : decode b_Te_doubleBits 180 = .ok (.goto 4, 3) := by decide +kernel
theorem d_Te_doubleBits_183 : decode b_Te_doubleBits 183 = .ok (.iconst 0, 1) := by decide +kernel
theorem d_Te_doubleBits_184 : decode b_Te_doubleBits 184 = .ok (.if_icmp .ne 7, 3) := by decide +kernel
theorem d_Te_doubleBits_187 : decode b_Te_doubleBits 187 = .ok (.iconst 1, 1) := by decide +kernel
theorem d_Te_doubleBits_188 : decode b_Te_doubleBits 188 = .ok (.goto 4, 3) := by decide +kernel
theorem d_Te_doubleBits_191 : decode b_Te_doubleBits 191 = .ok (.iconst 0, 1) := by decide +kernel
theorem d_Te_doubleBits_192 : decode b_Te_doubleBits 192 = .ok (.istore 9, 2) := by decide +kernel
theorem d_Te_doubleBits_194 : decode b_Te_doubleBits 194 = .ok (.iload 9, 2) := by decide +kernel
theorem d_Te_doubleBits_196 : decode b_Te_doubleBits 196 = .ok (.ifCond .eq 14, 3) := by decide +kernel
theorem d_Te_doubleBits_199 : decode b_Te_doubleBits 199 = .ok (.iload 6, 2) := by decide +kernel
theorem d_Te_doubleBits_201 : decode b_Te_doubleBits 201 = .ok (.ifCond .ne 9, 3) := by decide +kernel
theorem d_Te_doubleBits_204 : decode b_Te_doubleBits 204 = .ok (.lload 7, 2) := by decide +kernel
theorem d_Te_doubleBits_206 : decode b_Te_doubleBits 206 = .ok (.lconst 1, 1) := by decide +kernel
theorem d_Te_doubleBits_207 : decode b_Te_doubleBits 207 = .ok (.ladd, 1) := by decide +kernel
theorem d_Te_doubleBits_208 : decode b_Te_doubleBits 208 = .ok (.lstore 7, 2) := by decide +kernel
theorem d_Te_doubleBits_210 : decode b_Te_doubleBits 210 = .ok (.aload_n 1, 1) := by decide +kernel
theorem d_Te_doubleBits_211 : decode b_Te_doubleBits 211 = .ok (.getfield 65, 3) := by decide +kernel
theorem d_Te_doubleBits_214 : decode b_Te_doubleBits 214 = .ok (.ifCond .ge 12, 3) := by decide +kernel
theorem d_Te_doubleBits_217 : decode b_Te_doubleBits 217 = .ok (.lload 7, 2) := by decide +kernel
theorem d_Te_doubleBits_219 : decode b_Te_doubleBits 219 = .ok (.ldc2_w 93, 3) := by decide +kernel
theorem d_Te_doubleBits_222 : decode b_Te_doubleBits 222 = .ok (.lor, 1) := by decide +kernel
theorem d_Te_doubleBits_223 : decode b_Te_doubleBits 223 = .ok (.goto 5, 3) := by decide +kernel
theorem d_Te_doubleBits_226 : decode b_Te_doubleBits 226 = .ok (.lload 7, 2) := by decide +kernel
theorem d_Te_doubleBits_228 : decode b_Te_doubleBits 228 = .ok (.lreturn, 1) := by decide +kernel
theorem d_Te_init_0 : decode b_Te_init 0 = .ok (.aload_n 0, 1) := by decide +kernel
theorem d_Te_init_1 : decode b_Te_init 1 = .ok (.invokespecial 3, 3) := by decide +kernel
theorem d_Te_init_4 : decode b_Te_init 4 = .ok (.aload_n 0, 1) := by decide +kernel
theorem d_Te_init_5 : decode b_Te_init 5 = .ok (.new 9, 3) := by decide +kernel
theorem d_Te_init_8 : decode b_Te_init 8 = .ok (.dup, 1) := by decide +kernel
theorem d_Te_init_9 : decode b_Te_init 9 = .ok (.invokespecial 11, 3) := by decide +kernel
theorem d_Te_init_12 : decode b_Te_init 12 = .ok (.putfield 12, 3) := by decide +kernel
theorem d_Te_init_15 : decode b_Te_init 15 = .ok (.aload_n 0, 1) := by decide +kernel
theorem d_Te_init_16 : decode b_Te_init 16 = .ok (.new 18, 3) := by decide +kernel
theorem d_Te_init_19 : decode b_Te_init 19 = .ok (.dup, 1) := by decide +kernel
theorem d_Te_init_20 : decode b_Te_init 20 = .ok (.bipush 20, 2) := by decide +kernel
theorem d_Te_init_22 : decode b_Te_init 22 = .ok (.invokespecial 20, 3) := by decide +kernel
theorem d_Te_init_25 : decode b_Te_init 25 = .ok (.putfield 23, 3) := by decide +kernel
theorem d_Te_init_28 : decode b_Te_init 28 = .ok (.aload_n 0, 1) := by decide +kernel
theorem d_Te_init_29 : decode b_Te_init 29 = .ok (.new 18, 3) := by decide +kernel
theorem d_Te_init_32 : decode b_Te_init 32 = .ok (.dup, 1) := by decide +kernel
theorem d_Te_init_33 : decode b_Te_init 33 = .ok (.bipush 20, 2) := by decide +kernel
theorem d_Te_init_35 : decode b_Te_init 35 = .ok (.invokespecial 20, 3) := by decide +kernel
theorem d_Te_init_38 : decode b_Te_init 38 = .ok (.putfield 27, 3) := by decide +kernel
theorem d_Te_init_41 : decode b_Te_init 41 = .ok (.return_, 1) := by decide +kernel
theorem d_Re_readDouble_0 : decode b_Re_readDouble 0 = .ok (.lload_n 1, 1) := by decide +kernel
theorem d_Re_readDouble_1 : decode b_Re_readDouble 1 = .ok (.invokestatic 123, 3) := by decide +kernel
theorem d_Re_readDouble_4 : decode b_Re_readDouble 4 = .ok (.istore_n 3, 1) := by decide +kernel
theorem d_Re_readDouble_5 : decode b_Re_readDouble 5 = .ok (.lload_n 1, 1) := by decide +kernel
theorem d_Re_readDouble_6 : decode b_Re_readDouble 6 = .ok (.ldc2_w 129, 3) := by decide +kernel
theorem d_Re_readDouble_9 : decode b_Re_readDouble 9 = .ok (.land, 1) := by decide +kernel
theorem d_Re_readDouble_10 : decode b_Re_readDouble 10 = .ok (.lstore 4, 2) := by decide +kernel
theorem d_Re_readDouble_12 : decode b_Re_readDouble 12 = .ok (.iload_n 3, 1) := by decide +kernel
theorem d_Re_readDouble_13 : decode b_Re_readDouble 13 = .ok (.ifCond .le 11, 3) := by decide +kernel
theorem d_Re_readDouble_16 : decode b_Re_readDouble 16 = .ok (.lload 4, 2) := by decide +kernel
theorem d_Re_readDouble_18 : decode b_Re_readDouble 18 = .ok (.ldc2_w 131, 3) := by decide +kernel
theorem d_Re_readDouble_21 : decode b_Re_readDouble 21 = .ok (.lor, 1) := by decide +kernel
theorem d_Re_readDouble_22 : decode b_Re_readDouble 22 = .ok (.lstore 4, 2) := by decide +kernel
theorem d_Re_readDouble_24 : decode b_Re_readDouble 24 = .ok (.iload_n 3, 1) := by decide +kernel
theorem d_Re_readDouble_25 : decode b_Re_readDouble 25 = .ok (.iconst 1, 1) := by decide +kernel
theorem d_Re_readDouble_26 : decode b_Re_readDouble 26 = .ok (.invokestatic 133, 3) := by decide +kernel
theorem d_Re_readDouble_29 : decode b_Re_readDouble 29 = .ok (.sipush 1075, 3) := by decide +kernel
theorem d_Re_readDouble_32 : decode b_Re_readDouble 32 = .ok (.isub, 1) := by decide +kernel
theorem d_Re_readDouble_33 : decode b_Re_readDouble 33 = .ok (.istore 6, 2) := by decide +kernel
theorem d_Re_readDouble_35 : decode b_Re_readDouble 35 = .ok (.iconst 0, 1) := by decide +kernel
theorem d_Re_readDouble_36 : decode b_Re_readDouble 36 = .ok (.istore 7, 2) := by decide +kernel
theorem d_Re_readDouble_38 : decode b_Re_readDouble 38 = .ok (.iload 7, 2) := by decide +kernel
theorem d_Re_readDouble_40 : decode b_Re_readDouble 40 = .ok (.bipush 53, 2) := by decide +kernel
theorem d_Re_readDouble_42 : decode b_Re_readDouble 42 = .ok (.if_icmp .ge 34, 3) := by decide +kernel
theorem d_Re_readDouble_45 : decode b_Re_readDouble 45 = .ok (.lload 4, 2) := by decide +kernel
theorem d_Re_readDouble_47 : decode b_Re_readDouble 47 = .ok (.lconst 0, 1) := by decide +kernel
theorem d_Re_readDouble_48 : decode b_Re_readDouble 48 = .ok (.lcmp, 1) := by decide +kernel
theorem d_Re_readDouble_49 : decode b_Re_readDouble 49 = .ok (.ifCond .eq 27, 3) := by decide +kernel
theorem d_Re_readDouble_52 : decode b_Re_readDouble 52 = .ok (.lload 4, 2) := by decide +kernel
theorem d_Re_readDouble_54 : decode b_Re_readDouble 54 = .ok (.lconst 1, 1) := by decide +kernel
theorem d_Re_readDouble_55 : decode b_Re_readDouble 55 = .ok (.land, 1) := by decide +kernel
theorem d_Re_readDouble_56 : decode b_Re_readDouble 56 = .ok (.lconst 0, 1) := by decide +kernel
theorem d_Re_readDouble_57 : decode b_Re_readDouble 57 = .ok (.lcmp, 1) := by decide +kernel
theorem d_Re_readDouble_58 : decode b_Re_readDouble 58 = .ok (.ifCond .ne 18, 3) := by decide +kernel
theorem d_Re_readDouble_61 : decode b_Re_readDouble 61 = .ok (.lload 4, 2) := by decide +kernel
theorem d_Re_readDouble_63 : decode b_Re_readDouble 63 = .ok (.iconst 1, 1) := by decide +kernel
theorem d_Re_readDouble_64 : decode b_Re_readDouble 64 = .ok (.lshr, 1) := by decide +kernel
theorem d_Re_readDouble_65 : decode b_Re_readDouble 65 = .ok (.lstore 4, 2) := by decide +kernel
theorem d_Re_readDouble_67 : decode b_Re_readDouble 67 = .ok (.iinc 6 1, 3) := by decide +kernel
theorem d_Re_readDouble_70 : decode b_Re_readDouble 70 = .ok (.iinc 7 1, 3) := by decide +kernel
theorem d_Re_readDouble_73 : decode b_Re_readDouble 73 = .ok (.goto (-35), 3) := by decide +kernel
theorem d_Re_readDouble_76 : decode b_Re_readDouble 76 = .ok (.aload_n 0, 1) := by decide +kernel
theorem d_Re_readDouble_77 : decode b_Re_readDouble 77 = .ok (.getfield 14, 3) := by decide +kernel
theorem d_Re_readDouble_80 : decode b_Re_readDouble 80 = .ok (.lload_n 1, 1) := by decide +kernel
theorem d_Re_readDouble_81 : decode b_Re_readDouble 81 = .ok (.lconst 0, 1) := by decide +kernel
theorem d_Re_readDouble_82 : decode b_Re_readDouble 82 = .ok (.lcmp, 1) := by decide +kernel
theorem d_Re_readDouble_83 : decode b_Re_readDouble 83 = .ok (.ifCond .ge 9, 3) := by decide +kernel
theorem d_Re_readDouble_86 : decode b_Re_readDouble 86 = .ok (.lload 4, 2) := by decide +kernel
theorem d_Re_readDouble_88 : decode b_Re_readDouble 88 = .ok (.lneg, 1) := by decide +kernel
theorem d_Re_readDouble_89 : decode b_Re_readDouble 89 = .ok (.goto 5, 3) := by decide +kernel
theorem d_Re_readDouble_92 : decode b_Re_readDouble 92 = .ok (.lload 4, 2) := by decide +kernel
theorem d_Re_readDouble_94 : decode b_Re_readDouble 94 = .ok (.invokevirtual 105, 3) := by decide +kernel
theorem d_Re_readDouble_97 : decode b_Re_readDouble 97 = .ok (.lload 4, 2) := by decide +kernel
theorem d_Re_readDouble_99 : decode b_Re_readDouble 99 = .ok (.lconst 0, 1) := by decide +kernel
theorem d_Re_readDouble_100 : decode b_Re_readDouble 100 = .ok (.lcmp, 1) := by decide +kernel
theorem d_Re_readDouble_101 : decode b_Re_readDouble 101 = .ok (.ifCond .ne 5, 3) := by decide +kernel
theorem d_Re_readDouble_104 : decode b_Re_readDouble 104 = .ok (.iconst 1, 1) := by decide +kernel
theorem d_Re_readDouble_105 : decode b_Re_readDouble 105 = .ok (.ireturn, 1) := by decide +kernel
theorem d_Re_readDouble_106 : decode b_Re_readDouble 106 = .ok (.iload 6, 2) := by decide +kernel
theorem d_Re_readDouble_108 : decode b_Re_readDouble 108 = .ok (.sipush 256, 3) := by decide +kernel
theorem d_Re_readDouble_111 : decode b_Re_readDouble 111 = .ok (.if_icmp .ge 11, 3) := by decide +kernel
theorem d_Re_readDouble_114 : decode b_Re_readDouble 114 = .ok (.iload 6, 2) := by decide +kernel
theorem d_Re_readDouble_116 : decode b_Re_readDouble 116 = .ok (.sipush (-256), 3) := by decide +kernel
theorem d_Re_readDouble_119 : decode b_Re_readDouble 119 = .ok (.if_icmp .gt 5, 3) := by decide +kernel
theorem d_Re_readDouble_122 : decode b_Re_readDouble 122 = .ok (.iconst 0, 1) := by decide +kernel
theorem d_Re_readDouble_123 : decode b_Re_readDouble 123 = .ok (.ireturn, 1) := by decide +kernel
theorem d_Re_readDouble_124 : decode b_Re_readDouble 124 = .ok (.aload_n 0, 1) := by decide +kernel
theorem d_Re_readDouble_125 : decode b_Re_readDouble 125 = .ok (.getfield 14, 3) := by decide +kernel
theorem d_Re_readDouble_128 : decode b_Re_readDouble 128 = .ok (.getfield 67, 3) := by decide +kernel
theorem d_Re_readDouble_131 : decode b_Re_readDouble 131 = .ok (.iload 6, 2) := by decide +kernel
theorem d_Re_readDouble_133 : decode b_Re_readDouble 133 = .ok (.invokevirtual 136, 3) := by decide +kernel
theorem d_Re_readDouble_136 : decode b_Re_readDouble 136 = .ok (.aload_n 0, 1) := by decide +kernel
theorem d_Re_readDouble_137 : decode b_Re_readDouble 137 = .ok (.getfield 14, 3) := by decide +kernel
theorem d_Re_readDouble_140 : decode b_Re_readDouble 140 = .ok (.getfield 74, 3) := by decide +kernel
theorem d_Re_readDouble_143 : decode b_Re_readDouble 143 = .ok (.iload 6, 2) := by decide +kernel
theorem d_Re_readDouble_145 : decode b_Re_readDouble 145 = .ok (.ineg, 1) := by decide +kernel
theorem d_Re_readDouble_146 : decode b_Re_readDouble 146 = .ok (.invokevirtual 136, 3) := by decide +kernel
theorem d_Re_readDouble_149 : decode b_Re_readDouble 149 = .ok (.aload_n 0, 1) := by decide +kernel
theorem d_Re_readDouble_150 : decode b_Re_readDouble 150 = .ok (.getfield 14, 3) := by decide +kernel
theorem d_Re_readDouble_153 : decode b_Re_readDouble 153 = .ok (.invokevirtual 139, 3) := by decide +kernel
theorem d_Re_readDouble_156 : decode b_Re_readDouble 156 = .ok (.ireturn, 1) := by decide +kernel
theorem c_Te_doubleBits (l : Launch) {g : Gh} (nx : Nat) {T f N M aa ab e : Nat} {sa : Int32} {v : Nat → Nat} (hV : TV g T v) (hf : FR g f N M sa aa ab) (hfo : f + 5 ≤ T ∨ T + 12 ≤ f) (ha : isS sa aa) (b1 : aa < 4294967296 ^ 8) (b2 : ab < 4294967296 ^ 8) (hab : ab ≠ 0) (he : e ≤ 1) : Ct l m_Te_doubleBits 0 0 [.ref T, .ref f, .int (nI e)] g nx (fun r g' nx' => r = some (.long (dbl sa aa ab e)) ∧ nx = nx' ∧ gW g g' T (T + 12) ∧ ∃ v', TV g' T v') := by
  obtain ⟨f1, f2, f3⟩ := id hf
  refine Ct.of (by decide) (Nat.le_of_ble_eq_true rfl) (fun E hE hQ => ?_)
  have B1 := wide_bl b1
  have B2 := wide_bl b2
  refine z_aload_n hE d_Te_doubleBits_0 rfl ?_
  refine z_getN hE d_Te_doubleBits_1 fl_Te_65 (by assumption) rfl ?_
  refine z_if_ne (tgt := 9) hE d_Te_doubleBits_4 (by decide) (fun c_4 => ?_) (fun c_4 => ?_)
  · have hs0 : sa ≠ 0 := c_4
    have haa : aa ≠ 0 := by
      rcases ha with ⟨q, -⟩ | ⟨-, q⟩ | ⟨-, q⟩
      · exact absurd q hs0
      · omega
      · omega
    have dqb := dq_b haa hab
    obtain ⟨_, _, ⟨k11, -⟩, -⟩ := id f2
    obtain ⟨_, _, ⟨k21, -⟩, -⟩ := id f3
    refine z_bipush (v := nI 53) hE d_Te_doubleBits_9 (by decide) ?_
    refine z_aload_n hE d_Te_doubleBits_11 rfl ?_
    refine z_getN hE d_Te_doubleBits_12 fl_Te_36 (by assumption) rfl ?_
    refine z_callV hE d_Te_doubleBits_15 cl_Te_95 (c_Na_countBits l nx f2) (by assumption) cb_Na rfl (Nat.le_of_ble_eq_true rfl) ⟨by decide, by decide⟩ ⟨by omega, by omega⟩ (fun r_15 g_15 nx_15 hp_15 => ?_) rfl
    obtain ⟨rfl, rfl, rfl⟩ := hp_15
    try dsimp only [Option.toList, List.nil_append, List.cons_append]
    refine z_isub hE d_Te_doubleBits_18 (rfl) ?_
    refine z_aload_n hE d_Te_doubleBits_19 rfl ?_
    refine z_getN hE d_Te_doubleBits_20 fl_Te_43 (by assumption) rfl ?_
    refine z_callV hE d_Te_doubleBits_23 cl_Te_95 (c_Na_countBits l nx f3) (by assumption) cb_Na rfl (Nat.le_of_ble_eq_true rfl) ⟨by decide, by decide⟩ ⟨by omega, by omega⟩ (fun r_23 g_23 nx_23 hp_23 => ?_) rfl
    obtain ⟨rfl, rfl, rfl⟩ := hp_23
    try dsimp only [Option.toList, List.nil_append, List.cons_append]
    refine z_iadd hE d_Te_doubleBits_26 (rfl) ?_
    obtain ⟨x, hx⟩ : ∃ x, nI 53 - nI (bl aa) + nI (bl ab) = x := ⟨_, rfl⟩
    have hxT : x.toInt = dT aa ab := by rw [← hx]; exact i_addsub (by omega) (by omega) (by omega)
    rw [hx]
    have hT1 : -1000 ≤ dT aa ab := by unfold dT; omega
    have hT2 : dT aa ab ≤ 309 := by unfold dT; omega
    have hT3 : -203 ≤ dT aa ab := by unfold dT; omega
    have t1 := hV.1
    obtain ⟨_, _, K8, -⟩ := id (hV.2.2 8 (by decide))
    have K81 := K8.1
    have p20 := pw_ge (show 8 ≤ 20 by decide)
    refine z_istore_n hE d_Te_doubleBits_27 rfl (by decide) ?_
    refine z_aload_n hE d_Te_doubleBits_28 rfl ?_
    refine z_get hE d_Te_doubleBits_29 fl_Te_23 (by assumption) rfl ?_
    refine z_aload_n hE d_Te_doubleBits_32 rfl ?_
    refine z_getN hE d_Te_doubleBits_33 fl_Te_36 (by assumption) rfl ?_
    refine z_callV hE d_Te_doubleBits_36 cl_Te_73 (c_Na_become l nx K8 f2 (by omega) (by omega)) (by assumption) cb_Na rfl (Nat.le_of_ble_eq_true rfl) ⟨by decide, by decide⟩ ⟨by omega, by omega⟩ (fun r_1 g_1 nx_1 hp_1 => ?_) rfl
    try dsimp only [Option.toList, List.nil_append, List.cons_append]
    obtain ⟨rfl, rfl, hA1, hO1⟩ := hp_1
    try dsimp only [Option.toList, List.nil_append, List.cons_append]
    have V1 := TV_O hV (by decide) hA1 hO1
    have w1 : gW g g_1 T (T + 12) := gW_O hO1 (by omega) (by omega)
    obtain ⟨i1, i2, i3⟩ := id (FR_W hf w1 (by omega))
    have t1 := V1.1
    obtain ⟨_, _, K10, -⟩ := id (V1.2.2 10 (by decide))
    have K101 := K10.1
    refine z_aload_n hE d_Te_doubleBits_39 rfl ?_
    refine z_get hE d_Te_doubleBits_40 fl_Te_27 (by assumption) rfl ?_
    refine z_aload_n hE d_Te_doubleBits_43 rfl ?_
    refine z_getN hE d_Te_doubleBits_44 fl_Te_43 (by assumption) rfl ?_
    refine z_callV hE d_Te_doubleBits_47 cl_Te_73 (c_Na_become l nx K10 i3 (by omega) (by omega)) (by assumption) cb_Na rfl (Nat.le_of_ble_eq_true rfl) ⟨by decide, by decide⟩ ⟨by omega, by omega⟩ (fun r_2 g_2 nx_2 hp_2 => ?_) rfl
    try dsimp only [Option.toList, List.nil_append, List.cons_append]
    obtain ⟨rfl, rfl, hA2, hO2⟩ := hp_2
    try dsimp only [Option.toList, List.nil_append, List.cons_append]
    have V2 := TV_O V1 (by decide) hA2 hO2
    have w2 : gW g g_2 T (T + 12) := gW_t w1 (gW_O hO2 (by omega) (by omega))
    have n8 : NA g_2 (T + 8) 20 aa := V2.2.2 8 (by decide)
    have t1 := V2.1
    obtain ⟨_, _, ⟨K81, -⟩, -⟩ := id n8
    refine z_aload_n hE d_Te_doubleBits_50 rfl ?_
    refine z_get hE d_Te_doubleBits_51 fl_Te_23 (by assumption) rfl ?_
    refine z_iload_n hE d_Te_doubleBits_54 rfl ?_
    refine z_callV hE d_Te_doubleBits_55 cl_Te_76 (c_Na_shiftUpI l nx (p := 8) n8 x (by omega) b1 (by omega)) (by assumption) cb_Na rfl (Nat.le_of_ble_eq_true rfl) ⟨by decide, by decide⟩ ⟨by omega, by omega⟩ (fun r_3 g_3 nx_3 hp_3 => ?_) rfl
    try dsimp only [Option.toList, List.nil_append, List.cons_append]
    obtain ⟨rfl, rfl, hA3, hO3⟩ := hp_3
    try dsimp only [Option.toList, List.nil_append, List.cons_append]
    have V3 := TV_O V2 (by decide) hA3 hO3
    have w3 : gW g g_3 T (T + 12) := gW_t w2 (gW_O hO3 (by omega) (by omega))
    have n10 : NA g_3 (T + 10) 20 ab := V3.2.2 10 (by decide)
    have t1 := V3.1
    obtain ⟨_, _, ⟨K101, -⟩, -⟩ := id n10
    have hnx : (-x).toInt = -dT aa ab := by rw [i_negI (by omega) (by omega), hxT]
    refine z_aload_n hE d_Te_doubleBits_58 rfl ?_
    refine z_get hE d_Te_doubleBits_59 fl_Te_27 (by assumption) rfl ?_
    refine z_iload_n hE d_Te_doubleBits_62 rfl ?_
    refine z_ineg hE d_Te_doubleBits_63 (rfl) ?_
    refine z_callV hE d_Te_doubleBits_64 cl_Te_76 (c_Na_shiftUpI l nx (p := 8) n10 (-x) (by omega) b2 (by omega)) (by assumption) cb_Na rfl (Nat.le_of_ble_eq_true rfl) ⟨by decide, by decide⟩ ⟨by omega, by omega⟩ (fun r_4 g_4 nx_4 hp_4 => ?_) rfl
    try dsimp only [Option.toList, List.nil_append, List.cons_append]
    obtain ⟨rfl, rfl, hA4, hO4⟩ := hp_4
    try dsimp only [Option.toList, List.nil_append, List.cons_append]
    have V4 := TV_O V3 (by decide) hA4 hO4
    have w4 : gW g g_4 T (T + 12) := gW_t w3 (gW_O hO4 (by omega) (by omega))
    have n8 : NA g_4 (T + 8) 20 (dX aa ab) := by
      have := V4.2.2 8 (by decide)
      rw [upN_n (by decide), upN_s, hxT] at this
      exact this
    have n10 : NA g_4 (T + 10) 20 (dY aa ab) := by
      have := V4.2.2 10 (by decide)
      rw [upN_s, hnx] at this
      exact this
    have hX : dX aa ab < 4294967296 ^ 18 := by
      have y1 := Nat.mul_le_mul (Nat.le_of_lt b1) (Nat.pow_le_pow_right (show 0 < 2 by decide) (show (dT aa ab).toNat ≤ 309 by omega))
      exact Nat.lt_of_le_of_lt y1 (by decide)
    have hY0 : dY aa ab ≠ 0 := by
      have := Nat.mul_pos (Nat.pos_of_ne_zero hab) (p2_pos (-dT aa ab).toNat)
      unfold dY
      omega
    have t1 := V4.1
    have t2 := V4.2.1
    unfold DV at t2
    refine z_aload_n hE d_Te_doubleBits_67 rfl ?_
    refine z_get hE d_Te_doubleBits_68 fl_Te_12 (by assumption) rfl ?_
    refine z_aload_n hE d_Te_doubleBits_71 rfl ?_
    refine z_get hE d_Te_doubleBits_72 fl_Te_23 (by assumption) rfl ?_
    refine z_aload_n hE d_Te_doubleBits_75 rfl ?_
    refine z_get hE d_Te_doubleBits_76 fl_Te_27 (by assumption) rfl ?_
    refine z_callV hE d_Te_doubleBits_79 cl_Te_44 (c_Dv_divide l nx V4.2.1 ⟨_, V4.2.2 2 (by decide)⟩ ⟨_, V4.2.2 4 (by decide)⟩ ⟨_, V4.2.2 6 (by decide)⟩ n8 n10 (by omega) (by omega) hX hY0) (by assumption) cb_Dv rfl (Nat.le_of_ble_eq_true rfl) ⟨by decide, by decide⟩ ⟨by omega, by omega⟩ (fun r_5 g_5 nx_5 hp_5 => ?_) rfl
    try dsimp only [Option.toList, List.nil_append, List.cons_append]
    obtain ⟨rfl, rfl, d4, d6, d2, dW0⟩ := hp_5
    try dsimp only [Option.toList, List.nil_append, List.cons_append]
    obtain ⟨v5, V5, e4, e6, -, -⟩ := TV_D V4 d2 d4 d6 dW0
    have w5 : gW g g_5 T (T + 12) := gW_t w4 (gW_le dW0 (by omega) (by omega))
    obtain ⟨j1, j2, j3⟩ := id (FR_W hf w5 (by omega))
    have n4 : NA g_5 (T + 4) 20 (dq aa ab) := d4
    have n6 : NA g_5 (T + 6) 20 (dX aa ab % dY aa ab) := d6
    obtain ⟨_, _, ⟨K41, -⟩, -⟩ := id n4
    obtain ⟨_, _, ⟨K61, -⟩, -⟩ := id n6
    have t1 := V5.1
    have t2 := V5.2.1
    unfold DV at t2
    -- behind the mantissa
    have tail : ∀ (y : Int32) (lv : List (Nat × Value)), y.toInt = dW aa ab → lG lv 1 = some (.ref f) → lG lv 2 = some (.int (nI e)) → lG lv 3 = some (.int y) → lG lv 4 = some (.long (lN (dM aa ab))) → lG lv 6 = some (.int (nI (dI aa ab))) → zJ E g_5 nx 0 0 145 lv [] := by
      intro y lv hy l1 l2 l3 l4 l6
      refine z_sub (lv' := [(1, .ref f), (2, .int (nI e)), (3, .int y), (4, .long (lN (dM aa ab))), (6, .int (nI (dI aa ab)))]) (by simp only [List.map, l1, l2, l3, l4, l6]) ?_
      have hW1 : -300 ≤ dW aa ab := by unfold dW; split <;> omega
      have hW2 : dW aa ab ≤ 309 := by unfold dW; split <;> omega
      have hM1 : 4503599627370496 ≤ dM aa ab := by unfold dM; split <;> omega
      have hM2 : dM aa ab < 9007199254740992 := by unfold dM; split <;> omega
      have hI1 : dI aa ab ≤ 1 := by unfold dI; split <;> omega
      have ey : nI 1075 - y = nI (1075 - dW aa ab).toNat := by
        refine i_ge ?_ (by omega)
        rw [Int32.toInt_sub, nI_ti (by omega), hy, Int.bmod_eq_of_le (by omega) (by omega)]
        omega
      obtain ⟨E1, hE1⟩ : ∃ E1, (1075 - dW aa ab).toNat = E1 := ⟨_, rfl⟩
      rw [hE1] at ey
      refine z_sipush (v := nI 1075) hE d_Te_doubleBits_145 (by decide) ?_
      refine z_iload_n hE d_Te_doubleBits_148 rfl ?_
      refine z_isub (v := nI E1) hE d_Te_doubleBits_149 (ey) ?_
      refine z_i2l (v := lN E1) hE d_Te_doubleBits_150 (i2l_n (by omega)) ?_
      refine z_bipush (v := nI 52) hE d_Te_doubleBits_151 (by decide) ?_
      refine z_lshl (v := lN (E1 * 4503599627370496)) hE d_Te_doubleBits_153 (wb_shl (k := 52) E1 (by decide)) ?_
      refine z_lload hE d_Te_doubleBits_154 rfl ?_
      refine z_ldc2 hE d_Te_doubleBits_156 cn_Te_101 ?_
      refine z_lsub (v := lN (dM aa ab - 4503599627370496)) hE d_Te_doubleBits_159 (lN_sub hM1) ?_
      refine z_ladd (v := lN (dB aa ab)) hE d_Te_doubleBits_160 (by rw [lN_add]; unfold dB; rw [hE1]) ?_
      refine z_lstore hE d_Te_doubleBits_161 (by decide) ?_
      -- from 192 on
      have last : ∀ (z : Nat) lv, z ≤ 1 → (z = 1 ↔ (sa < 0 ↔ e = 0)) → lG lv 1 = some (.ref f) → lG lv 6 = some (.int (nI (dI aa ab))) → lG lv 7 = some (.long (lN (dB aa ab))) → zJ E g_5 nx 0 0 192 lv [.int (nI z)] := by
        intro z lv hz hzi l1 l6 l7
        refine z_sub (lv' := [(1, .ref f), (6, .int (nI (dI aa ab))), (7, .long (lN (dB aa ab)))]) (by simp only [List.map, l1, l6, l7]) ?_
        have fin : ∀ (w : Nat) lv, w = dU sa aa ab e → lG lv 1 = some (.ref f) → lG lv 7 = some (.long (lN (dB aa ab + w))) → zJ E g_5 nx 0 0 210 lv [] := by
          intro w lv hw l1 l7
          refine z_sub (lv' := [(1, .ref f), (7, .long (lN (dB aa ab + w)))]) (by simp only [List.map, l1, l7]) ?_
          refine z_aload_n hE d_Te_doubleBits_210 rfl ?_
          refine z_getN hE d_Te_doubleBits_211 fl_Te_65 (by assumption) rfl ?_
          refine z_if_ge (tgt := 226) hE d_Te_doubleBits_214 (by decide) (fun c_214 => ?_) (fun c_214 => ?_)
          · refine z_lload hE d_Te_doubleBits_226 rfl ?_
            refine z_lret hE hQ d_Te_doubleBits_228 rfl (Nat.le_refl _) (Nat.le_refl _) ⟨?_, rfl, w5, v5, V5⟩
            unfold dbl
            rw [if_neg hs0, if_neg (fun q => by rw [Int32.lt_iff_toInt_lt] at q; rw [Int32.le_iff_toInt_le] at c_214; omega), hw]
          · refine z_lload hE d_Te_doubleBits_217 rfl ?_
            refine z_ldc2 hE d_Te_doubleBits_219 cn_Te_93 ?_
            refine z_lor hE d_Te_doubleBits_222 (rfl) ?_
            refine z_goto (tgt := 228) hE d_Te_doubleBits_223 (by decide) ?_
            refine z_lret hE hQ d_Te_doubleBits_228 rfl (Nat.le_refl _) (Nat.le_refl _) ⟨?_, rfl, w5, v5, V5⟩
            unfold dbl
            rw [if_neg hs0, if_pos (by rw [Int32.lt_iff_toInt_lt]; rw [Int32.le_iff_toInt_le] at c_214; omega), hw]
        refine z_istore hE d_Te_doubleBits_192 (by decide) ?_
        refine z_iload hE d_Te_doubleBits_194 rfl ?_
        refine z_if_eq (tgt := 210) hE d_Te_doubleBits_196 (by decide) (fun c_196 => ?_) (fun c_196 => ?_)
        · have hz0 : z = 0 := (nI_EQ (b := 0) (by omega) (by omega)).mp c_196
          refine fin 0 _ ?_ rfl (by rw [Nat.add_zero]; rfl)
          unfold dU
          rw [if_neg (fun q => by have := hzi.mpr q.1; omega)]
        · have hz1 : z = 1 := by
            rcases (show z = 0 ∨ z = 1 by omega) with q | q
            · rw [q] at c_196; exact absurd rfl c_196
            · exact q
          refine z_iload hE d_Te_doubleBits_199 rfl ?_
          refine z_if_ne (tgt := 210) hE d_Te_doubleBits_201 (by decide) (fun c_201 => ?_) (fun c_201 => ?_)
          · refine fin 0 _ ?_ rfl (by rw [Nat.add_zero]; rfl)
            unfold dU
            rw [if_neg (fun q => c_201 (by rw [q.2]; rfl))]
          · have hI0 : dI aa ab = 0 := by
              rcases (show dI aa ab = 0 ∨ dI aa ab = 1 by omega) with q | q
              · exact q
              · rw [q] at c_201; exact absurd c_201 (by decide)
            refine z_lload hE d_Te_doubleBits_204 rfl ?_
            refine z_lconst (v := lN 1) hE d_Te_doubleBits_206 (by decide) ?_
            refine z_ladd (v := lN (dB aa ab + 1)) hE d_Te_doubleBits_207 (lN_add _ _) ?_
            refine z_lstore hE d_Te_doubleBits_208 (by decide) ?_
            refine fin 1 _ ?_ rfl rfl
            unfold dU
            rw [if_pos ⟨hzi.mp hz1, hI0⟩]
      have mid : ∀ (z : Nat) lv, z ≤ 1 → (z = 1 ↔ sa < 0) → lG lv 1 = some (.ref f) → lG lv 2 = some (.int (nI e)) → lG lv 6 = some (.int (nI (dI aa ab))) → lG lv 7 = some (.long (lN (dB aa ab))) → zJ E g_5 nx 0 0 175 lv [.int (nI z)] := by
        intro z lv hz hzi l1 l2 l6 l7
        refine z_sub (lv' := [(1, .ref f), (2, .int (nI e)), (6, .int (nI (dI aa ab))), (7, .long (lN (dB aa ab)))]) (by simp only [List.map, l1, l2, l6, l7]) ?_
        refine z_iload_n hE d_Te_doubleBits_175 rfl ?_
        refine z_if_ne (tgt := 183) hE d_Te_doubleBits_176 (by decide) (fun c_176 => ?_) (fun c_176 => ?_)
        · have he0 : e ≠ 0 := fun q => c_176 (by rw [q]; rfl)
          refine z_iconst (v := nI 0) hE d_Te_doubleBits_183 (by decide) ?_
          refine z_icmp_ne (tgt := 191) hE d_Te_doubleBits_184 (by decide) (fun c_184 => ?_) (fun c_184 => ?_)
          · have hz0 : z ≠ 0 := fun q => c_184 (by rw [q])
            refine z_iconst (v := nI 0) hE d_Te_doubleBits_191 (by decide) ?_
            exact last 0 _ (by omega) (by constructor; · intro q; omega
                                          · intro q; exact absurd (q.mp (hzi.mp (by omega))) he0) rfl rfl rfl
          · have hz0 : z = 0 := (nI_EQ (by omega) (by omega)).mp c_184
            refine z_iconst (v := nI 1) hE d_Te_doubleBits_187 (by decide) ?_
            refine z_goto (tgt := 192) hE d_Te_doubleBits_188 (by decide) ?_
            exact last 1 _ (by omega) (by constructor; · intro _; exact ⟨fun q => absurd (hzi.mpr q) (by omega), fun q => absurd q he0⟩
                                          · intro _; rfl) rfl rfl rfl
        · have he0 : e = 0 := by
            rcases (show e = 0 ∨ e = 1 by omega) with q | q
            · exact q
            · rw [q] at c_176; exact absurd c_176 (by decide)
          refine z_iconst (v := nI 1) hE d_Te_doubleBits_179 (by decide) ?_
          refine z_goto (tgt := 184) hE d_Te_doubleBits_180 (by decide) ?_
          refine z_icmp_ne (tgt := 191) hE d_Te_doubleBits_184 (by decide) (fun c_184 => ?_) (fun c_184 => ?_)
          · have hz0 : z ≠ 1 := fun q => c_184 (by rw [q])
            refine z_iconst (v := nI 0) hE d_Te_doubleBits_191 (by decide) ?_
            exact last 0 _ (by omega) (by constructor; · intro q; omega
                                          · intro q; exact absurd (hzi.mpr (q.mpr he0)) hz0) rfl rfl rfl
          · have hz1 : z = 1 := (nI_EQ (by omega) (by omega)).mp c_184
            refine z_iconst (v := nI 1) hE d_Te_doubleBits_187 (by decide) ?_
            refine z_goto (tgt := 192) hE d_Te_doubleBits_188 (by decide) ?_
            exact last 1 _ (by omega) (by constructor; · intro _; exact ⟨fun _ => he0, fun _ => hzi.mp hz1⟩
                                          · intro _; rfl) rfl rfl rfl
      refine z_aload_n hE d_Te_doubleBits_163 rfl ?_
      refine z_getN hE d_Te_doubleBits_164 fl_Te_65 (by assumption) rfl ?_
      refine z_if_ge (tgt := 174) hE d_Te_doubleBits_167 (by decide) (fun c_167 => ?_) (fun c_167 => ?_)
      · refine z_iconst (v := nI 0) hE d_Te_doubleBits_174 (by decide) ?_
        exact mid 0 _ (by omega) (by constructor; · intro q; omega
                                     · intro q; rw [Int32.lt_iff_toInt_lt] at q; rw [Int32.le_iff_toInt_le] at c_167; omega) rfl rfl rfl rfl
      · refine z_iconst (v := nI 1) hE d_Te_doubleBits_170 (by decide) ?_
        refine z_goto (tgt := 175) hE d_Te_doubleBits_171 (by decide) ?_
        exact mid 1 _ (by omega) (by constructor; · intro _; rw [Int32.lt_iff_toInt_lt]; rw [Int32.le_iff_toInt_le] at c_167; omega
                                     · intro _; rfl) rfl rfl rfl rfl
    refine z_aload_n hE d_Te_doubleBits_82 rfl ?_
    refine z_get hE d_Te_doubleBits_83 fl_Te_12 (by assumption) rfl ?_
    refine z_getN hE d_Te_doubleBits_86 fl_Te_51 (by assumption) rfl ?_
    refine z_callV hE d_Te_doubleBits_89 cl_Te_89 (c_Na_lowLong l nx n4) (by assumption) cb_Na rfl (Nat.le_of_ble_eq_true rfl) ⟨by decide, by decide⟩ ⟨by omega, by omega⟩ (fun r_89 g_89 nx_89 hp_89 => ?_) rfl
    obtain ⟨rfl, rfl, rfl⟩ := hp_89
    try dsimp only [Option.toList, List.nil_append, List.cons_append]
    rw [Nat.mod_eq_of_lt (show dq aa ab < 18446744073709551616 by omega)]
    refine z_lstore hE d_Te_doubleBits_92 (by decide) ?_
    refine z_aload_n hE d_Te_doubleBits_94 rfl ?_
    refine z_get hE d_Te_doubleBits_95 fl_Te_12 (by assumption) rfl ?_
    refine z_getN hE d_Te_doubleBits_98 fl_Te_58 (by assumption) rfl ?_
    refine z_callV hE d_Te_doubleBits_101 cl_Te_61 (c_Na_isZero l nx n6) (by assumption) cb_Na rfl (Nat.le_of_ble_eq_true rfl) ⟨by decide, by decide⟩ ⟨by omega, by omega⟩ (fun r_101 g_101 nx_101 hp_101 => ?_) rfl
    obtain ⟨rfl, rfl, rfl⟩ := hp_101
    try dsimp only [Option.toList, List.nil_append, List.cons_append]
    obtain ⟨z, hz1, hz2, hz3⟩ : ∃ z : Nat, z ≤ 1 ∧ (if dX aa ab % dY aa ab = 0 then (1 : Int32) else 0) = nI z ∧ (z = 1 ↔ dX aa ab % dY aa ab = 0) := by
      by_cases h : dX aa ab % dY aa ab = 0
      · exact ⟨1, by omega, by rw [if_pos h]; rfl, by omega⟩
      · exact ⟨0, by omega, by rw [if_neg h]; rfl, by omega⟩
    rw [hz2]
    refine z_istore hE d_Te_doubleBits_104 (by decide) ?_
    refine z_lload hE d_Te_doubleBits_106 rfl ?_
    refine z_ldc2 hE d_Te_doubleBits_108 cn_Te_99 ?_
    refine z_lcmp hE d_Te_doubleBits_111 ?_
    refine z_if_lt (tgt := 145) hE d_Te_doubleBits_112 (by decide) (fun c_112 => ?_) (fun c_112 => ?_)
    · rw [lg_cmp_lt, show (9007199254740992 : Int64) = lN 9007199254740992 from rfl, pk_lLT (by omega) (by omega)] at c_112
      have e1 : dM aa ab = dq aa ab := if_neg (by omega)
      have e2 : dW aa ab = dT aa ab := if_neg (by omega)
      have e3 : dI aa ab = z := by
        unfold dI
        by_cases h : dX aa ab % dY aa ab = 0
        · rw [if_pos ⟨h, fun q => by omega⟩]; exact (hz3.mpr h).symm
        · rw [if_neg (fun q => h q.1)]
          have := mt hz3.mp h
          omega
      rw [e1, e3] at tail
      exact tail x _ (hxT.trans e2.symm) rfl rfl rfl rfl rfl
    · rw [lg_cmp_lt, show (9007199254740992 : Int64) = lN 9007199254740992 from rfl, pk_lLT (by omega) (by omega)] at c_112
      have e1 : dM aa ab = dq aa ab / 2 := if_pos (by omega)
      have e2 : dW aa ab = dT aa ab - 1 := if_pos (by omega)
      rw [e1] at tail
      have half : ∀ (w : Nat) lv, w = dI aa ab → lG lv 1 = some (.ref f) → lG lv 2 = some (.int (nI e)) → lG lv 3 = some (.int x) → lG lv 4 = some (.long (lN (dq aa ab))) → zJ E g_5 nx 0 0 134 lv [.int (nI w)] := by
        intro w lv hw l1 l2 l3 l4
        refine z_sub (lv' := [(1, .ref f), (2, .int (nI e)), (3, .int x), (4, .long (lN (dq aa ab)))]) (by simp only [List.map, l1, l2, l3, l4]) ?_
        refine z_istore hE d_Te_doubleBits_134 (by decide) ?_
        refine z_lload hE d_Te_doubleBits_136 rfl ?_
        refine z_iconst (v := 1) hE d_Te_doubleBits_138 (by decide) ?_
        refine z_lshr (v := lN (dq aa ab / 2)) hE d_Te_doubleBits_139 (pf_shr (d := 1) (by decide) (by omega)) ?_
        refine z_lstore hE d_Te_doubleBits_140 (by decide) ?_
        refine z_iinc hE d_Te_doubleBits_142 rfl (rfl) (by decide) ?_
        rw [← hw] at tail
        exact tail _ _ (by rw [e2]; rw [← hxT]; exact i_m1I (by omega) (by omega)) rfl rfl rfl rfl rfl
      refine z_iload hE d_Te_doubleBits_115 rfl ?_
      refine z_if_eq (tgt := 133) hE d_Te_doubleBits_117 (by decide) (fun c_117 => ?_) (fun c_117 => ?_)
      · have hz0 : z = 0 := (nI_EQ (b := 0) (by omega) (by omega)).mp c_117
        refine z_iconst (v := nI 0) hE d_Te_doubleBits_133 (by decide) ?_
        refine half 0 _ ?_ rfl rfl rfl rfl
        unfold dI
        rw [if_neg (fun q => by have := hz3.mpr q.1; omega)]
      · have hz1' : z = 1 := by
          rcases (show z = 0 ∨ z = 1 by omega) with q | q
          · rw [q] at c_117; exact absurd rfl c_117
          · exact q
        refine z_lload hE d_Te_doubleBits_120 rfl ?_
        refine z_lconst (v := 1) hE d_Te_doubleBits_122 (by decide) ?_
        refine z_land (v := lN (dq aa ab % 2)) hE d_Te_doubleBits_123 (g_and1 (by omega)) ?_
        refine z_lconst (v := lN 0) hE d_Te_doubleBits_124 (by decide) ?_
        refine z_lcmp hE d_Te_doubleBits_125 ?_
        refine z_if_ne (tgt := 133) hE d_Te_doubleBits_126 (by decide) (fun c_126 => ?_) (fun c_126 => ?_)
        · rw [lg_cmp_eq, pk_lEQ (by omega) (by omega)] at c_126
          refine z_iconst (v := nI 0) hE d_Te_doubleBits_133 (by decide) ?_
          refine half 0 _ ?_ rfl rfl rfl rfl
          unfold dI
          rw [if_neg (fun q => by have := q.2 (by omega); omega)]
        · rw [lg_cmp_eq, pk_lEQ (by omega) (by omega)] at c_126
          refine z_iconst (v := nI 1) hE d_Te_doubleBits_129 (by decide) ?_
          refine z_goto (tgt := 134) hE d_Te_doubleBits_130 (by decide) ?_
          refine half 1 _ ?_ rfl rfl rfl rfl
          unfold dI
          rw [if_pos ⟨hz3.mp hz1', fun _ => c_126⟩]
  · have hs0 : sa = 0 := c_4
    refine z_lconst (v := 0) hE d_Te_doubleBits_7 (by decide) ?_
    refine z_lret hE hQ d_Te_doubleBits_8 rfl (Nat.le_refl _) (Nat.le_refl _) ⟨?_, rfl, gW_r, v, hV⟩
    unfold dbl
    rw [if_pos hs0]
theorem c_Te_init (l : Launch) {g : Gh} {nx T : Nat} (hnx : nx = T + 1) (h : g T = some (.inr (5, [.null, .null, .null]))) : Ct l m_Te_init 11 113 [.ref T] g nx (fun r g' nx' => r = none ∧ nx' = nx + 11 ∧ (∃ v, TV g' T v) ∧ gW g g' T (T + 12)) := by
  subst hnx
  refine Ct.of (by decide) (Nat.le_of_ble_eq_true rfl) (fun E hE hQ => ?_)
  refine z_aload_n hE d_Te_init_0 rfl ?_
  refine z_objInit hE d_Te_init_1 ol_Te_3 ol_i ol_c (by decide) (Nat.le_of_ble_eq_true rfl) ?_
  refine z_aload_n hE d_Te_init_4 rfl ?_
  refine z_new (fs := [.null, .null, .null]) hE d_Te_init_5 ct_Dv rfl kl_Te_9 is_Dv it_Dv (by decide) (by omega) (by omega) ?_
  refine z_dup hE d_Te_init_8 rfl ?_
  refine z_callIN hE d_Te_init_9 cl_Te_11 (c_Dv_init l rfl gS_s) rfl (Nat.le_of_ble_eq_true rfl) ⟨by decide, by decide⟩ ⟨by omega, by omega⟩ (fun r_1 g_1 nx_1 hp_1 => ?_) rfl
  try dsimp only [Option.toList, List.nil_append, List.cons_append]
  obtain ⟨rfl, rfl, D1, A1, A2, A3, W1⟩ := hp_1
  try dsimp only [Option.toList, List.nil_append, List.cons_append]
  have e1 : g_1 T = some (.inr (5, [.null, .null, .null])) := by rw [W1 T (by omega), gS_n (by omega)]; exact h
  refine z_putF hE d_Te_init_12 fl_Te_12 ct_Te ff_Te_0 rfl ⟨_, _, _, rfl, rfl⟩ (e1) rfl rfl (Nat.le_of_ble_eq_true rfl) ?_
  refine z_aload_n hE d_Te_init_15 rfl ?_
  refine z_new (fs := [.null, .int 0]) hE d_Te_init_16 ct_Na rfl kl_Te_18 is_Na it_Na (by decide) (by omega) (by omega) ?_
  refine z_dup hE d_Te_init_19 rfl ?_
  refine z_bipush (v := nI 20) hE d_Te_init_20 (by decide) ?_
  refine z_callI hE d_Te_init_22 cl_Te_20 (c_Na_init l 20 (by omega) rfl gS_s) rfl (Nat.le_of_ble_eq_true rfl) ⟨by decide, by decide⟩ ⟨by omega, by omega⟩ (fun r_2 g_2 nx_2 hp_2 => ?_) rfl
  try dsimp only [Option.toList, List.nil_append, List.cons_append]
  obtain ⟨rfl, rfl, hA2, hO2⟩ := hp_2
  try dsimp only [Option.toList, List.nil_append, List.cons_append]
  have e2 : g_2 T = some (.inr (5, [.ref (T + 1), .null, .null])) := by rw [hO2 T (by omega) (by omega), gS_n (by omega), gS_s]; rfl
  refine z_putF hE d_Te_init_25 fl_Te_23 ct_Te ff_Te_1 rfl ⟨_, _, _, rfl, rfl⟩ (e2) rfl rfl (Nat.le_of_ble_eq_true rfl) ?_
  refine z_aload_n hE d_Te_init_28 rfl ?_
  refine z_new (fs := [.null, .int 0]) hE d_Te_init_29 ct_Na rfl kl_Te_18 is_Na it_Na (by decide) (by omega) (by omega) ?_
  refine z_dup hE d_Te_init_32 rfl ?_
  refine z_bipush (v := nI 20) hE d_Te_init_33 (by decide) ?_
  refine z_callI hE d_Te_init_35 cl_Te_20 (c_Na_init l 20 (by omega) rfl gS_s) rfl (Nat.le_of_ble_eq_true rfl) ⟨by decide, by decide⟩ ⟨by omega, by omega⟩ (fun r_3 g_3 nx_3 hp_3 => ?_) rfl
  try dsimp only [Option.toList, List.nil_append, List.cons_append]
  obtain ⟨rfl, rfl, hA3, hO3⟩ := hp_3
  try dsimp only [Option.toList, List.nil_append, List.cons_append]
  have e3 : g_3 T = some (.inr (5, [.ref (T + 1), .ref (T + 8), .null])) := by rw [hO3 T (by omega) (by omega), gS_n (by omega), gS_s]; rfl
  refine z_putF hE d_Te_init_38 fl_Te_27 ct_Te ff_Te_2 rfl ⟨_, _, _, rfl, rfl⟩ (e3) rfl rfl (Nat.le_of_ble_eq_true rfl) ?_
  have k12 : ∀ q, T + 1 ≤ q → q < T + 8 → g_3 q = g_1 q := fun q a1 a2 => by rw [hO3 q (by omega) (by omega), gS_n (by omega), gS_n (by omega), hO2 q (by omega) (by omega), gS_n (by omega), gS_n (by omega)]
  have mv : ∀ a v, T + 1 ≤ a → a + 1 < T + 8 → NA g_1 a 20 v → NA g_3 a 20 v := by
    intro a v a1 a2 hN
    obtain ⟨n, d, q1, q2, q3⟩ := hN
    exact ⟨n, d, ⟨by rw [k12 _ (by omega) (by omega)]; exact q1.1, by rw [k12 _ (by omega) (by omega)]; exact q1.2.1, q1.2.2⟩, q2, q3⟩
  have b8 : NA g_3 (T + 8) 20 0 := by
    obtain ⟨n, d, q1, q2, q3⟩ := hA2
    refine ⟨n, d, ⟨?_, ?_, q1.2.2⟩, q2, q3⟩
    · rw [hO3 _ (by omega) (by omega), gS_n (by omega), gS_n (by omega)]; exact q1.1
    · rw [hO3 _ (by omega) (by omega), gS_n (by omega), gS_n (by omega)]; exact q1.2.1
  refine z_vret hE hQ d_Te_init_41 rfl (by omega) (by omega) ⟨rfl, by omega, ⟨fun _ => 0, ?_, ?_, fun k hk => ?_⟩, fun q hq => ?_⟩
  · rw [gS_s]; rfl
  · unfold DV
    rw [gS_n (by omega), k12 _ (by omega) (by omega)]
    exact D1
  · have b := kT_b k hk
    refine NA_gS ?_ (by omega) (by omega)
    simp only [kT, List.mem_cons, List.not_mem_nil, or_false] at hk
    rcases hk with rfl | rfl | rfl | rfl | rfl
    · exact mv _ _ (by omega) (by omega) A1
    · exact mv _ _ (by omega) (by omega) A2
    · exact mv _ _ (by omega) (by omega) A3
    · exact b8
    · exact hA3
  · rw [gS_n (by omega), hO3 q (by omega) (by omega), gS_n (by omega), gS_n (by omega), hO2 q (by omega) (by omega), gS_n (by omega), gS_n (by omega), W1 q (by omega), gS_n (by omega)]

