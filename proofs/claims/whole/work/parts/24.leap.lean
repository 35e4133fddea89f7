/-! Reckoner.leap -/
def lpI (u w : Nat) (x0 y0 x y a b c d : Int) (U V : Nat) : Prop :=
  (x = a * x0 + b * y0 ∧ y = c * x0 + d * y0) ∧ ((U : Int) = a * u + b * w ∧ (V : Int) = c * u + d * w) ∧
  ((0 ≤ a ∧ b ≤ 0 ∧ c ≤ 0 ∧ 0 ≤ d) ∨ (a ≤ 0 ∧ 0 ≤ b ∧ 0 ≤ c ∧ d ≤ 0)) ∧
  ((-2147483647 ≤ a ∧ a ≤ 2147483647) ∧ (-2147483647 ≤ b ∧ b ≤ 2147483647) ∧ (-2147483647 ≤ c ∧ c ≤ 2147483647) ∧ (-2147483647 ≤ d ∧ d ≤ 2147483647)) ∧
  ((0 ≤ x + a ∧ x + a ≤ 2147483648) ∧ (0 ≤ x + b ∧ x + b ≤ 2147483648) ∧ (0 ≤ y + c ∧ y + c ≤ 2147483648) ∧ (0 ≤ y + d ∧ y + d ≤ 2147483648)) ∧
  ((0 ≤ x ∧ x ≤ 2147483647) ∧ (0 ≤ y ∧ y ≤ 2147483647)) ∧
  V ≤ U ∧ Nat.gcd U V = Nat.gcd u w ∧ ((b = 0 ∧ U = u ∧ V = w) ∨ (2 * (U * V) ≤ u * w ∧ V < U ∧ U ≤ u))
theorem half_le {u w : Nat} (hw : w ≤ u) (h0 : 0 < w) : 2 * (w * (u % w)) ≤ u * w := by
  have h1 := Nat.mod_add_div u w
  have h2 := Nat.mod_lt u h0
  have h3 : 1 ≤ u / w := (Nat.le_div_iff_mul_le h0).mpr (by omega)
  have h4 := Nat.mul_le_mul_left w h3
  have h5 : u % w * 2 ≤ u := by omega
  have h6 := Nat.mul_le_mul_right w h5
  rw [Nat.mul_right_comm, Nat.mul_comm (u % w) w] at h6
  omega
theorem gcd_mod' (U V : Nat) : Nat.gcd V (U % V) = Nat.gcd U V := by
  rw [Nat.gcd_comm, ← Nat.gcd_rec, Nat.gcd_comm]
theorem lpI_step {u w : Nat} {K e1 e2 x0 y0 x y a b c d q : Int} {U V : Nat} (hK : 0 < K) (h1 : 0 ≤ e1) (h2 : e1 ≤ K) (h3 : 0 ≤ e2) (h4 : e2 ≤ K) (hu : (u : Int) = x0 * K + e1) (hw : (w : Int) = y0 * K + e2) (hI : lpI u w x0 y0 x y a b c d U V) (p1 : y + c ≠ 0) (p2 : y + d ≠ 0) (q1 : q = (x + a) / (y + c)) (q2 : q = (x + b) / (y + d)) :
    ∃ V' : Nat, lpI u w x0 y0 y (x - q * y) c d (a - q * c) (b - q * d) V V' := by
  obtain ⟨⟨hx, hy⟩, ⟨hU, hV⟩, hsg, ⟨ba, bb, bc, bd⟩, ⟨s1, s2, s3, s4⟩, ⟨bx, by'⟩, hVU, hg, hpr⟩ := hI
  have hq0 : 0 ≤ q := by rw [q1]; exact Int.ediv_nonneg s1.1 s3.1
  have r1 : (x + a) - q * (y + c) = (x + a) % (y + c) := by rw [q1, Int.emod_def, Int.mul_comm]
  have r2 : (x + b) - q * (y + d) = (x + b) % (y + d) := by rw [q2, Int.emod_def, Int.mul_comm]
  have r3 := Int.emod_nonneg (x + a) p1
  have r4 := Int.emod_lt_of_pos (x + a) (show 0 < y + c by omega)
  have r5 := Int.emod_nonneg (x + b) p2
  have r6 := Int.emod_lt_of_pos (x + b) (show 0 < y + d by omega)
  rw [← r1] at r3 r4
  rw [← r2] at r5 r6
  have hV' : 0 ≤ (U : Int) - q * V ∧ (U : Int) - q * V < V := by
    rw [hU, hV, hu, hw]
    rcases hsg with ⟨z1, z2, z3, z4⟩ | ⟨z1, z2, z3, z4⟩
    · refine lp_step hK h1 h2 h3 h4 z1 z2 z3 z4 hq0 ?_ ?_
      · rw [← hx, ← hy]; exact r4
      · rw [← hx, ← hy]; exact r5
    · have := lp_step (x0 := y0) (y0 := x0) (a := b) (b := a) (c := d) (d := c) (q := q) hK h3 h4 h1 h2 z2 z1 z4 z3 hq0 (by
          rw [Int.add_comm (b * y0), Int.add_comm (d * y0), ← hx, ← hy]; exact r6) (by
          rw [Int.add_comm (b * y0), Int.add_comm (d * y0), ← hx, ← hy]; exact r3)
      rw [Int.add_comm (b * (y0 * K + e2)), Int.add_comm (d * (y0 * K + e2))] at this
      exact this
  obtain ⟨k, hk⟩ : ∃ k : Nat, q = k := ⟨q.toNat, (Int.toNat_of_nonneg hq0).symm⟩
  obtain ⟨V', hVn⟩ : ∃ V' : Nat, (U : Int) - q * V = V' := ⟨((U : Int) - q * V).toNat, (Int.toNat_of_nonneg hV'.1).symm⟩
  have hUk : U = V' + V * k := by
    have : (U : Int) = (V' : Int) + (V : Int) * (k : Int) := by rw [← hVn, hk, Int.mul_comm]; omega
    exact_mod_cast this
  have hlt : V' < V := by omega
  have hmod : U % V = V' := by rw [hUk, Nat.add_mul_mod_self_left, Nat.mod_eq_of_lt hlt]
  have n1 : (x - q * y) + (a - q * c) = (x + a) - q * (y + c) := by rw [Int.mul_add]; omega
  have n2 : (x - q * y) + (b - q * d) = (x + b) - q * (y + d) := by rw [Int.mul_add]; omega
  have sg' : (0 ≤ c ∧ d ≤ 0 ∧ a - q * c ≤ 0 ∧ 0 ≤ b - q * d) ∨ (c ≤ 0 ∧ 0 ≤ d ∧ 0 ≤ a - q * c ∧ b - q * d ≤ 0) := by
    rcases hsg with ⟨z1, z2, z3, z4⟩ | ⟨z1, z2, z3, z4⟩
    · right
      have t1 := Int.mul_nonpos_of_nonneg_of_nonpos hq0 z3
      have t2 := Int.mul_nonneg hq0 z4
      omega
    · left
      have t1 := Int.mul_nonneg hq0 z3
      have t2 := Int.mul_nonpos_of_nonneg_of_nonpos hq0 z4
      omega
  rw [← n1] at r3 r4
  rw [← n2] at r5 r6
  refine ⟨V', ⟨hy, ?_⟩, ⟨hV, ?_⟩, sg', ⟨bc, bd, by omega, by omega⟩, ⟨by omega, by omega, by omega, by omega⟩, ⟨by', by omega⟩, by omega, ?_, Or.inr ⟨?_, hlt, ?_⟩⟩
  · rw [hx, hy]; grind
  · rw [← hVn, hU, hV]; grind
  · rw [← hmod, gcd_mod', hg]
  · rw [← hmod]
    have t1 := half_le hVU (by omega)
    rcases hpr with ⟨-, z1, z2⟩ | ⟨z1, -, -⟩
    · rw [z1, z2] at t1 ⊢; exact t1
    · omega
  · rcases hpr with ⟨-, z1, z2⟩ | ⟨-, z2, z3⟩
    · omega
    · omega
theorem iL_eq {x y : Int} (h1 : -9223372036854775808 ≤ x) (h2 : x ≤ 9223372036854775807) (h3 : -9223372036854775808 ≤ y) (h4 : y ≤ 9223372036854775807) : iL x = iL y ↔ x = y := by
  constructor
  · intro h
    have := congrArg Int64.toInt h
    rw [iL_ti h1 h2, iL_ti h3 h4] at this
    exact this
  · intro h; rw [h]
theorem iL_div {p r : Int} (h1 : 0 ≤ p) (h2 : p ≤ 4611686018427387904) (h3 : 0 < r) (h4 : r ≤ 4611686018427387904) : iL p / iL r = iL (p / r) := by
  obtain ⟨m, rfl⟩ : ∃ m : Nat, p = m := ⟨p.toNat, by omega⟩
  obtain ⟨k, rfl⟩ : ∃ k : Nat, r = k := ⟨r.toNat, by omega⟩
  rw [iL_n, iL_n, pk_lDiv (by omega) (by omega) (by omega), ← iL_n, Int.natCast_ediv]
theorem d_Re_leap_0 : decode b_Re_leap 0 = .ok (.aload_n 0, 1) := by decide +kernel
theorem d_Re_leap_1 : decode b_Re_leap 1 = .ok (.getfield 30, 3) := by decide +kernel
theorem d_Re_leap_4 : decode b_Re_leap 4 = .ok (.invokevirtual 164, 3) := by decide +kernel
theorem d_Re_leap_7 : decode b_Re_leap 7 = .ok (.bipush 31, 2) := by decide +kernel
theorem d_Re_leap_9 : decode b_Re_leap 9 = .ok (.isub, 1) := by decide +kernel
theorem d_Re_leap_10 : decode b_Re_leap 10 = .ok (.istore_n 1, 1) := by decide +kernel
theorem d_Re_leap_11 : decode b_Re_leap 11 = .ok (.aload_n 0, 1) := by decide +kernel
theorem d_Re_leap_12 : decode b_Re_leap 12 = .ok (.getfield 30, 3) := by decide +kernel
theorem d_Re_leap_15 : decode b_Re_leap 15 = .ok (.iload_n 1, 1) := by decide +kernel
theorem d_Re_leap_16 : decode b_Re_leap 16 = .ok (.invokevirtual 168, 3) := by decide +kernel
theorem d_Re_leap_19 : decode b_Re_leap 19 = .ok (.lstore_n 2, 1) := by decide +kernel
theorem d_Re_leap_20 : decode b_Re_leap 20 = .ok (.aload_n 0, 1) := by decide +kernel
theorem d_Re_leap_21 : decode b_Re_leap 21 = .ok (.getfield 34, 3) := by decide +kernel
theorem d_Re_leap_24 : decode b_Re_leap 24 = .ok (.iload_n 1, 1) := by decide +kernel
theorem d_Re_leap_25 : decode b_Re_leap 25 = .ok (.invokevirtual 168, 3) := by decide +kernel
theorem d_Re_leap_28 : decode b_Re_leap 28 = .ok (.lstore 4, 2) := by decide +kernel
theorem d_Re_leap_30 : decode b_Re_leap 30 = .ok (.lconst 1, 1) := by decide +kernel
theorem d_Re_leap_31 : decode b_Re_leap 31 = .ok (.lstore 6, 2) := by decide +kernel
theorem d_Re_leap_33 : decode b_Re_leap 33 = .ok (.lconst 0, 1) := by decide +kernel
theorem d_Re_leap_34 : decode b_Re_leap 34 = .ok (.lstore 8, 2) := by decide +kernel
theorem d_Re_leap_36 : decode b_Re_leap 36 = .ok (.lconst 0, 1) := by decide +kernel
theorem d_Re_leap_37 : decode b_Re_leap 37 = .ok (.lstore 10, 2) := by decide +kernel
theorem d_Re_leap_39 : decode b_Re_leap 39 = .ok (.lconst 1, 1) := by decide +kernel
theorem d_Re_leap_40 : decode b_Re_leap 40 = .ok (.lstore 12, 2) := by decide +kernel
theorem d_Re_leap_42 : decode b_Re_leap 42 = .ok (.iconst 0, 1) := by decide +kernel
theorem d_Re_leap_43 : decode b_Re_leap 43 = .ok (.istore 14, 2) := by decide +kernel
theorem d_Re_leap_45 : decode b_Re_leap 45 = .ok (.iload 14, 2) := by decide +kernel
theorem d_Re_leap_47 : decode b_Re_leap 47 = .ok (.ldc 142, 2) := by decide +kernel
theorem d_Re_leap_49 : decode b_Re_leap 49 = .ok (.if_icmp .ge 112, 3) := by decide +kernel
theorem d_Re_leap_52 : decode b_Re_leap 52 = .ok (.lload 4, 2) := by decide +kernel
theorem d_Re_leap_54 : decode b_Re_leap 54 = .ok (.lload 10, 2) := by decide +kernel
theorem d_Re_leap_56 : decode b_Re_leap 56 = .ok (.ladd, 1) := by decide +kernel
theorem d_Re_leap_57 : decode b_Re_leap 57 = .ok (.lconst 0, 1) := by decide +kernel
theorem d_Re_leap_58 : decode b_Re_leap 58 = .ok (.lcmp, 1) := by decide +kernel
theorem d_Re_leap_59 : decode b_Re_leap 59 = .ok (.ifCond .eq 102, 3) := by decide +kernel
theorem d_Re_leap_62 : decode b_Re_leap 62 = .ok (.lload 4, 2) := by decide +kernel
theorem d_Re_leap_64 : decode b_Re_leap 64 = .ok (.lload 12, 2) := by decide +kernel
theorem d_Re_leap_66 : decode b_Re_leap 66 = .ok (.ladd, 1) := by decide +kernel
theorem d_Re_leap_67 : decode b_Re_leap 67 = .ok (.lconst 0, 1) := by decide +kernel
theorem d_Re_leap_68 : decode b_Re_leap 68 = .ok (.lcmp, 1) := by decide +kernel
theorem d_Re_leap_69 : decode b_Re_leap 69 = .ok (.ifCond .eq 92, 3) := by decide +kernel
theorem d_Re_leap_72 : decode b_Re_leap 72 = .ok (.lload_n 2, 1) := by decide +kernel
theorem d_Re_leap_73 : decode b_Re_leap 73 = .ok (.lload 6, 2) := by decide +kernel
theorem d_Re_leap_75 : decode b_Re_leap 75 = .ok (.ladd, 1) := by decide +kernel
theorem d_Re_leap_76 : decode b_Re_leap 76 = .ok (.lload 4, 2) := by decide +kernel
theorem d_Re_leap_78 : decode b_Re_leap 78 = .ok (.lload 10, 2) := by decide +kernel
theorem d_Re_leap_80 : decode b_Re_leap 80 = .ok (.ladd, 1) := by decide +kernel
theorem d_Re_leap_81 : decode b_Re_leap 81 = .ok (.ldiv, 1) := by decide +kernel
theorem d_Re_leap_82 : decode b_Re_leap 82 = .ok (.lstore 15, 2) := by decide +kernel
theorem d_Re_leap_84 : decode b_Re_leap 84 = .ok (.lload 15, 2) := by decide +kernel
theorem d_Re_leap_86 : decode b_Re_leap 86 = .ok (.lload_n 2, 1) := by decide +kernel
theorem d_Re_leap_87 : decode b_Re_leap 87 = .ok (.lload 8, 2) := by decide +kernel
theorem d_Re_leap_89 : decode b_Re_leap 89 = .ok (.ladd, 1) := by decide +kernel
theorem d_Re_leap_90 : decode b_Re_leap 90 = .ok (.lload 4, 2) := by decide +kernel
theorem d_Re_leap_92 : decode b_Re_leap 92 = .ok (.lload 12, 2) := by decide +kernel
theorem d_Re_leap_94 : decode b_Re_leap 94 = .ok (.ladd, 1) := by decide +kernel
theorem d_Re_leap_95 : decode b_Re_leap 95 = .ok (.ldiv, 1) := by decide +kernel
theorem d_Re_leap_96 : decode b_Re_leap 96 = .ok (.lcmp, 1) := by decide +kernel
theorem d_Re_leap_97 : decode b_Re_leap 97 = .ok (.ifCond .eq 6, 3) := by decide +kernel
theorem d_Re_leap_100 : decode b_Re_leap 100 = .ok (.goto 61, 3) := by decide +kernel
theorem d_Re_leap_103 : decode b_Re_leap 103 = .ok (.lload 6, 2) := by decide +kernel
theorem d_Re_leap_105 : decode b_Re_leap 105 = .ok (.lload 15, 2) := by decide +kernel
theorem d_Re_leap_107 : decode b_Re_leap 107 = .ok (.lload 10, 2) := by decide +kernel
theorem d_Re_leap_109 : decode b_Re_leap 109 = .ok (.lmul, 1) := by decide +kernel
theorem d_Re_leap_110 : decode b_Re_leap 110 = .ok (.lsub, 1) := by decide +kernel
theorem d_Re_leap_111 : decode b_Re_leap 111 = .ok (.lstore 17, 2) := by decide +kernel
theorem d_Re_leap_113 : decode b_Re_leap 113 = .ok (.lload 8, 2) := by decide +kernel
theorem d_Re_leap_115 : decode b_Re_leap 115 = .ok (.lload 15, 2) := by decide +kernel
theorem d_Re_leap_117 : decode b_Re_leap 117 = .ok (.lload 12, 2) := by decide +kernel
theorem d_Re_leap_119 : decode b_Re_leap 119 = .ok (.lmul, 1) := by decide +kernel
theorem d_Re_leap_120 : decode b_Re_leap 120 = .ok (.lsub, 1) := by decide +kernel
theorem d_Re_leap_121 : decode b_Re_leap 121 = .ok (.lstore 19, 2) := by decide +kernel
theorem d_Re_leap_123 : decode b_Re_leap 123 = .ok (.lload_n 2, 1) := by decide +kernel
theorem d_Re_leap_124 : decode b_Re_leap 124 = .ok (.lload 15, 2) := by decide +kernel
theorem d_Re_leap_126 : decode b_Re_leap 126 = .ok (.lload 4, 2) := by decide +kernel
theorem d_Re_leap_128 : decode b_Re_leap 128 = .ok (.lmul, 1) := by decide +kernel
theorem d_Re_leap_129 : decode b_Re_leap 129 = .ok (.lsub, 1) := by decide +kernel
theorem d_Re_leap_130 : decode b_Re_leap 130 = .ok (.lstore 21, 2) := by decide +kernel
theorem d_Re_leap_132 : decode b_Re_leap 132 = .ok (.lload 10, 2) := by decide +kernel
theorem d_Re_leap_134 : decode b_Re_leap 134 = .ok (.lstore 6, 2) := by decide +kernel
theorem d_Re_leap_136 : decode b_Re_leap 136 = .ok (.lload 12, 2) := by decide +kernel
theorem d_Re_leap_138 : decode b_Re_leap 138 = .ok (.lstore 8, 2) := by decide +kernel
theorem d_Re_leap_140 : decode b_Re_leap 140 = .ok (.lload 4, 2) := by decide +kernel
theorem d_Re_leap_142 : decode b_Re_leap 142 = .ok (.lstore_n 2, 1) := by decide +kernel
theorem d_Re_leap_143 : decode b_Re_leap 143 = .ok (.lload 17, 2) := by decide +kernel
theorem d_Re_leap_145 : decode b_Re_leap 145 = .ok (.lstore 10, 2) := by decide +kernel
theorem d_Re_leap_147 : decode b_Re_leap 147 = .ok (.lload 19, 2) := by decide +kernel
theorem d_Re_leap_149 : decode b_Re_leap 149 = .ok (.lstore 12, 2) := by decide +kernel
theorem d_Re_leap_151 : decode b_Re_leap 151 = .ok (.lload 21, 2) := by decide +kernel
theorem d_Re_leap_153 : decode b_Re_leap 153 = .ok (.lstore 4, 2) := by decide +kernel
theorem d_Re_leap_155 : decode b_Re_leap 155 = .ok (.iinc 14 1, 3) := by decide +kernel
theorem d_Re_leap_158 : decode b_Re_leap 158 = .ok (.goto (-113), 3) := by decide +kernel
theorem d_Re_leap_161 : decode b_Re_leap 161 = .ok (.lload 8, 2) := by decide +kernel
theorem d_Re_leap_163 : decode b_Re_leap 163 = .ok (.lconst 0, 1) := by decide +kernel
theorem d_Re_leap_164 : decode b_Re_leap 164 = .ok (.lcmp, 1) := by decide +kernel
theorem d_Re_leap_165 : decode b_Re_leap 165 = .ok (.ifCond .ne 5, 3) := by decide +kernel
theorem d_Re_leap_168 : decode b_Re_leap 168 = .ok (.iconst 0, 1) := by decide +kernel
theorem d_Re_leap_169 : decode b_Re_leap 169 = .ok (.ireturn, 1) := by decide +kernel
theorem d_Re_leap_170 : decode b_Re_leap 170 = .ok (.aload_n 0, 1) := by decide +kernel
theorem d_Re_leap_171 : decode b_Re_leap 171 = .ok (.lload 6, 2) := by decide +kernel
theorem d_Re_leap_173 : decode b_Re_leap 173 = .ok (.lload 8, 2) := by decide +kernel
theorem d_Re_leap_175 : decode b_Re_leap 175 = .ok (.lload 10, 2) := by decide +kernel
theorem d_Re_leap_177 : decode b_Re_leap 177 = .ok (.lload 12, 2) := by decide +kernel
theorem d_Re_leap_179 : decode b_Re_leap 179 = .ok (.invokevirtual 172, 3) := by decide +kernel
theorem d_Re_leap_182 : decode b_Re_leap 182 = .ok (.iconst 1, 1) := by decide +kernel
theorem d_Re_leap_183 : decode b_Re_leap 183 = .ok (.ireturn, 1) := by decide +kernel
set_option maxHeartbeats 1000000 in
theorem c_Re_leap (l : Launch) {g : Gh} (nx : Nat) {R u w : Nat} (hRE : RE g R) (hu : NA g (R + 13) 20 u) (hw : NA g (R + 15) 20 w) (hwu : w ≤ u) (hbig : 9223372036854775808 ≤ u) :
    Ct l m_Re_leap 0 0 [.ref R] g nx (fun r g' nx' => nx = nx' ∧ ((r = some (.int 0) ∧ g = g') ∨ (r = some (.int 1) ∧ ∃ U V, NA g' (R + 13) 20 U ∧ NA g' (R + 15) 20 V ∧ gW g g' (R + 13) (R + 17) ∧ V < U ∧ Nat.gcd U V = Nat.gcd u w ∧ 2 * (U * V) ≤ u * w ∧ U ≤ u))) := by
  have hRE' := hRE
  unfold RE at hRE'
  obtain ⟨_, _, ⟨hu1, -⟩, -⟩ := id hu
  obtain ⟨_, _, ⟨hw1, -⟩, -⟩ := id hw
  have hbl := bl_le20 hu
  have hbl2 : 64 ≤ bl u := by
    rcases Nat.lt_or_ge (bl u) 64 with z | z
    · have := bl_iff.mp (show bl u ≤ 63 by omega)
      rw [show (2 : Nat) ^ 63 = 9223372036854775808 from rfl] at this
      omega
    · exact z
  obtain ⟨k, hk⟩ : ∃ k, bl u - 31 = k := ⟨_, rfl⟩
  have hx0 : u / 2 ^ k < 2147483648 := by
    rw [Nat.div_lt_iff_lt_mul (pw_pos k)]
    have h1 := bl_lt u
    rw [show bl u = 31 + k by omega, Nat.pow_add] at h1
    exact h1
  have hy0 : w / 2 ^ k ≤ u / 2 ^ k := Nat.div_le_div_right hwu
  have hK : (0 : Int) < ((2 ^ k : Nat) : Int) := by have := pw_pos k; omega
  have hue : (u : Int) = ((u / 2 ^ k : Nat) : Int) * ((2 ^ k : Nat) : Int) + ((u % 2 ^ k : Nat) : Int) := by
    rw [← Int.natCast_mul, ← Int.natCast_add, Nat.mul_comm, Nat.div_add_mod]
  have hwe : (w : Int) = ((w / 2 ^ k : Nat) : Int) * ((2 ^ k : Nat) : Int) + ((w % 2 ^ k : Nat) : Int) := by
    rw [← Int.natCast_mul, ← Int.natCast_add, Nat.mul_comm, Nat.div_add_mod]
  have hm1 := Nat.mod_lt u (pw_pos k)
  have hm2 := Nat.mod_lt w (pw_pos k)
  obtain ⟨x0, hx0e⟩ : ∃ x0, u / 2 ^ k = x0 := ⟨_, rfl⟩
  obtain ⟨y0, hy0e⟩ : ∃ y0, w / 2 ^ k = y0 := ⟨_, rfl⟩
  rw [hx0e] at hx0 hy0 hue
  rw [hy0e] at hy0 hwe
  refine Ct.of (by decide) (Nat.le_of_ble_eq_true rfl) (fun E hE hQ => ?_)
  have out : ∀ (x y a b c d : Int) (U V : Nat), lpI u w x0 y0 x y a b c d U V → ∀ lv, lG lv 0 = some (.ref R) → lG lv 6 = some (.long (iL a)) → lG lv 8 = some (.long (iL b)) → lG lv 10 = some (.long (iL c)) → lG lv 12 = some (.long (iL d)) → zJ E g nx 0 0 161 lv [] := by
    intro x y a b c d U V hI lv l0 l6 l8 l10 l12
    refine z_sub (lv' := [(0, .ref R), (6, .long (iL a)), (8, .long (iL b)), (10, .long (iL c)), (12, .long (iL d))]) (by simp only [List.map, l0, l6, l8, l10, l12]) ?_
    obtain ⟨-, ⟨hU, hV⟩, hsg, ⟨ba, bb, bc, bd⟩, -, -, hVU, hg, hpr⟩ := hI
    refine z_lload hE d_Re_leap_161 rfl ?_
    refine z_lconst (v := iL 0) hE d_Re_leap_163 (by decide) ?_
    refine z_lcmp hE d_Re_leap_164 ?_
    refine z_if_ne (tgt := 170) hE d_Re_leap_165 (by decide) (fun c_165 => ?_) (fun c_165 => ?_)
    · rw [lg_cmp_eq, iL_eq (by omega) (by omega) (by omega) (by omega)] at c_165
      rcases hpr with ⟨z, -, -⟩ | ⟨z1, z2, z3⟩
      · exact absurd z c_165
      · refine z_aload_n hE d_Re_leap_170 rfl ?_
        refine z_lload hE d_Re_leap_171 rfl ?_
        refine z_lload hE d_Re_leap_173 rfl ?_
        refine z_lload hE d_Re_leap_175 rfl ?_
        refine z_lload hE d_Re_leap_177 rfl ?_
        refine z_callV hE d_Re_leap_179 cl_Re_172 (c_Re_mix l nx hRE hu hw hwu ba.1 ba.2 bb.1 bb.2 (by omega) bc.1 bc.2 bd.1 bd.2 (by omega) hU hV z3 (by omega)) (by assumption) cb_Re rfl (Nat.le_of_ble_eq_true rfl) ⟨by decide, by decide⟩ ⟨by omega, by omega⟩ (fun r_1 g_1 nx_1 hp_1 => ?_) rfl
        try dsimp only [Option.toList, List.nil_append, List.cons_append]
        obtain ⟨rfl, rfl, hA, hB, hWW⟩ := hp_1
        try dsimp only [Option.toList, List.nil_append, List.cons_append]
        refine z_iconst (v := 1) hE d_Re_leap_182 (by decide) ?_
        exact z_zret hE hQ d_Re_leap_183 rfl (Nat.le_refl _) (Nat.le_refl _) (Or.inr rfl) ⟨rfl, Or.inr ⟨rfl, U, V, hA, hB, hWW, z2, hg, z1, z3⟩⟩
    · refine z_iconst (v := 0) hE d_Re_leap_168 (by decide) ?_
      exact z_zret hE hQ d_Re_leap_169 rfl (Nat.le_refl _) (Nat.le_refl _) (Or.inl rfl) ⟨rfl, Or.inl ⟨rfl, rfl⟩⟩
  have loop : ∀ (t i : Nat) (x y a b c d : Int) (U V : Nat), i + t = 1000000 → lpI u w x0 y0 x y a b c d U V → ∀ lv, lG lv 0 = some (.ref R) → lG lv 2 = some (.long (iL x)) → lG lv 4 = some (.long (iL y)) → lG lv 6 = some (.long (iL a)) → lG lv 8 = some (.long (iL b)) → lG lv 10 = some (.long (iL c)) → lG lv 12 = some (.long (iL d)) → lG lv 14 = some (.int (nI i)) → zJ E g nx 0 0 45 lv [] := by
    intro t
    induction t with
    | zero =>
      intro i x y a b c d U V hi hI lv l0 l2 l4 l6 l8 l10 l12 l14
      refine z_sub (lv' := [(0, .ref R), (2, .long (iL x)), (4, .long (iL y)), (6, .long (iL a)), (8, .long (iL b)), (10, .long (iL c)), (12, .long (iL d)), (14, .int (nI i))]) (by simp only [List.map, l0, l2, l4, l6, l8, l10, l12, l14]) ?_
      refine z_iload hE d_Re_leap_45 rfl ?_
      refine z_ldc hE d_Re_leap_47 cn_Re_142 ?_
      refine z_icmp_ge (tgt := 161) hE d_Re_leap_49 (by decide) (fun c_49 => ?_) (fun c_49 => ?_)
      · exact out x y a b c d U V hI _ rfl rfl rfl rfl rfl
      · rw [show (1000000 : Int32) = nI 1000000 from rfl, nI_LE (by omega) (by omega)] at c_49
        omega
    | succ t ih =>
      intro i x y a b c d U V hi hI lv l0 l2 l4 l6 l8 l10 l12 l14
      refine z_sub (lv' := [(0, .ref R), (2, .long (iL x)), (4, .long (iL y)), (6, .long (iL a)), (8, .long (iL b)), (10, .long (iL c)), (12, .long (iL d)), (14, .int (nI i))]) (by simp only [List.map, l0, l2, l4, l6, l8, l10, l12, l14]) ?_
      obtain ⟨-, -, -, ⟨ba, bb, bc, bd⟩, ⟨s1, s2, s3, s4⟩, ⟨bx, by'⟩, -, -, -⟩ := id hI
      refine z_iload hE d_Re_leap_45 rfl ?_
      refine z_ldc hE d_Re_leap_47 cn_Re_142 ?_
      refine z_icmp_ge (tgt := 161) hE d_Re_leap_49 (by decide) (fun c_49 => ?_) (fun c_49 => ?_)
      · exact out x y a b c d U V hI _ rfl rfl rfl rfl rfl
      · refine z_lload hE d_Re_leap_52 rfl ?_
        refine z_lload hE d_Re_leap_54 rfl ?_
        refine z_ladd (v := iL (y + c)) hE d_Re_leap_56 (iL_add _ _) ?_
        refine z_lconst (v := iL 0) hE d_Re_leap_57 (by decide) ?_
        refine z_lcmp hE d_Re_leap_58 ?_
        refine z_if_eq (tgt := 161) hE d_Re_leap_59 (by decide) (fun c_59 => ?_) (fun c_59 => ?_)
        · exact out x y a b c d U V hI _ rfl rfl rfl rfl rfl
        · rw [lg_cmp_eq, iL_eq (by omega) (by omega) (by omega) (by omega)] at c_59
          refine z_lload hE d_Re_leap_62 rfl ?_
          refine z_lload hE d_Re_leap_64 rfl ?_
          refine z_ladd (v := iL (y + d)) hE d_Re_leap_66 (iL_add _ _) ?_
          refine z_lconst (v := iL 0) hE d_Re_leap_67 (by decide) ?_
          refine z_lcmp hE d_Re_leap_68 ?_
          refine z_if_eq (tgt := 161) hE d_Re_leap_69 (by decide) (fun c_69 => ?_) (fun c_69 => ?_)
          · exact out x y a b c d U V hI _ rfl rfl rfl rfl rfl
          · rw [lg_cmp_eq, iL_eq (by omega) (by omega) (by omega) (by omega)] at c_69
            refine z_lload_n hE d_Re_leap_72 rfl ?_
            refine z_lload hE d_Re_leap_73 rfl ?_
            refine z_ladd (v := iL (x + a)) hE d_Re_leap_75 (iL_add _ _) ?_
            refine z_lload hE d_Re_leap_76 rfl ?_
            refine z_lload hE d_Re_leap_78 rfl ?_
            refine z_ladd (v := iL (y + c)) hE d_Re_leap_80 (iL_add _ _) ?_
            obtain ⟨q, hq⟩ : ∃ q, q = (x + a) / (y + c) := ⟨_, rfl⟩
            obtain ⟨q', hq'⟩ : ∃ q', q' = (x + b) / (y + d) := ⟨_, rfl⟩
            have hq1 : 0 ≤ q := by rw [hq]; exact Int.ediv_nonneg s1.1 s3.1
            have hq2 : q ≤ 2147483648 := by rw [hq]; exact Int.le_trans (Int.ediv_le_self _ s1.1) s1.2
            have hq3 : 0 ≤ q' := by rw [hq']; exact Int.ediv_nonneg s2.1 s4.1
            have hq4 : q' ≤ 2147483648 := by rw [hq']; exact Int.le_trans (Int.ediv_le_self _ s2.1) s2.2
            refine z_ldiv (v := iL q) hE d_Re_leap_81 (by rw [show (0 : Int64) = iL 0 from rfl, iL_eq (by omega) (by omega) (by omega) (by omega)]; exact c_59) (by rw [hq]; exact iL_div s1.1 (by omega) (by omega) (by omega)) ?_
            refine z_lstore hE d_Re_leap_82 (by decide) ?_
            refine z_lload hE d_Re_leap_84 rfl ?_
            refine z_lload_n hE d_Re_leap_86 rfl ?_
            refine z_lload hE d_Re_leap_87 rfl ?_
            refine z_ladd (v := iL (x + b)) hE d_Re_leap_89 (iL_add _ _) ?_
            refine z_lload hE d_Re_leap_90 rfl ?_
            refine z_lload hE d_Re_leap_92 rfl ?_
            refine z_ladd (v := iL (y + d)) hE d_Re_leap_94 (iL_add _ _) ?_
            refine z_ldiv (v := iL q') hE d_Re_leap_95 (by rw [show (0 : Int64) = iL 0 from rfl, iL_eq (by omega) (by omega) (by omega) (by omega)]; exact c_69) (by rw [hq']; exact iL_div s2.1 (by omega) (by omega) (by omega)) ?_
            refine z_lcmp hE d_Re_leap_96 ?_
            refine z_if_eq (tgt := 103) hE d_Re_leap_97 (by decide) (fun c_97 => ?_) (fun c_97 => ?_)
            · rw [lg_cmp_eq, iL_eq (by omega) (by omega) (by omega) (by omega)] at c_97
              obtain ⟨V', hI'⟩ := lpI_step hK (by omega) (by omega) (by omega) (by omega) hue hwe hI c_59 c_69 hq (by rw [c_97]; exact hq')
              refine z_lload hE d_Re_leap_103 rfl ?_
              refine z_lload hE d_Re_leap_105 rfl ?_
              refine z_lload hE d_Re_leap_107 rfl ?_
              refine z_lmul (v := iL (q * c)) hE d_Re_leap_109 (iL_mul _ _) ?_
              refine z_lsub (v := iL (a - q * c)) hE d_Re_leap_110 (iL_sub _ _) ?_
              refine z_lstore hE d_Re_leap_111 (by decide) ?_
              refine z_lload hE d_Re_leap_113 rfl ?_
              refine z_lload hE d_Re_leap_115 rfl ?_
              refine z_lload hE d_Re_leap_117 rfl ?_
              refine z_lmul (v := iL (q * d)) hE d_Re_leap_119 (iL_mul _ _) ?_
              refine z_lsub (v := iL (b - q * d)) hE d_Re_leap_120 (iL_sub _ _) ?_
              refine z_lstore hE d_Re_leap_121 (by decide) ?_
              refine z_lload_n hE d_Re_leap_123 rfl ?_
              refine z_lload hE d_Re_leap_124 rfl ?_
              refine z_lload hE d_Re_leap_126 rfl ?_
              refine z_lmul (v := iL (q * y)) hE d_Re_leap_128 (iL_mul _ _) ?_
              refine z_lsub (v := iL (x - q * y)) hE d_Re_leap_129 (iL_sub _ _) ?_
              refine z_lstore hE d_Re_leap_130 (by decide) ?_
              refine z_lload hE d_Re_leap_132 rfl ?_
              refine z_lstore hE d_Re_leap_134 (by decide) ?_
              refine z_lload hE d_Re_leap_136 rfl ?_
              refine z_lstore hE d_Re_leap_138 (by decide) ?_
              refine z_lload hE d_Re_leap_140 rfl ?_
              refine z_lstore_n hE d_Re_leap_142 rfl (by decide) ?_
              refine z_lload hE d_Re_leap_143 rfl ?_
              refine z_lstore hE d_Re_leap_145 (by decide) ?_
              refine z_lload hE d_Re_leap_147 rfl ?_
              refine z_lstore hE d_Re_leap_149 (by decide) ?_
              refine z_lload hE d_Re_leap_151 rfl ?_
              refine z_lstore hE d_Re_leap_153 (by decide) ?_
              refine z_iinc (v := nI (i + 1)) hE d_Re_leap_155 rfl (nI_1 i) (by decide) ?_
              refine z_goto (tgt := 45) hE d_Re_leap_158 (by decide) ?_
              exact ih (i + 1) _ _ _ _ _ _ _ _ (by omega) hI' _ rfl rfl rfl rfl rfl rfl rfl rfl
            · refine z_goto (tgt := 161) hE d_Re_leap_100 (by decide) ?_
              exact out x y a b c d U V hI _ rfl rfl rfl rfl rfl
  refine z_aload_n hE d_Re_leap_0 rfl ?_
  refine z_get hE d_Re_leap_1 fl_Re_30 (by assumption) rfl ?_
  refine z_callV hE d_Re_leap_4 cl_Re_164 (c_Na_countBits l nx hu) (by assumption) cb_Na rfl (Nat.le_of_ble_eq_true rfl) ⟨by decide, by decide⟩ ⟨by omega, by omega⟩ (fun r_4 g_4 nx_4 hp_4 => ?_) rfl
  obtain ⟨rfl, rfl, rfl⟩ := hp_4
  try dsimp only [Option.toList, List.nil_append, List.cons_append]
  refine z_bipush (v := nI 31) hE d_Re_leap_7 (by decide) ?_
  refine z_isub (v := nI k) hE d_Re_leap_9 (by rw [← hk]; exact pk_sub (by omega)) ?_
  refine z_istore_n hE d_Re_leap_10 rfl (by decide) ?_
  refine z_aload_n hE d_Re_leap_11 rfl ?_
  refine z_get hE d_Re_leap_12 fl_Re_30 (by assumption) rfl ?_
  refine z_iload_n hE d_Re_leap_15 rfl ?_
  refine z_callV hE d_Re_leap_16 cl_Re_168 (c_Na_bitsFrom l nx hu k (by omega)) (by assumption) cb_Na rfl (Nat.le_of_ble_eq_true rfl) ⟨by decide, by decide⟩ ⟨by omega, by omega⟩ (fun r_16 g_16 nx_16 hp_16 => ?_) rfl
  obtain ⟨rfl, rfl, rfl⟩ := hp_16
  try dsimp only [Option.toList, List.nil_append, List.cons_append]
  rw [hx0e, Nat.mod_eq_of_lt (show x0 < 4294967296 by omega), ← iL_n]
  refine z_lstore_n hE d_Re_leap_19 rfl (by decide) ?_
  refine z_aload_n hE d_Re_leap_20 rfl ?_
  refine z_get hE d_Re_leap_21 fl_Re_34 (by assumption) rfl ?_
  refine z_iload_n hE d_Re_leap_24 rfl ?_
  refine z_callV hE d_Re_leap_25 cl_Re_168 (c_Na_bitsFrom l nx hw k (by omega)) (by assumption) cb_Na rfl (Nat.le_of_ble_eq_true rfl) ⟨by decide, by decide⟩ ⟨by omega, by omega⟩ (fun r_25 g_25 nx_25 hp_25 => ?_) rfl
  obtain ⟨rfl, rfl, rfl⟩ := hp_25
  try dsimp only [Option.toList, List.nil_append, List.cons_append]
  rw [hy0e, Nat.mod_eq_of_lt (show y0 < 4294967296 by omega), ← iL_n]
  refine z_lstore hE d_Re_leap_28 (by decide) ?_
  refine z_lconst (v := iL 1) hE d_Re_leap_30 (by decide) ?_
  refine z_lstore hE d_Re_leap_31 (by decide) ?_
  refine z_lconst (v := iL 0) hE d_Re_leap_33 (by decide) ?_
  refine z_lstore hE d_Re_leap_34 (by decide) ?_
  refine z_lconst (v := iL 0) hE d_Re_leap_36 (by decide) ?_
  refine z_lstore hE d_Re_leap_37 (by decide) ?_
  refine z_lconst (v := iL 1) hE d_Re_leap_39 (by decide) ?_
  refine z_lstore hE d_Re_leap_40 (by decide) ?_
  refine z_iconst (v := nI 0) hE d_Re_leap_42 (by decide) ?_
  refine z_istore hE d_Re_leap_43 (by decide) ?_
  refine loop 1000000 0 x0 y0 1 0 0 1 u w (by omega) ⟨⟨by omega, by omega⟩, ⟨by omega, by omega⟩, Or.inl ⟨by omega, by omega, by omega, by omega⟩, ⟨by omega, by omega, by omega, by omega⟩, ⟨by omega, by omega, by omega, by omega⟩, ⟨by omega, by omega⟩, hwu, rfl, Or.inl ⟨rfl, rfl, rfl⟩⟩ _ rfl rfl rfl rfl rfl rfl rfl rfl

