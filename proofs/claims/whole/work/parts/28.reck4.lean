/-! Reckoner: products, sums -/
theorem w818 : (4294967296 : Nat) ^ 8 ≤ 4294967296 ^ 18 := pw_ge (by decide)
theorem d_Re_multiply_0 : decode b_Re_multiply 0 = .ok (.aload_n 0, 1) := by decide +kernel
theorem d_Re_multiply_1 : decode b_Re_multiply 1 = .ok (.aload_n 2, 1) := by decide +kernel
theorem d_Re_multiply_2 : decode b_Re_multiply 2 = .ok (.getfield 67, 3) := by decide +kernel
theorem d_Re_multiply_5 : decode b_Re_multiply 5 = .ok (.aload 4, 2) := by decide +kernel
theorem d_Re_multiply_7 : decode b_Re_multiply 7 = .ok (.invokevirtual 63, 3) := by decide +kernel
theorem d_Re_multiply_10 : decode b_Re_multiply 10 = .ok (.aload_n 0, 1) := by decide +kernel
theorem d_Re_multiply_11 : decode b_Re_multiply 11 = .ok (.aload_n 2, 1) := by decide +kernel
theorem d_Re_multiply_12 : decode b_Re_multiply 12 = .ok (.getfield 67, 3) := by decide +kernel
theorem d_Re_multiply_15 : decode b_Re_multiply 15 = .ok (.aload_n 0, 1) := by decide +kernel
theorem d_Re_multiply_16 : decode b_Re_multiply 16 = .ok (.getfield 30, 3) := by decide +kernel
theorem d_Re_multiply_19 : decode b_Re_multiply 19 = .ok (.aload_n 0, 1) := by decide +kernel
theorem d_Re_multiply_20 : decode b_Re_multiply 20 = .ok (.getfield 37, 3) := by decide +kernel
theorem d_Re_multiply_23 : decode b_Re_multiply 23 = .ok (.invokevirtual 70, 3) := by decide +kernel
theorem d_Re_multiply_26 : decode b_Re_multiply 26 = .ok (.aload_n 0, 1) := by decide +kernel
theorem d_Re_multiply_27 : decode b_Re_multiply 27 = .ok (.aload 4, 2) := by decide +kernel
theorem d_Re_multiply_29 : decode b_Re_multiply 29 = .ok (.aload_n 0, 1) := by decide +kernel
theorem d_Re_multiply_30 : decode b_Re_multiply 30 = .ok (.getfield 30, 3) := by decide +kernel
theorem d_Re_multiply_33 : decode b_Re_multiply 33 = .ok (.aload_n 0, 1) := by decide +kernel
theorem d_Re_multiply_34 : decode b_Re_multiply 34 = .ok (.getfield 46, 3) := by decide +kernel
theorem d_Re_multiply_37 : decode b_Re_multiply 37 = .ok (.invokevirtual 70, 3) := by decide +kernel
theorem d_Re_multiply_40 : decode b_Re_multiply 40 = .ok (.aload_n 0, 1) := by decide +kernel
theorem d_Re_multiply_41 : decode b_Re_multiply 41 = .ok (.aload_n 3, 1) := by decide +kernel
theorem d_Re_multiply_42 : decode b_Re_multiply 42 = .ok (.aload_n 2, 1) := by decide +kernel
theorem d_Re_multiply_43 : decode b_Re_multiply 43 = .ok (.getfield 74, 3) := by decide +kernel
theorem d_Re_multiply_46 : decode b_Re_multiply 46 = .ok (.invokevirtual 63, 3) := by decide +kernel
theorem d_Re_multiply_49 : decode b_Re_multiply 49 = .ok (.aload_n 0, 1) := by decide +kernel
theorem d_Re_multiply_50 : decode b_Re_multiply 50 = .ok (.aload_n 3, 1) := by decide +kernel
theorem d_Re_multiply_51 : decode b_Re_multiply 51 = .ok (.aload_n 0, 1) := by decide +kernel
theorem d_Re_multiply_52 : decode b_Re_multiply 52 = .ok (.getfield 30, 3) := by decide +kernel
theorem d_Re_multiply_55 : decode b_Re_multiply 55 = .ok (.aload_n 0, 1) := by decide +kernel
theorem d_Re_multiply_56 : decode b_Re_multiply 56 = .ok (.getfield 40, 3) := by decide +kernel
theorem d_Re_multiply_59 : decode b_Re_multiply 59 = .ok (.invokevirtual 70, 3) := by decide +kernel
theorem d_Re_multiply_62 : decode b_Re_multiply 62 = .ok (.aload_n 0, 1) := by decide +kernel
theorem d_Re_multiply_63 : decode b_Re_multiply 63 = .ok (.aload_n 2, 1) := by decide +kernel
theorem d_Re_multiply_64 : decode b_Re_multiply 64 = .ok (.getfield 74, 3) := by decide +kernel
theorem d_Re_multiply_67 : decode b_Re_multiply 67 = .ok (.aload_n 0, 1) := by decide +kernel
theorem d_Re_multiply_68 : decode b_Re_multiply 68 = .ok (.getfield 30, 3) := by decide +kernel
theorem d_Re_multiply_71 : decode b_Re_multiply 71 = .ok (.aload_n 0, 1) := by decide +kernel
theorem d_Re_multiply_72 : decode b_Re_multiply 72 = .ok (.getfield 43, 3) := by decide +kernel
theorem d_Re_multiply_75 : decode b_Re_multiply 75 = .ok (.invokevirtual 70, 3) := by decide +kernel
theorem d_Re_multiply_78 : decode b_Re_multiply 78 = .ok (.aload_n 0, 1) := by decide +kernel
theorem d_Re_multiply_79 : decode b_Re_multiply 79 = .ok (.getfield 14, 3) := by decide +kernel
theorem d_Re_multiply_82 : decode b_Re_multiply 82 = .ok (.iload_n 1, 1) := by decide +kernel
theorem d_Re_multiply_83 : decode b_Re_multiply 83 = .ok (.putfield 55, 3) := by decide +kernel
theorem d_Re_multiply_86 : decode b_Re_multiply 86 = .ok (.aload_n 0, 1) := by decide +kernel
theorem d_Re_multiply_87 : decode b_Re_multiply 87 = .ok (.getfield 14, 3) := by decide +kernel
theorem d_Re_multiply_90 : decode b_Re_multiply 90 = .ok (.getfield 67, 3) := by decide +kernel
theorem d_Re_multiply_93 : decode b_Re_multiply 93 = .ok (.aload_n 0, 1) := by decide +kernel
theorem d_Re_multiply_94 : decode b_Re_multiply 94 = .ok (.getfield 37, 3) := by decide +kernel
theorem d_Re_multiply_97 : decode b_Re_multiply 97 = .ok (.aload_n 0, 1) := by decide +kernel
theorem d_Re_multiply_98 : decode b_Re_multiply 98 = .ok (.getfield 40, 3) := by decide +kernel
theorem d_Re_multiply_101 : decode b_Re_multiply 101 = .ok (.invokevirtual 77, 3) := by decide +kernel
theorem d_Re_multiply_104 : decode b_Re_multiply 104 = .ok (.aload_n 0, 1) := by decide +kernel
theorem d_Re_multiply_105 : decode b_Re_multiply 105 = .ok (.getfield 14, 3) := by decide +kernel
theorem d_Re_multiply_108 : decode b_Re_multiply 108 = .ok (.getfield 74, 3) := by decide +kernel
theorem d_Re_multiply_111 : decode b_Re_multiply 111 = .ok (.aload_n 0, 1) := by decide +kernel
theorem d_Re_multiply_112 : decode b_Re_multiply 112 = .ok (.getfield 43, 3) := by decide +kernel
theorem d_Re_multiply_115 : decode b_Re_multiply 115 = .ok (.aload_n 0, 1) := by decide +kernel
theorem d_Re_multiply_116 : decode b_Re_multiply 116 = .ok (.getfield 46, 3) := by decide +kernel
theorem d_Re_multiply_119 : decode b_Re_multiply 119 = .ok (.invokevirtual 77, 3) := by decide +kernel
theorem d_Re_multiply_122 : decode b_Re_multiply 122 = .ok (.return_, 1) := by decide +kernel
theorem d_Re_add_0 : decode b_Re_add 0 = .ok (.aload_n 0, 1) := by decide +kernel
theorem d_Re_add_1 : decode b_Re_add 1 = .ok (.aload_n 1, 1) := by decide +kernel
theorem d_Re_add_2 : decode b_Re_add 2 = .ok (.getfield 74, 3) := by decide +kernel
theorem d_Re_add_5 : decode b_Re_add 5 = .ok (.aload_n 2, 1) := by decide +kernel
theorem d_Re_add_6 : decode b_Re_add 6 = .ok (.getfield 74, 3) := by decide +kernel
theorem d_Re_add_9 : decode b_Re_add 9 = .ok (.invokevirtual 63, 3) := by decide +kernel
theorem d_Re_add_12 : decode b_Re_add 12 = .ok (.aload_n 0, 1) := by decide +kernel
theorem d_Re_add_13 : decode b_Re_add 13 = .ok (.aload_n 1, 1) := by decide +kernel
theorem d_Re_add_14 : decode b_Re_add 14 = .ok (.getfield 74, 3) := by decide +kernel
theorem d_Re_add_17 : decode b_Re_add 17 = .ok (.aload_n 0, 1) := by decide +kernel
theorem d_Re_add_18 : decode b_Re_add 18 = .ok (.getfield 30, 3) := by decide +kernel
theorem d_Re_add_21 : decode b_Re_add 21 = .ok (.aload_n 0, 1) := by decide +kernel
theorem d_Re_add_22 : decode b_Re_add 22 = .ok (.getfield 43, 3) := by decide +kernel
theorem d_Re_add_25 : decode b_Re_add 25 = .ok (.invokevirtual 70, 3) := by decide +kernel
theorem d_Re_add_28 : decode b_Re_add 28 = .ok (.aload_n 0, 1) := by decide +kernel
theorem d_Re_add_29 : decode b_Re_add 29 = .ok (.aload_n 2, 1) := by decide +kernel
theorem d_Re_add_30 : decode b_Re_add 30 = .ok (.getfield 74, 3) := by decide +kernel
theorem d_Re_add_33 : decode b_Re_add 33 = .ok (.aload_n 0, 1) := by decide +kernel
theorem d_Re_add_34 : decode b_Re_add 34 = .ok (.getfield 30, 3) := by decide +kernel
theorem d_Re_add_37 : decode b_Re_add 37 = .ok (.aload_n 0, 1) := by decide +kernel
theorem d_Re_add_38 : decode b_Re_add 38 = .ok (.getfield 46, 3) := by decide +kernel
theorem d_Re_add_41 : decode b_Re_add 41 = .ok (.invokevirtual 70, 3) := by decide +kernel
theorem d_Re_add_44 : decode b_Re_add 44 = .ok (.aload_n 0, 1) := by decide +kernel
theorem d_Re_add_45 : decode b_Re_add 45 = .ok (.getfield 37, 3) := by decide +kernel
theorem d_Re_add_48 : decode b_Re_add 48 = .ok (.aload_n 1, 1) := by decide +kernel
theorem d_Re_add_49 : decode b_Re_add 49 = .ok (.getfield 67, 3) := by decide +kernel
theorem d_Re_add_52 : decode b_Re_add 52 = .ok (.aload_n 0, 1) := by decide +kernel
theorem d_Re_add_53 : decode b_Re_add 53 = .ok (.getfield 46, 3) := by decide +kernel
theorem d_Re_add_56 : decode b_Re_add 56 = .ok (.invokevirtual 77, 3) := by decide +kernel
theorem d_Re_add_59 : decode b_Re_add 59 = .ok (.aload_n 0, 1) := by decide +kernel
theorem d_Re_add_60 : decode b_Re_add 60 = .ok (.getfield 40, 3) := by decide +kernel
theorem d_Re_add_63 : decode b_Re_add 63 = .ok (.aload_n 2, 1) := by decide +kernel
theorem d_Re_add_64 : decode b_Re_add 64 = .ok (.getfield 67, 3) := by decide +kernel
theorem d_Re_add_67 : decode b_Re_add 67 = .ok (.aload_n 0, 1) := by decide +kernel
theorem d_Re_add_68 : decode b_Re_add 68 = .ok (.getfield 43, 3) := by decide +kernel
theorem d_Re_add_71 : decode b_Re_add 71 = .ok (.invokevirtual 77, 3) := by decide +kernel
theorem d_Re_add_74 : decode b_Re_add 74 = .ok (.aload_n 0, 1) := by decide +kernel
theorem d_Re_add_75 : decode b_Re_add 75 = .ok (.getfield 14, 3) := by decide +kernel
theorem d_Re_add_78 : decode b_Re_add 78 = .ok (.aload_n 0, 1) := by decide +kernel
theorem d_Re_add_79 : decode b_Re_add 79 = .ok (.aload_n 1, 1) := by decide +kernel
theorem d_Re_add_80 : decode b_Re_add 80 = .ok (.getfield 55, 3) := by decide +kernel
theorem d_Re_add_83 : decode b_Re_add 83 = .ok (.iload_n 3, 1) := by decide +kernel
theorem d_Re_add_84 : decode b_Re_add 84 = .ok (.invokevirtual 80, 3) := by decide +kernel
theorem d_Re_add_87 : decode b_Re_add 87 = .ok (.putfield 55, 3) := by decide +kernel
theorem d_Re_add_90 : decode b_Re_add 90 = .ok (.aload_n 0, 1) := by decide +kernel
theorem d_Re_add_91 : decode b_Re_add 91 = .ok (.getfield 40, 3) := by decide +kernel
theorem d_Re_add_94 : decode b_Re_add 94 = .ok (.aload_n 0, 1) := by decide +kernel
theorem d_Re_add_95 : decode b_Re_add 95 = .ok (.getfield 30, 3) := by decide +kernel
theorem d_Re_add_98 : decode b_Re_add 98 = .ok (.invokevirtual 84, 3) := by decide +kernel
theorem d_Re_add_101 : decode b_Re_add 101 = .ok (.aload_n 0, 1) := by decide +kernel
theorem d_Re_add_102 : decode b_Re_add 102 = .ok (.aload_n 0, 1) := by decide +kernel
theorem d_Re_add_103 : decode b_Re_add 103 = .ok (.getfield 37, 3) := by decide +kernel
theorem d_Re_add_106 : decode b_Re_add 106 = .ok (.aload_n 0, 1) := by decide +kernel
theorem d_Re_add_107 : decode b_Re_add 107 = .ok (.getfield 40, 3) := by decide +kernel
theorem d_Re_add_110 : decode b_Re_add 110 = .ok (.invokevirtual 63, 3) := by decide +kernel
theorem d_Re_add_113 : decode b_Re_add 113 = .ok (.aload_n 0, 1) := by decide +kernel
theorem d_Re_add_114 : decode b_Re_add 114 = .ok (.aload_n 0, 1) := by decide +kernel
theorem d_Re_add_115 : decode b_Re_add 115 = .ok (.getfield 37, 3) := by decide +kernel
theorem d_Re_add_118 : decode b_Re_add 118 = .ok (.aload_n 0, 1) := by decide +kernel
theorem d_Re_add_119 : decode b_Re_add 119 = .ok (.getfield 30, 3) := by decide +kernel
theorem d_Re_add_122 : decode b_Re_add 122 = .ok (.aload_n 0, 1) := by decide +kernel
theorem d_Re_add_123 : decode b_Re_add 123 = .ok (.getfield 14, 3) := by decide +kernel
theorem d_Re_add_126 : decode b_Re_add 126 = .ok (.getfield 67, 3) := by decide +kernel
theorem d_Re_add_129 : decode b_Re_add 129 = .ok (.invokevirtual 70, 3) := by decide +kernel
theorem d_Re_add_132 : decode b_Re_add 132 = .ok (.aload_n 0, 1) := by decide +kernel
theorem d_Re_add_133 : decode b_Re_add 133 = .ok (.aload_n 2, 1) := by decide +kernel
theorem d_Re_add_134 : decode b_Re_add 134 = .ok (.getfield 74, 3) := by decide +kernel
theorem d_Re_add_137 : decode b_Re_add 137 = .ok (.aload_n 0, 1) := by decide +kernel
theorem d_Re_add_138 : decode b_Re_add 138 = .ok (.getfield 30, 3) := by decide +kernel
theorem d_Re_add_141 : decode b_Re_add 141 = .ok (.aload_n 0, 1) := by decide +kernel
theorem d_Re_add_142 : decode b_Re_add 142 = .ok (.getfield 40, 3) := by decide +kernel
theorem d_Re_add_145 : decode b_Re_add 145 = .ok (.invokevirtual 70, 3) := by decide +kernel
theorem d_Re_add_148 : decode b_Re_add 148 = .ok (.aload_n 0, 1) := by decide +kernel
theorem d_Re_add_149 : decode b_Re_add 149 = .ok (.getfield 14, 3) := by decide +kernel
theorem d_Re_add_152 : decode b_Re_add 152 = .ok (.getfield 74, 3) := by decide +kernel
theorem d_Re_add_155 : decode b_Re_add 155 = .ok (.aload_n 0, 1) := by decide +kernel
theorem d_Re_add_156 : decode b_Re_add 156 = .ok (.getfield 43, 3) := by decide +kernel
theorem d_Re_add_159 : decode b_Re_add 159 = .ok (.aload_n 0, 1) := by decide +kernel
theorem d_Re_add_160 : decode b_Re_add 160 = .ok (.getfield 40, 3) := by decide +kernel
theorem d_Re_add_163 : decode b_Re_add 163 = .ok (.invokevirtual 77, 3) := by decide +kernel
theorem d_Re_add_166 : decode b_Re_add 166 = .ok (.return_, 1) := by decide +kernel
set_option maxHeartbeats 1000000 in
theorem c_Re_multiply (l : Launch) {g : Gh} (nx : Nat) {R f p q N M Np Nq aa ab x y : Nat} {sg s sa : Int32} {v : Nat → Nat} (hV : RV g R sg v) (hf : FR g f N M sa aa ab) (hp : NA g p Np x) (hq : NA g q Nq y) (hfo : f + 5 ≤ R ∨ R + 25 ≤ f) (hpo : p + 2 ≤ R ∨ R + 25 ≤ p) (hqo : q + 2 ≤ R ∨ R + 25 ≤ q) (b1 : aa < 4294967296 ^ 8) (b2 : ab < 4294967296 ^ 8) (b3 : x < 4294967296 ^ 8) (b4 : y < 4294967296 ^ 8) (hab : ab ≠ 0) (hy : y ≠ 0) : Ct l m_Re_multiply 0 0 [.ref R, .int s, .ref f, .ref p, .ref q] g nx (fun r g' nx' => r = none ∧ nx = nx' ∧ gW g g' R (R + 25) ∧ ∃ v', RV g' R s v' ∧ v' 2 = aa / Nat.gcd aa y * (x / Nat.gcd x ab) ∧ v' 4 = ab / Nat.gcd x ab * (y / Nat.gcd aa y)) := by
  have w8 := w818
  obtain ⟨f1, f2, f3⟩ := id hf
  have r1 := hV.1
  unfold RE at r1
  have g1n : Nat.gcd aa y ≠ 0 := by have := Nat.gcd_pos_of_pos_right aa (Nat.pos_of_ne_zero hy); omega
  have g2n : Nat.gcd x ab ≠ 0 := by have := Nat.gcd_pos_of_pos_right x (Nat.pos_of_ne_zero hab); omega
  refine Ct.of (by decide) (Nat.le_of_ble_eq_true rfl) (fun E hE hQ => ?_)
  refine z_aload_n hE d_Re_multiply_0 rfl ?_
  refine z_aload_n hE d_Re_multiply_1 rfl ?_
  refine z_getN hE d_Re_multiply_2 fl_Re_67 (by assumption) rfl ?_
  refine z_aload hE d_Re_multiply_5 rfl ?_
  refine z_callV hE d_Re_multiply_7 cl_Re_63 (c_Re_findCommon l nx (RV_RF hV) ⟨_, hV.2.2.2 13 (by decide)⟩ ⟨_, hV.2.2.2 15 (by decide)⟩ f2 hq (by omega) (by omega) (by omega) (by omega)) (by assumption) cb_Re rfl (Nat.le_of_ble_eq_true rfl) ⟨by decide, by decide⟩ ⟨by omega, by omega⟩ (fun r_1 g_1 nx_1 hp_1 => ?_) rfl
  try dsimp only [Option.toList, List.nil_append, List.cons_append]
  obtain ⟨rfl, rfl, c13, c15, cF, cW⟩ := hp_1
  try dsimp only [Option.toList, List.nil_append, List.cons_append]
  obtain ⟨v1, V1, e13, -, -, -, -, -, -⟩ := RV_C hV c13 c15 cF cW
  have w1 : gW g g_1 R (R + 25) := gW_le cW (by omega) (by omega)
  obtain ⟨i1, i2, i3⟩ := id (FR_W hf w1 (by omega))
  have m1 := V1.1
  unfold RE at m1
  refine z_aload_n hE d_Re_multiply_10 rfl ?_
  refine z_aload_n hE d_Re_multiply_11 rfl ?_
  refine z_getN hE d_Re_multiply_12 fl_Re_67 (by assumption) rfl ?_
  refine z_aload_n hE d_Re_multiply_15 rfl ?_
  refine z_get hE d_Re_multiply_16 fl_Re_30 (by assumption) rfl ?_
  refine z_aload_n hE d_Re_multiply_19 rfl ?_
  refine z_get hE d_Re_multiply_20 fl_Re_37 (by assumption) rfl ?_
  refine z_callV hE d_Re_multiply_23 cl_Re_70 (c_Re_divideInto l nx (RV_RF V1) i2 c13 (V1.2.2.2 17 (by decide)) (by omega) (by omega) (by omega) (by omega) (by omega) g1n) (by assumption) cb_Re rfl (Nat.le_of_ble_eq_true rfl) ⟨by decide, by decide⟩ ⟨by omega, by omega⟩ (fun r_2 g_2 nx_2 hp_2 => ?_) rfl
  try dsimp only [Option.toList, List.nil_append, List.cons_append]
  obtain ⟨rfl, rfl, dA, dF, gi, dW, dO⟩ := hp_2
  try dsimp only [Option.toList, List.nil_append, List.cons_append]
  obtain ⟨v2, V2, e17, eo2, dW'⟩ := RV_D V1 (by decide) (by decide) dA dF dW dO
  have w2 : gW g g_2 R (R + 25) := gW_t w1 (gW_le dW' (by split <;> omega) (by omega))
  have q2 := NA_W hq w2 (by omega)
  have k13 := V2.2.2.2 13 (by decide)
  rw [eo2 13 (by decide) (by decide), e13] at k13
  have m1 := V2.1
  unfold RE at m1
  refine z_aload_n hE d_Re_multiply_26 rfl ?_
  refine z_aload hE d_Re_multiply_27 rfl ?_
  refine z_aload_n hE d_Re_multiply_29 rfl ?_
  refine z_get hE d_Re_multiply_30 fl_Re_30 (by assumption) rfl ?_
  refine z_aload_n hE d_Re_multiply_33 rfl ?_
  refine z_get hE d_Re_multiply_34 fl_Re_46 (by assumption) rfl ?_
  refine z_callV hE d_Re_multiply_37 cl_Re_70 (c_Re_divideInto l nx (RV_RF V2) q2 k13 (V2.2.2.2 23 (by decide)) (by omega) (by omega) (by omega) (by omega) (by omega) g1n) (by assumption) cb_Re rfl (Nat.le_of_ble_eq_true rfl) ⟨by decide, by decide⟩ ⟨by omega, by omega⟩ (fun r_3 g_3 nx_3 hp_3 => ?_) rfl
  try dsimp only [Option.toList, List.nil_append, List.cons_append]
  obtain ⟨rfl, rfl, dA3, dF3, gi3, dW3, dO3⟩ := hp_3
  try dsimp only [Option.toList, List.nil_append, List.cons_append]
  obtain ⟨v3, V3, e23, eo3, dW3'⟩ := RV_D V2 (by decide) (by decide) dA3 dF3 dW3 dO3
  have w3 : gW g g_3 R (R + 25) := gW_t w2 (gW_le dW3' (by split <;> omega) (by omega))
  have p3 := NA_W hp w3 (by omega)
  obtain ⟨j1, j2, j3⟩ := id (FR_W hf w3 (by omega))
  have h17 : v3 17 = aa / Nat.gcd aa y := by rw [eo3 17 (by decide) (by decide)]; exact e17
  refine z_aload_n hE d_Re_multiply_40 rfl ?_
  refine z_aload_n hE d_Re_multiply_41 rfl ?_
  refine z_aload_n hE d_Re_multiply_42 rfl ?_
  refine z_getN hE d_Re_multiply_43 fl_Re_74 (by assumption) rfl ?_
  refine z_callV hE d_Re_multiply_46 cl_Re_63 (c_Re_findCommon l nx (RV_RF V3) ⟨_, V3.2.2.2 13 (by decide)⟩ ⟨_, V3.2.2.2 15 (by decide)⟩ p3 j3 (by omega) (by omega) (by omega) (by omega)) (V3.1) cb_Re rfl (Nat.le_of_ble_eq_true rfl) ⟨by decide, by decide⟩ ⟨by omega, by omega⟩ (fun r_4 g_4 nx_4 hp_4 => ?_) rfl
  try dsimp only [Option.toList, List.nil_append, List.cons_append]
  obtain ⟨rfl, rfl, c13b, c15b, cFb, cWb⟩ := hp_4
  try dsimp only [Option.toList, List.nil_append, List.cons_append]
  obtain ⟨v4, V4, e13b, -, -, e17b, -, -, e23b⟩ := RV_C V3 c13b c15b cFb cWb
  have w4 : gW g g_4 R (R + 25) := gW_t w3 (gW_le cWb (by omega) (by omega))
  have p4 := NA_W hp w4 (by omega)
  have m1 := V4.1
  unfold RE at m1
  refine z_aload_n hE d_Re_multiply_49 rfl ?_
  refine z_aload_n hE d_Re_multiply_50 rfl ?_
  refine z_aload_n hE d_Re_multiply_51 rfl ?_
  refine z_get hE d_Re_multiply_52 fl_Re_30 (by assumption) rfl ?_
  refine z_aload_n hE d_Re_multiply_55 rfl ?_
  refine z_get hE d_Re_multiply_56 fl_Re_40 (by assumption) rfl ?_
  refine z_callV hE d_Re_multiply_59 cl_Re_70 (c_Re_divideInto l nx (RV_RF V4) p4 c13b (V4.2.2.2 19 (by decide)) (by omega) (by omega) (by omega) (by omega) (by omega) g2n) (by assumption) cb_Re rfl (Nat.le_of_ble_eq_true rfl) ⟨by decide, by decide⟩ ⟨by omega, by omega⟩ (fun r_5 g_5 nx_5 hp_5 => ?_) rfl
  try dsimp only [Option.toList, List.nil_append, List.cons_append]
  obtain ⟨rfl, rfl, dA5, dF5, gi5, dW5, dO5⟩ := hp_5
  try dsimp only [Option.toList, List.nil_append, List.cons_append]
  obtain ⟨v5, V5, e19, eo5, dW5'⟩ := RV_D V4 (by decide) (by decide) dA5 dF5 dW5 dO5
  have w5 : gW g g_5 R (R + 25) := gW_t w4 (gW_le dW5' (by split <;> omega) (by omega))
  obtain ⟨k1, k2, k3⟩ := id (FR_W hf w5 (by omega))
  have k13 := V5.2.2.2 13 (by decide)
  rw [eo5 13 (by decide) (by decide), e13b] at k13
  have m1 := V5.1
  unfold RE at m1
  refine z_aload_n hE d_Re_multiply_62 rfl ?_
  refine z_aload_n hE d_Re_multiply_63 rfl ?_
  refine z_getN hE d_Re_multiply_64 fl_Re_74 (by assumption) rfl ?_
  refine z_aload_n hE d_Re_multiply_67 rfl ?_
  refine z_get hE d_Re_multiply_68 fl_Re_30 (by assumption) rfl ?_
  refine z_aload_n hE d_Re_multiply_71 rfl ?_
  refine z_get hE d_Re_multiply_72 fl_Re_43 (by assumption) rfl ?_
  refine z_callV hE d_Re_multiply_75 cl_Re_70 (c_Re_divideInto l nx (RV_RF V5) k3 k13 (V5.2.2.2 21 (by decide)) (by omega) (by omega) (by omega) (by omega) (by omega) g2n) (by assumption) cb_Re rfl (Nat.le_of_ble_eq_true rfl) ⟨by decide, by decide⟩ ⟨by omega, by omega⟩ (fun r_6 g_6 nx_6 hp_6 => ?_) rfl
  try dsimp only [Option.toList, List.nil_append, List.cons_append]
  obtain ⟨rfl, rfl, dA6, dF6, gi6, dW6, dO6⟩ := hp_6
  try dsimp only [Option.toList, List.nil_append, List.cons_append]
  obtain ⟨v6, V6, e21, eo6, dW6'⟩ := RV_D V5 (by decide) (by decide) dA6 dF6 dW6 dO6
  have w6 : gW g g_6 R (R + 25) := gW_t w5 (gW_le dW6' (by split <;> omega) (by omega))
  have m1 := V6.1
  have m3 := V6.2.2.1
  unfold RE at m1
  refine z_aload_n hE d_Re_multiply_78 rfl ?_
  refine z_get hE d_Re_multiply_79 fl_Re_14 (by assumption) rfl ?_
  refine z_iload_n hE d_Re_multiply_82 rfl ?_
  refine z_putN hE d_Re_multiply_83 fl_Re_55 ct_Fr ff_Fr_2 (by assumption) rfl rfl (Nat.le_of_ble_eq_true rfl) ?_
  have V7 := RV_S (s' := s) V6
  obtain ⟨g7, hg7⟩ : ∃ g7, gS g_6 (R + 1) (.inr (1, [Value.ref (R + 2), .ref (R + 4), .int s])) = g7 := ⟨_, rfl⟩
  have w7 : gW g g7 R (R + 25) := by rw [← hg7]; exact gW_t w6 (gW_S (by omega) (by omega))
  rw [hg7] at V7
  show zJ E (gS g_6 (R + 1) (.inr (1, [Value.ref (R + 2), .ref (R + 4), .int s]))) nx _ _ _ _ _
  rw [hg7]
  have t17 : v6 17 = aa / Nat.gcd aa y := by rw [eo6 17 (by decide) (by decide), eo5 17 (by decide) (by decide), e17b]; exact h17
  have t19 : v6 19 = x / Nat.gcd x ab := by rw [eo6 19 (by decide) (by decide)]; exact e19
  have t23 : v6 23 = y / Nat.gcd aa y := by rw [eo6 23 (by decide) (by decide), eo5 23 (by decide) (by decide), e23b]; exact e23
  have n17 := V7.2.2.2 17 (by decide)
  have n19 := V7.2.2.2 19 (by decide)
  rw [t17] at n17
  rw [t19] at n19
  have s1 : aa / Nat.gcd aa y ≤ aa := Nat.div_le_self _ _
  have s2 : x / Nat.gcd x ab ≤ x := Nat.div_le_self _ _
  have s3 : ab / Nat.gcd x ab ≤ ab := Nat.div_le_self _ _
  have s4 : y / Nat.gcd aa y ≤ y := Nat.div_le_self _ _
  have m1 := V7.1
  have m3 := V7.2.2.1
  unfold RE at m1
  obtain ⟨_, _, K2, -⟩ := id (V7.2.2.2 2 (by decide))
  have K21 := K2.1
  refine z_aload_n hE d_Re_multiply_86 rfl ?_
  refine z_get hE d_Re_multiply_87 fl_Re_14 (by assumption) rfl ?_
  refine z_getN hE d_Re_multiply_90 fl_Re_67 (by assumption) rfl ?_
  refine z_aload_n hE d_Re_multiply_93 rfl ?_
  refine z_get hE d_Re_multiply_94 fl_Re_37 (by assumption) rfl ?_
  refine z_aload_n hE d_Re_multiply_97 rfl ?_
  refine z_get hE d_Re_multiply_98 fl_Re_40 (by assumption) rfl ?_
  refine z_callV hE d_Re_multiply_101 cl_Re_77 (c_Na_becomeProduct l nx (p := 8) (q := 8) K2 n17 n19 (by omega) (by omega) (by omega) (by omega) (by decide)) (by assumption) cb_Na rfl (Nat.le_of_ble_eq_true rfl) ⟨by decide, by decide⟩ ⟨by omega, by omega⟩ (fun r_8 g_8 nx_8 hp_8 => ?_) rfl
  try dsimp only [Option.toList, List.nil_append, List.cons_append]
  obtain ⟨rfl, rfl, hA8, hO8⟩ := hp_8
  try dsimp only [Option.toList, List.nil_append, List.cons_append]
  have V8 := RV_O V7 (by decide) hA8 hO8
  have n21 := V8.2.2.2 21 (by decide)
  have n23 := V8.2.2.2 23 (by decide)
  rw [show upN v6 2 (aa / Nat.gcd aa y * (x / Nat.gcd x ab)) 21 = ab / Nat.gcd x ab by rw [upN_n (by decide)]; exact e21] at n21
  rw [show upN v6 2 (aa / Nat.gcd aa y * (x / Nat.gcd x ab)) 23 = y / Nat.gcd aa y by rw [upN_n (by decide)]; exact t23] at n23
  have m1 := V8.1
  have m3 := V8.2.2.1
  unfold RE at m1
  obtain ⟨_, _, K4, -⟩ := id (V8.2.2.2 4 (by decide))
  have K41 := K4.1
  refine z_aload_n hE d_Re_multiply_104 rfl ?_
  refine z_get hE d_Re_multiply_105 fl_Re_14 (by assumption) rfl ?_
  refine z_getN hE d_Re_multiply_108 fl_Re_74 (by assumption) rfl ?_
  refine z_aload_n hE d_Re_multiply_111 rfl ?_
  refine z_get hE d_Re_multiply_112 fl_Re_43 (by assumption) rfl ?_
  refine z_aload_n hE d_Re_multiply_115 rfl ?_
  refine z_get hE d_Re_multiply_116 fl_Re_46 (by assumption) rfl ?_
  refine z_callV hE d_Re_multiply_119 cl_Re_77 (c_Na_becomeProduct l nx (p := 8) (q := 8) K4 n21 n23 (by omega) (by omega) (by omega) (by omega) (by decide)) (by assumption) cb_Na rfl (Nat.le_of_ble_eq_true rfl) ⟨by decide, by decide⟩ ⟨by omega, by omega⟩ (fun r_9 g_9 nx_9 hp_9 => ?_) rfl
  try dsimp only [Option.toList, List.nil_append, List.cons_append]
  obtain ⟨rfl, rfl, hA9, hO9⟩ := hp_9
  try dsimp only [Option.toList, List.nil_append, List.cons_append]
  have V9 := RV_O V8 (by decide) hA9 hO9
  refine z_vret hE hQ d_Re_multiply_122 rfl (Nat.le_refl _) (Nat.le_refl _) ⟨rfl, rfl, gW_t w7 (gW_t (gW_O hO8 (by omega) (by omega)) (gW_O hO9 (by omega) (by omega))), _, V9, ?_, upN_s⟩
  rw [upN_n (by decide), upN_s]
/-- the sum's numbers as the reckoner comes to them -/
def adD (ab bb : Nat) : Nat := Nat.gcd ab bb
def adT (sa : Int32) (aa ab : Nat) (sb : Int32) (ba bb : Nat) : Int := sv sa (aa * (bb / Nat.gcd ab bb)) + sv sb (ba * (ab / Nat.gcd ab bb))
theorem isS_mul {s : Int32} {n m : Nat} (h : isS s n) (hm : 0 < m) : isS s (n * m) := by
  rcases h with ⟨h1, h2⟩ | ⟨h1, h2⟩ | ⟨h1, h2⟩
  · left; exact ⟨h1, by rw [h2, Nat.zero_mul]⟩
  · right; left; exact ⟨h1, Nat.mul_pos h2 hm⟩
  · right; right; exact ⟨h1, Nat.mul_pos h2 hm⟩
set_option maxHeartbeats 1000000 in
theorem c_Re_add (l : Launch) {g : Gh} (nx : Nat) {R f h N M N' M' aa ab ba bb : Nat} {sg sa sb s0 : Int32} {v : Nat → Nat} (hV : RV g R sg v) (hf : FR g f N M sa aa ab) (hh : FR g h N' M' s0 ba bb) (hfo : f + 5 ≤ R + 6 ∨ R + 25 ≤ f) (hho : h + 5 ≤ R ∨ R + 25 ≤ h) (ia : isS sa aa) (ib : isS sb ba) (b1 : aa < 4294967296 ^ 8) (b2 : ab < 4294967296 ^ 8) (b3 : ba < 4294967296 ^ 8) (b4 : bb < 4294967296 ^ 8) (hab : ab ≠ 0) (hbb : bb ≠ 0) :
    Ct l m_Re_add 0 0 [.ref R, .ref f, .ref h, .int sb] g nx (fun r g' nx' => r = none ∧ nx = nx' ∧ gW g g' R (R + 25) ∧ ∃ v', RV g' R (sgI (adT sa aa ab sb ba bb)) v' ∧ v' 2 = (adT sa aa ab sb ba bb).natAbs / Nat.gcd (adT sa aa ab sb ba bb).natAbs (adD ab bb) ∧ v' 4 = ab / adD ab bb * (bb / Nat.gcd (adT sa aa ab sb ba bb).natAbs (adD ab bb))) := by
  have w8 := w818
  obtain ⟨f1, f2, f3⟩ := id hf
  obtain ⟨h1, h2, h3⟩ := id hh
  have r1 := hV.1
  unfold RE at r1
  have g1p : 0 < Nat.gcd ab bb := Nat.gcd_pos_of_pos_right ab (Nat.pos_of_ne_zero hbb)
  have g1n : Nat.gcd ab bb ≠ 0 := by omega
  obtain ⟨D, hD⟩ : ∃ D, adD ab bb = D := ⟨_, rfl⟩
  have hD' : Nat.gcd ab bb = D := hD
  have hDab : D ∣ ab := by rw [← hD']; exact Nat.gcd_dvd_left _ _
  have hDbb : D ∣ bb := by rw [← hD']; exact Nat.gcd_dvd_right _ _
  have hla : 0 < ab / D := Nat.div_pos (Nat.le_of_dvd (by omega) hDab) (by omega)
  have hrb : 0 < bb / D := Nat.div_pos (Nat.le_of_dvd (by omega) hDbb) (by omega)
  have s1 : ab / D ≤ ab := Nat.div_le_self _ _
  have s2 : bb / D ≤ bb := Nat.div_le_self _ _
  obtain ⟨T, hT⟩ : ∃ T, adT sa aa ab sb ba bb = T := ⟨_, rfl⟩
  have hT' : sv sa (aa * (bb / D)) + sv sb (ba * (ab / D)) = T := by rw [← hT, ← hD']; rfl
  rw [hD, hT]
  rw [hD'] at g1p g1n
  refine Ct.of (by decide) (Nat.le_of_ble_eq_true rfl) (fun E hE hQ => ?_)
  refine z_aload_n hE d_Re_add_0 rfl ?_
  refine z_aload_n hE d_Re_add_1 rfl ?_
  refine z_getN hE d_Re_add_2 fl_Re_74 (by assumption) rfl ?_
  refine z_aload_n hE d_Re_add_5 rfl ?_
  refine z_getN hE d_Re_add_6 fl_Re_74 (by assumption) rfl ?_
  refine z_callV hE d_Re_add_9 cl_Re_63 (c_Re_findCommon l nx (RV_RF hV) ⟨_, hV.2.2.2 13 (by decide)⟩ ⟨_, hV.2.2.2 15 (by decide)⟩ f3 h3 (by omega) (by omega) (by omega) (by omega)) (by assumption) cb_Re rfl (Nat.le_of_ble_eq_true rfl) ⟨by decide, by decide⟩ ⟨by omega, by omega⟩ (fun r_1 g_1 nx_1 hp_1 => ?_) rfl
  try dsimp only [Option.toList, List.nil_append, List.cons_append]
  obtain ⟨rfl, rfl, c13, c15, cF, cW⟩ := hp_1
  try dsimp only [Option.toList, List.nil_append, List.cons_append]
  rw [hD'] at c13
  obtain ⟨v1, V1, e13, -, -, -, -, -, -⟩ := RV_C hV c13 c15 cF cW
  have w1 : gW g g_1 (R + 7) (R + 25) := gW_le cW (by omega) (by omega)
  obtain ⟨i1, i2, i3⟩ := id (FR_W hf w1 (by omega))
  have m1 := V1.1
  unfold RE at m1
  refine z_aload_n hE d_Re_add_12 rfl ?_
  refine z_aload_n hE d_Re_add_13 rfl ?_
  refine z_getN hE d_Re_add_14 fl_Re_74 (by assumption) rfl ?_
  refine z_aload_n hE d_Re_add_17 rfl ?_
  refine z_get hE d_Re_add_18 fl_Re_30 (by assumption) rfl ?_
  refine z_aload_n hE d_Re_add_21 rfl ?_
  refine z_get hE d_Re_add_22 fl_Re_43 (by assumption) rfl ?_
  refine z_callV hE d_Re_add_25 cl_Re_70 (c_Re_divideInto l nx (RV_RF V1) i3 c13 (V1.2.2.2 21 (by decide)) (by omega) (by omega) (by omega) (by omega) (by omega) g1n) (by assumption) cb_Re rfl (Nat.le_of_ble_eq_true rfl) ⟨by decide, by decide⟩ ⟨by omega, by omega⟩ (fun r_2 g_2 nx_2 hp_2 => ?_) rfl
  try dsimp only [Option.toList, List.nil_append, List.cons_append]
  obtain ⟨rfl, rfl, dA, dF, gi, dW, dO⟩ := hp_2
  try dsimp only [Option.toList, List.nil_append, List.cons_append]
  obtain ⟨v2, V2, e21, eo2, dW'⟩ := RV_D V1 (by decide) (by decide) dA dF dW dO
  have w2 : gW g g_2 (R + 7) (R + 25) := gW_t w1 (gW_le dW' (by split <;> omega) (by omega))
  obtain ⟨j1, j2, j3⟩ := id (FR_W hh w2 (by omega))
  have k13 := V2.2.2.2 13 (by decide)
  rw [eo2 13 (by decide) (by decide), e13] at k13
  have m1 := V2.1
  unfold RE at m1
  refine z_aload_n hE d_Re_add_28 rfl ?_
  refine z_aload_n hE d_Re_add_29 rfl ?_
  refine z_getN hE d_Re_add_30 fl_Re_74 (by assumption) rfl ?_
  refine z_aload_n hE d_Re_add_33 rfl ?_
  refine z_get hE d_Re_add_34 fl_Re_30 (by assumption) rfl ?_
  refine z_aload_n hE d_Re_add_37 rfl ?_
  refine z_get hE d_Re_add_38 fl_Re_46 (by assumption) rfl ?_
  refine z_callV hE d_Re_add_41 cl_Re_70 (c_Re_divideInto l nx (RV_RF V2) j3 k13 (V2.2.2.2 23 (by decide)) (by omega) (by omega) (by omega) (by omega) (by omega) g1n) (by assumption) cb_Re rfl (Nat.le_of_ble_eq_true rfl) ⟨by decide, by decide⟩ ⟨by omega, by omega⟩ (fun r_3 g_3 nx_3 hp_3 => ?_) rfl
  try dsimp only [Option.toList, List.nil_append, List.cons_append]
  obtain ⟨rfl, rfl, dA3, dF3, gi3, dW3, dO3⟩ := hp_3
  try dsimp only [Option.toList, List.nil_append, List.cons_append]
  obtain ⟨v3, V3, e23, eo3, dW3'⟩ := RV_D V2 (by decide) (by decide) dA3 dF3 dW3 dO3
  have w3 : gW g g_3 (R + 7) (R + 25) := gW_t w2 (gW_le dW3' (by split <;> omega) (by omega))
  obtain ⟨k1, k2, k3⟩ := id (FR_W hf w3 (by omega))
  have n23 := V3.2.2.2 23 (by decide)
  rw [e23] at n23
  have h13 : v3 13 = D := by rw [eo3 13 (by decide) (by decide), eo2 13 (by decide) (by decide)]; exact e13
  have h21 : v3 21 = ab / D := by rw [eo3 21 (by decide) (by decide)]; exact e21
  obtain ⟨_, _, K17, -⟩ := id (V3.2.2.2 17 (by decide))
  have K171 := K17.1
  have m1 := V3.1
  unfold RE at m1
  refine z_aload_n hE d_Re_add_44 rfl ?_
  refine z_get hE d_Re_add_45 fl_Re_37 (by assumption) rfl ?_
  refine z_aload_n hE d_Re_add_48 rfl ?_
  refine z_getN hE d_Re_add_49 fl_Re_67 (by assumption) rfl ?_
  refine z_aload_n hE d_Re_add_52 rfl ?_
  refine z_get hE d_Re_add_53 fl_Re_46 (by assumption) rfl ?_
  refine z_callV hE d_Re_add_56 cl_Re_77 (c_Na_becomeProduct l nx (p := 8) (q := 8) K17 k2 n23 (by omega) (by omega) b1 (by omega) (by decide)) (by assumption) cb_Na rfl (Nat.le_of_ble_eq_true rfl) ⟨by decide, by decide⟩ ⟨by omega, by omega⟩ (fun r_4 g_4 nx_4 hp_4 => ?_) rfl
  try dsimp only [Option.toList, List.nil_append, List.cons_append]
  obtain ⟨rfl, rfl, hA4, hO4⟩ := hp_4
  try dsimp only [Option.toList, List.nil_append, List.cons_append]
  have V4 := RV_O V3 (by decide) hA4 hO4
  have w4 : gW g g_4 (R + 7) (R + 25) := gW_t w3 (gW_O hO4 (by omega) (by omega))
  obtain ⟨l1, l2, l3⟩ := id (FR_W hh w4 (by omega))
  have n21 := V4.2.2.2 21 (by decide)
  rw [upN_n (by decide), h21] at n21
  obtain ⟨_, _, K19, -⟩ := id (V4.2.2.2 19 (by decide))
  have K191 := K19.1
  have m1 := V4.1
  unfold RE at m1
  refine z_aload_n hE d_Re_add_59 rfl ?_
  refine z_get hE d_Re_add_60 fl_Re_40 (by assumption) rfl ?_
  refine z_aload_n hE d_Re_add_63 rfl ?_
  refine z_getN hE d_Re_add_64 fl_Re_67 (by assumption) rfl ?_
  refine z_aload_n hE d_Re_add_67 rfl ?_
  refine z_get hE d_Re_add_68 fl_Re_43 (by assumption) rfl ?_
  refine z_callV hE d_Re_add_71 cl_Re_77 (c_Na_becomeProduct l nx (p := 8) (q := 8) K19 l2 n21 (by omega) (by omega) b3 (by omega) (by decide)) (by assumption) cb_Na rfl (Nat.le_of_ble_eq_true rfl) ⟨by decide, by decide⟩ ⟨by omega, by omega⟩ (fun r_5 g_5 nx_5 hp_5 => ?_) rfl
  try dsimp only [Option.toList, List.nil_append, List.cons_append]
  obtain ⟨rfl, rfl, hA5, hO5⟩ := hp_5
  try dsimp only [Option.toList, List.nil_append, List.cons_append]
  have V5 := RV_O V4 (by decide) hA5 hO5
  have w5 : gW g g_5 (R + 7) (R + 25) := gW_t w4 (gW_O hO5 (by omega) (by omega))
  obtain ⟨o1, o2, o3⟩ := id (FR_W hf w5 (by omega))
  obtain ⟨v5, hv5⟩ : ∃ v5, upN (upN v3 17 (aa * (bb / D))) 19 (ba * (ab / D)) = v5 := ⟨_, rfl⟩
  rw [hv5] at V5
  have t17 : v5 17 = aa * (bb / D) := by rw [← hv5, upN_n (by decide), upN_s]
  have t19 : v5 19 = ba * (ab / D) := by rw [← hv5, upN_s]
  have t13 : v5 13 = D := by rw [← hv5, upN_n (by decide), upN_n (by decide)]; exact h13
  have t21 : v5 21 = ab / D := by rw [← hv5, upN_n (by decide), upN_n (by decide)]; exact h21
  have B16 : ∀ a b, a < 4294967296 ^ 8 → b ≤ 4294967296 ^ 8 → a * b < 4294967296 ^ 17 := by
    intro a b x1 x2
    have x3 := Nat.mul_le_mul (Nat.le_of_lt x1) x2
    rw [← Nat.pow_add] at x3
    exact Nat.lt_of_le_of_lt x3 (by decide)
  have c1 := B16 aa (bb / D) b1 (by omega)
  have c2 := B16 ba (ab / D) b3 (by omega)
  have p19 := pw_ge (show 17 ≤ 19 by decide)
  have m1 := V5.1
  have m3 := V5.2.2.1
  unfold RE at m1
  refine z_aload_n hE d_Re_add_74 rfl ?_
  refine z_get hE d_Re_add_75 fl_Re_14 (by assumption) rfl ?_
  refine z_aload_n hE d_Re_add_78 rfl ?_
  refine z_aload_n hE d_Re_add_79 rfl ?_
  refine z_getN hE d_Re_add_80 fl_Re_55 (by assumption) rfl ?_
  refine z_iload_n hE d_Re_add_83 rfl ?_
  refine z_callV hE d_Re_add_84 cl_Re_80 (c_Re_addSigned l nx V5 (sa := sa) (sb := sb) (by rw [t17]; exact isS_mul ia hrb) (by rw [t19]; exact isS_mul ib hla) (by rw [t17]; omega) (by rw [t19]; omega)) (by assumption) cb_Re rfl (Nat.le_of_ble_eq_true rfl) ⟨by decide, by decide⟩ ⟨by omega, by omega⟩ (fun r_6 g_6 nx_6 hp_6 => ?_) rfl
  try dsimp only [Option.toList, List.nil_append, List.cons_append]
  obtain ⟨rfl, rfl, W6, v6, V6, e17, eo6⟩ := hp_6
  try dsimp only [Option.toList, List.nil_append, List.cons_append]
  rw [t17, t19, hT'] at e17 ⊢
  have w6 : gW g g_6 R (R + 25) := gW_t (gW_le w5 (by omega) (by omega)) (gW_le W6 (by omega) (by omega))
  have m3 := V6.2.2.1
  refine z_putN hE d_Re_add_87 fl_Re_55 ct_Fr ff_Fr_2 (by assumption) rfl rfl (Nat.le_of_ble_eq_true rfl) ?_
  have V7 := RV_S (s' := sgI T) V6
  obtain ⟨g7, hg7⟩ : ∃ g7, gS g_6 (R + 1) (.inr (1, [Value.ref (R + 2), .ref (R + 4), .int (sgI T)])) = g7 := ⟨_, rfl⟩
  have w7 : gW g g7 R (R + 25) := by rw [← hg7]; exact gW_t w6 (gW_S (by omega) (by omega))
  rw [hg7] at V7
  show zJ E (gS g_6 (R + 1) (.inr (1, [Value.ref (R + 2), .ref (R + 4), .int (sgI T)]))) nx _ _ _ _ _
  rw [hg7]
  have n13 := V7.2.2.2 13 (by decide)
  rw [eo6 13 (by decide), t13] at n13
  have hTb : T.natAbs < 4294967296 ^ 18 := by
    have p18 := pw_ge (show 17 ≤ 18 by decide)
    have y1 := Bs 17
    have z1 : (sv sa (aa * (bb / D))).natAbs ≤ aa * (bb / D) := by
      rcases ia with ⟨q, -⟩ | ⟨q, -⟩ | ⟨q, -⟩
      · rw [q, sv_0]; omega
      · rw [q, sv_1]; omega
      · rw [q, sv_m]; omega
    have z2 : (sv sb (ba * (ab / D))).natAbs ≤ ba * (ab / D) := by
      rcases ib with ⟨q, -⟩ | ⟨q, -⟩ | ⟨q, -⟩
      · rw [q, sv_0]; omega
      · rw [q, sv_1]; omega
      · rw [q, sv_m]; omega
    omega
  obtain ⟨_, _, K19, -⟩ := id (V7.2.2.2 19 (by decide))
  have K191 := K19.1
  have m1 := V7.1
  unfold RE at m1
  refine z_aload_n hE d_Re_add_90 rfl ?_
  refine z_get hE d_Re_add_91 fl_Re_40 (by assumption) rfl ?_
  refine z_aload_n hE d_Re_add_94 rfl ?_
  refine z_get hE d_Re_add_95 fl_Re_30 (by assumption) rfl ?_
  refine z_callV hE d_Re_add_98 cl_Re_84 (c_Na_become l nx K19 n13 (by omega) (by have := pw_ge (show 8 ≤ 20 by decide); have := Nat.le_of_dvd (by omega) hDab; omega)) (by assumption) cb_Na rfl (Nat.le_of_ble_eq_true rfl) ⟨by decide, by decide⟩ ⟨by omega, by omega⟩ (fun r_8 g_8 nx_8 hp_8 => ?_) rfl
  try dsimp only [Option.toList, List.nil_append, List.cons_append]
  obtain ⟨rfl, rfl, hA8, hO8⟩ := hp_8
  try dsimp only [Option.toList, List.nil_append, List.cons_append]
  have V8 := RV_O V7 (by decide) hA8 hO8
  have w8' : gW g g_8 R (R + 25) := gW_t w7 (gW_O hO8 (by omega) (by omega))
  have n17 := V8.2.2.2 17 (by decide)
  rw [upN_n (by decide), e17] at n17
  have hDle := Nat.le_of_dvd (show 0 < ab by omega) hDab
  have m1 := V8.1
  unfold RE at m1
  refine z_aload_n hE d_Re_add_101 rfl ?_
  refine z_aload_n hE d_Re_add_102 rfl ?_
  refine z_get hE d_Re_add_103 fl_Re_37 (by assumption) rfl ?_
  refine z_aload_n hE d_Re_add_106 rfl ?_
  refine z_get hE d_Re_add_107 fl_Re_40 (by assumption) rfl ?_
  refine z_callV hE d_Re_add_110 cl_Re_63 (c_Re_findCommon l nx (RV_RF V8) ⟨_, V8.2.2.2 13 (by decide)⟩ ⟨_, V8.2.2.2 15 (by decide)⟩ n17 hA8 (by omega) (by omega) hTb (by omega)) (by assumption) cb_Re rfl (Nat.le_of_ble_eq_true rfl) ⟨by decide, by decide⟩ ⟨by omega, by omega⟩ (fun r_9 g_9 nx_9 hp_9 => ?_) rfl
  try dsimp only [Option.toList, List.nil_append, List.cons_append]
  obtain ⟨rfl, rfl, c13b, c15b, cFb, cWb⟩ := hp_9
  try dsimp only [Option.toList, List.nil_append, List.cons_append]
  obtain ⟨v9, V9, e13b, -, -, e17b, -, e21b, -⟩ := RV_C V8 c13b c15b cFb cWb
  have w9 : gW g g_9 R (R + 25) := gW_t w8' (gW_le cWb (by omega) (by omega))
  have gen : Nat.gcd T.natAbs D ≠ 0 := by have := Nat.gcd_pos_of_pos_right T.natAbs g1p; omega
  have n17b := V9.2.2.2 17 (by decide)
  rw [e17b, upN_n (by decide), e17] at n17b
  have m1 := V9.1
  have m3 := V9.2.2.1
  unfold RE at m1
  refine z_aload_n hE d_Re_add_113 rfl ?_
  refine z_aload_n hE d_Re_add_114 rfl ?_
  refine z_get hE d_Re_add_115 fl_Re_37 (by assumption) rfl ?_
  refine z_aload_n hE d_Re_add_118 rfl ?_
  refine z_get hE d_Re_add_119 fl_Re_30 (by assumption) rfl ?_
  refine z_aload_n hE d_Re_add_122 rfl ?_
  refine z_get hE d_Re_add_123 fl_Re_14 (by assumption) rfl ?_
  refine z_getN hE d_Re_add_126 fl_Re_67 (by assumption) rfl ?_
  refine z_callV hE d_Re_add_129 cl_Re_70 (c_Re_divideInto l nx (RV_RF V9) n17b c13b (V9.2.2.2 2 (by decide)) (by omega) (by omega) (by omega) (by omega) hTb gen) (by assumption) cb_Re rfl (Nat.le_of_ble_eq_true rfl) ⟨by decide, by decide⟩ ⟨by omega, by omega⟩ (fun r_10 g_10 nx_10 hp_10 => ?_) rfl
  try dsimp only [Option.toList, List.nil_append, List.cons_append]
  obtain ⟨rfl, rfl, dA10, dF10, gi10, dW10, dO10⟩ := hp_10
  try dsimp only [Option.toList, List.nil_append, List.cons_append]
  obtain ⟨v10, V10, e2, eo10, dW10'⟩ := RV_D V9 (by decide) (by decide) dA10 dF10 dW10 dO10
  have w10 : gW g g_10 R (R + 25) := gW_t w9 (gW_le dW10' (by split <;> omega) (by omega))
  obtain ⟨u1, u2, u3⟩ := id (FR_W hh w10 (by omega))
  have n13b := V10.2.2.2 13 (by decide)
  rw [eo10 13 (by decide) (by decide), e13b] at n13b
  have m1 := V10.1
  unfold RE at m1
  refine z_aload_n hE d_Re_add_132 rfl ?_
  refine z_aload_n hE d_Re_add_133 rfl ?_
  refine z_getN hE d_Re_add_134 fl_Re_74 (by assumption) rfl ?_
  refine z_aload_n hE d_Re_add_137 rfl ?_
  refine z_get hE d_Re_add_138 fl_Re_30 (by assumption) rfl ?_
  refine z_aload_n hE d_Re_add_141 rfl ?_
  refine z_get hE d_Re_add_142 fl_Re_40 (by assumption) rfl ?_
  refine z_callV hE d_Re_add_145 cl_Re_70 (c_Re_divideInto l nx (RV_RF V10) u3 n13b (V10.2.2.2 19 (by decide)) (by omega) (by omega) (by omega) (by omega) (by omega) gen) (by assumption) cb_Re rfl (Nat.le_of_ble_eq_true rfl) ⟨by decide, by decide⟩ ⟨by omega, by omega⟩ (fun r_11 g_11 nx_11 hp_11 => ?_) rfl
  try dsimp only [Option.toList, List.nil_append, List.cons_append]
  obtain ⟨rfl, rfl, dA11, dF11, gi11, dW11, dO11⟩ := hp_11
  try dsimp only [Option.toList, List.nil_append, List.cons_append]
  obtain ⟨v11, V11, e19, eo11, dW11'⟩ := RV_D V10 (by decide) (by decide) dA11 dF11 dW11 dO11
  have w11 : gW g g_11 R (R + 25) := gW_t w10 (gW_le dW11' (by split <;> omega) (by omega))
  have n21b := V11.2.2.2 21 (by decide)
  rw [eo11 21 (by decide) (by decide), eo10 21 (by decide) (by decide), e21b, upN_n (by decide), eo6 21 (by decide), t21] at n21b
  have n19b := V11.2.2.2 19 (by decide)
  rw [e19] at n19b
  have s5 : bb / Nat.gcd T.natAbs D ≤ bb := Nat.div_le_self _ _
  obtain ⟨_, _, K4, -⟩ := id (V11.2.2.2 4 (by decide))
  have K41 := K4.1
  have m1 := V11.1
  have m3 := V11.2.2.1
  unfold RE at m1
  refine z_aload_n hE d_Re_add_148 rfl ?_
  refine z_get hE d_Re_add_149 fl_Re_14 (by assumption) rfl ?_
  refine z_getN hE d_Re_add_152 fl_Re_74 (by assumption) rfl ?_
  refine z_aload_n hE d_Re_add_155 rfl ?_
  refine z_get hE d_Re_add_156 fl_Re_43 (by assumption) rfl ?_
  refine z_aload_n hE d_Re_add_159 rfl ?_
  refine z_get hE d_Re_add_160 fl_Re_40 (by assumption) rfl ?_
  refine z_callV hE d_Re_add_163 cl_Re_77 (c_Na_becomeProduct l nx (p := 8) (q := 8) K4 n21b n19b (by omega) (by omega) (by omega) (by omega) (by decide)) (by assumption) cb_Na rfl (Nat.le_of_ble_eq_true rfl) ⟨by decide, by decide⟩ ⟨by omega, by omega⟩ (fun r_12 g_12 nx_12 hp_12 => ?_) rfl
  try dsimp only [Option.toList, List.nil_append, List.cons_append]
  obtain ⟨rfl, rfl, hA12, hO12⟩ := hp_12
  try dsimp only [Option.toList, List.nil_append, List.cons_append]
  have V12 := RV_O V11 (by decide) hA12 hO12
  refine z_vret hE hQ d_Re_add_166 rfl (Nat.le_refl _) (Nat.le_refl _) ⟨rfl, rfl, gW_t w11 (gW_O hO12 (by omega) (by omega)), _, V12, ?_, upN_s⟩
  rw [upN_n (by decide), eo11 2 (by decide) (by decide)]; exact e2

