/-! Division: a digit guessed, taken, given back -/
def DV (g : Gh) (o : Nat) : Prop := g o = some (.inr (0, [.ref (o + 1), .ref (o + 3), .ref (o + 5)]))
theorem DV_N {g : Gh} {o a N n : Nat} {d : Nat → Nat} (h : DV g o) (h1 : o ≠ a) (h2 : o ≠ a + 1) : DV (gN g a N n d) o := by
  unfold DV
  rw [gN_o h1 h2]; exact h
theorem q_gt {q F S Ld R2 QF QS T : Nat} (hT : (Ld * 4294967296 + R2) / (F * 4294967296 + S) = T) (h0 : 0 < F) (h1 : q * (F * 4294967296 + S) = QF * 4294967296 + QS) (h2 : QF ≤ Ld) (h3 : (Ld - QF) * 4294967296 + R2 < QS) : T < q := by
  have h4 : Ld * 4294967296 + R2 < QF * 4294967296 + QS := by
    have e : Ld * 4294967296 = (Ld - QF) * 4294967296 + QF * 4294967296 := by rw [← Nat.add_mul, Nat.sub_add_cancel h2]
    rw [e, Nat.add_right_comm, Nat.add_comm (QF * 4294967296) QS]
    exact Nat.add_lt_add_right h3 _
  rw [← h1] at h4
  rw [← hT]
  exact (Nat.div_lt_iff_lt_mul (Nat.lt_of_lt_of_le (Nat.mul_pos h0 (by decide)) (Nat.le_add_right _ _))).mpr h4
theorem d_Dv_guessDigit_0 : decode b_Dv_guessDigit 0 = .ok (.aload_n 0, 1) := by decide +kernel
theorem d_Dv_guessDigit_1 : decode b_Dv_guessDigit 1 = .ok (.getfield 14, 3) := by decide +kernel
theorem d_Dv_guessDigit_4 : decode b_Dv_guessDigit 4 = .ok (.aload_n 0, 1) := by decide +kernel
theorem d_Dv_guessDigit_5 : decode b_Dv_guessDigit 5 = .ok (.getfield 14, 3) := by decide +kernel
theorem d_Dv_guessDigit_8 : decode b_Dv_guessDigit 8 = .ok (.getfield 41, 3) := by decide +kernel
theorem d_Dv_guessDigit_11 : decode b_Dv_guessDigit 11 = .ok (.iconst 1, 1) := by decide +kernel
theorem d_Dv_guessDigit_12 : decode b_Dv_guessDigit 12 = .ok (.isub, 1) := by decide +kernel
theorem d_Dv_guessDigit_13 : decode b_Dv_guessDigit 13 = .ok (.invokevirtual 45, 3) := by decide +kernel
theorem d_Dv_guessDigit_16 : decode b_Dv_guessDigit 16 = .ok (.lstore_n 2, 1) := by decide +kernel
theorem d_Dv_guessDigit_17 : decode b_Dv_guessDigit 17 = .ok (.aload_n 0, 1) := by decide +kernel
theorem d_Dv_guessDigit_18 : decode b_Dv_guessDigit 18 = .ok (.getfield 14, 3) := by decide +kernel
theorem d_Dv_guessDigit_21 : decode b_Dv_guessDigit 21 = .ok (.aload_n 0, 1) := by decide +kernel
theorem d_Dv_guessDigit_22 : decode b_Dv_guessDigit 22 = .ok (.getfield 14, 3) := by decide +kernel
theorem d_Dv_guessDigit_25 : decode b_Dv_guessDigit 25 = .ok (.getfield 41, 3) := by decide +kernel
theorem d_Dv_guessDigit_28 : decode b_Dv_guessDigit 28 = .ok (.iconst 2, 1) := by decide +kernel
theorem d_Dv_guessDigit_29 : decode b_Dv_guessDigit 29 = .ok (.isub, 1) := by decide +kernel
theorem d_Dv_guessDigit_30 : decode b_Dv_guessDigit 30 = .ok (.invokevirtual 45, 3) := by decide +kernel
theorem d_Dv_guessDigit_33 : decode b_Dv_guessDigit 33 = .ok (.lstore 4, 2) := by decide +kernel
theorem d_Dv_guessDigit_35 : decode b_Dv_guessDigit 35 = .ok (.aload_n 0, 1) := by decide +kernel
theorem d_Dv_guessDigit_36 : decode b_Dv_guessDigit 36 = .ok (.getfield 23, 3) := by decide +kernel
theorem d_Dv_guessDigit_39 : decode b_Dv_guessDigit 39 = .ok (.iload_n 1, 1) := by decide +kernel
theorem d_Dv_guessDigit_40 : decode b_Dv_guessDigit 40 = .ok (.invokevirtual 45, 3) := by decide +kernel
theorem d_Dv_guessDigit_43 : decode b_Dv_guessDigit 43 = .ok (.bipush 32, 2) := by decide +kernel
theorem d_Dv_guessDigit_45 : decode b_Dv_guessDigit 45 = .ok (.lshl, 1) := by decide +kernel
theorem d_Dv_guessDigit_46 : decode b_Dv_guessDigit 46 = .ok (.aload_n 0, 1) := by decide +kernel
theorem d_Dv_guessDigit_47 : decode b_Dv_guessDigit 47 = .ok (.getfield 23, 3) := by decide +kernel
theorem d_Dv_guessDigit_50 : decode b_Dv_guessDigit 50 = .ok (.iload_n 1, 1) := by decide +kernel
theorem d_Dv_guessDigit_51 : decode b_Dv_guessDigit 51 = .ok (.iconst 1, 1) := by decide +kernel
theorem d_Dv_guessDigit_52 : decode b_Dv_guessDigit 52 = .ok (.isub, 1) := by decide +kernel
theorem d_Dv_guessDigit_53 : decode b_Dv_guessDigit 53 = .ok (.invokevirtual 45, 3) := by decide +kernel
theorem d_Dv_guessDigit_56 : decode b_Dv_guessDigit 56 = .ok (.lor, 1) := by decide +kernel
theorem d_Dv_guessDigit_57 : decode b_Dv_guessDigit 57 = .ok (.lstore 6, 2) := by decide +kernel
theorem d_Dv_guessDigit_59 : decode b_Dv_guessDigit 59 = .ok (.aload_n 0, 1) := by decide +kernel
theorem d_Dv_guessDigit_60 : decode b_Dv_guessDigit 60 = .ok (.getfield 23, 3) := by decide +kernel
theorem d_Dv_guessDigit_63 : decode b_Dv_guessDigit 63 = .ok (.iload_n 1, 1) := by decide +kernel
theorem d_Dv_guessDigit_64 : decode b_Dv_guessDigit 64 = .ok (.invokevirtual 45, 3) := by decide +kernel
theorem d_Dv_guessDigit_67 : decode b_Dv_guessDigit 67 = .ok (.lload_n 2, 1) := by decide +kernel
theorem d_Dv_guessDigit_68 : decode b_Dv_guessDigit 68 = .ok (.lcmp, 1) := by decide +kernel
theorem d_Dv_guessDigit_69 : decode b_Dv_guessDigit 69 = .ok (.ifCond .lt 9, 3) := by decide +kernel
theorem d_Dv_guessDigit_72 : decode b_Dv_guessDigit 72 = .ok (.ldc2_w 79, 3) := by decide +kernel
theorem d_Dv_guessDigit_75 : decode b_Dv_guessDigit 75 = .ok (.goto 9, 3) := by decide +kernel
theorem d_Dv_guessDigit_78 : decode b_Dv_guessDigit 78 = .ok (.lload 6, 2) := by decide +kernel
theorem d_Dv_guessDigit_80 : decode b_Dv_guessDigit 80 = .ok (.lload_n 2, 1) := by decide +kernel
theorem d_Dv_guessDigit_81 : decode b_Dv_guessDigit 81 = .ok (.invokestatic 81, 3) := by decide +kernel
theorem d_Dv_guessDigit_84 : decode b_Dv_guessDigit 84 = .ok (.lstore 8, 2) := by decide +kernel
theorem d_Dv_guessDigit_86 : decode b_Dv_guessDigit 86 = .ok (.lload 6, 2) := by decide +kernel
theorem d_Dv_guessDigit_88 : decode b_Dv_guessDigit 88 = .ok (.lload 8, 2) := by decide +kernel
theorem d_Dv_guessDigit_90 : decode b_Dv_guessDigit 90 = .ok (.lload_n 2, 1) := by decide +kernel
theorem d_Dv_guessDigit_91 : decode b_Dv_guessDigit 91 = .ok (.lmul, 1) := by decide +kernel
theorem d_Dv_guessDigit_92 : decode b_Dv_guessDigit 92 = .ok (.lsub, 1) := by decide +kernel
theorem d_Dv_guessDigit_93 : decode b_Dv_guessDigit 93 = .ok (.lstore 10, 2) := by decide +kernel
theorem d_Dv_guessDigit_95 : decode b_Dv_guessDigit 95 = .ok (.iconst 0, 1) := by decide +kernel
theorem d_Dv_guessDigit_96 : decode b_Dv_guessDigit 96 = .ok (.istore 12, 2) := by decide +kernel
theorem d_Dv_guessDigit_98 : decode b_Dv_guessDigit 98 = .ok (.iload 12, 2) := by decide +kernel
theorem d_Dv_guessDigit_100 : decode b_Dv_guessDigit 100 = .ok (.iconst 2, 1) := by decide +kernel
theorem d_Dv_guessDigit_101 : decode b_Dv_guessDigit 101 = .ok (.if_icmp .ge 64, 3) := by decide +kernel
theorem d_Dv_guessDigit_104 : decode b_Dv_guessDigit 104 = .ok (.lload 10, 2) := by decide +kernel
theorem d_Dv_guessDigit_106 : decode b_Dv_guessDigit 106 = .ok (.ldc2_w 79, 3) := by decide +kernel
theorem d_Dv_guessDigit_109 : decode b_Dv_guessDigit 109 = .ok (.lcmp, 1) := by decide +kernel
theorem d_Dv_guessDigit_110 : decode b_Dv_guessDigit 110 = .ok (.ifCond .gt 55, 3) := by decide +kernel
theorem d_Dv_guessDigit_113 : decode b_Dv_guessDigit 113 = .ok (.lload 10, 2) := by decide +kernel
theorem d_Dv_guessDigit_115 : decode b_Dv_guessDigit 115 = .ok (.bipush 32, 2) := by decide +kernel
theorem d_Dv_guessDigit_117 : decode b_Dv_guessDigit 117 = .ok (.lshl, 1) := by decide +kernel
theorem d_Dv_guessDigit_118 : decode b_Dv_guessDigit 118 = .ok (.aload_n 0, 1) := by decide +kernel
theorem d_Dv_guessDigit_119 : decode b_Dv_guessDigit 119 = .ok (.getfield 23, 3) := by decide +kernel
theorem d_Dv_guessDigit_122 : decode b_Dv_guessDigit 122 = .ok (.iload_n 1, 1) := by decide +kernel
theorem d_Dv_guessDigit_123 : decode b_Dv_guessDigit 123 = .ok (.iconst 2, 1) := by decide +kernel
theorem d_Dv_guessDigit_124 : decode b_Dv_guessDigit 124 = .ok (.isub, 1) := by decide +kernel
theorem d_Dv_guessDigit_125 : decode b_Dv_guessDigit 125 = .ok (.invokevirtual 45, 3) := by decide +kernel
theorem d_Dv_guessDigit_128 : decode b_Dv_guessDigit 128 = .ok (.lor, 1) := by decide +kernel
theorem d_Dv_guessDigit_129 : decode b_Dv_guessDigit 129 = .ok (.lstore 13, 2) := by decide +kernel
theorem d_Dv_guessDigit_131 : decode b_Dv_guessDigit 131 = .ok (.lload 8, 2) := by decide +kernel
theorem d_Dv_guessDigit_133 : decode b_Dv_guessDigit 133 = .ok (.lload 4, 2) := by decide +kernel
theorem d_Dv_guessDigit_135 : decode b_Dv_guessDigit 135 = .ok (.lmul, 1) := by decide +kernel
theorem d_Dv_guessDigit_136 : decode b_Dv_guessDigit 136 = .ok (.lload 13, 2) := by decide +kernel
theorem d_Dv_guessDigit_138 : decode b_Dv_guessDigit 138 = .ok (.invokestatic 85, 3) := by decide +kernel
theorem d_Dv_guessDigit_141 : decode b_Dv_guessDigit 141 = .ok (.ifCond .ne 6, 3) := by decide +kernel
theorem d_Dv_guessDigit_144 : decode b_Dv_guessDigit 144 = .ok (.goto 21, 3) := by decide +kernel
theorem d_Dv_guessDigit_147 : decode b_Dv_guessDigit 147 = .ok (.lload 8, 2) := by decide +kernel
theorem d_Dv_guessDigit_149 : decode b_Dv_guessDigit 149 = .ok (.lconst 1, 1) := by decide +kernel
theorem d_Dv_guessDigit_150 : decode b_Dv_guessDigit 150 = .ok (.lsub, 1) := by decide +kernel
theorem d_Dv_guessDigit_151 : decode b_Dv_guessDigit 151 = .ok (.lstore 8, 2) := by decide +kernel
theorem d_Dv_guessDigit_153 : decode b_Dv_guessDigit 153 = .ok (.lload 10, 2) := by decide +kernel
theorem d_Dv_guessDigit_155 : decode b_Dv_guessDigit 155 = .ok (.lload_n 2, 1) := by decide +kernel
theorem d_Dv_guessDigit_156 : decode b_Dv_guessDigit 156 = .ok (.ladd, 1) := by decide +kernel
theorem d_Dv_guessDigit_157 : decode b_Dv_guessDigit 157 = .ok (.lstore 10, 2) := by decide +kernel
theorem d_Dv_guessDigit_159 : decode b_Dv_guessDigit 159 = .ok (.iinc 12 1, 3) := by decide +kernel
theorem d_Dv_guessDigit_162 : decode b_Dv_guessDigit 162 = .ok (.goto (-64), 3) := by decide +kernel
theorem d_Dv_guessDigit_165 : decode b_Dv_guessDigit 165 = .ok (.lload 8, 2) := by decide +kernel
theorem d_Dv_guessDigit_167 : decode b_Dv_guessDigit 167 = .ok (.lreturn, 1) := by decide +kernel
theorem d_Dv_takeTimes_0 : decode b_Dv_takeTimes 0 = .ok (.lconst 0, 1) := by decide +kernel
theorem d_Dv_takeTimes_1 : decode b_Dv_takeTimes 1 = .ok (.lstore 4, 2) := by decide +kernel
theorem d_Dv_takeTimes_3 : decode b_Dv_takeTimes 3 = .ok (.iconst 0, 1) := by decide +kernel
theorem d_Dv_takeTimes_4 : decode b_Dv_takeTimes 4 = .ok (.istore 6, 2) := by decide +kernel
theorem d_Dv_takeTimes_6 : decode b_Dv_takeTimes 6 = .ok (.iload 6, 2) := by decide +kernel
theorem d_Dv_takeTimes_8 : decode b_Dv_takeTimes 8 = .ok (.aload_n 0, 1) := by decide +kernel
theorem d_Dv_takeTimes_9 : decode b_Dv_takeTimes 9 = .ok (.getfield 14, 3) := by decide +kernel
theorem d_Dv_takeTimes_12 : decode b_Dv_takeTimes 12 = .ok (.getfield 41, 3) := by decide +kernel
theorem d_Dv_takeTimes_15 : decode b_Dv_takeTimes 15 = .ok (.if_icmp .ge 83, 3) := by decide +kernel
theorem d_Dv_takeTimes_18 : decode b_Dv_takeTimes 18 = .ok (.lload_n 1, 1) := by decide +kernel
theorem d_Dv_takeTimes_19 : decode b_Dv_takeTimes 19 = .ok (.aload_n 0, 1) := by decide +kernel
theorem d_Dv_takeTimes_20 : decode b_Dv_takeTimes 20 = .ok (.getfield 14, 3) := by decide +kernel
theorem d_Dv_takeTimes_23 : decode b_Dv_takeTimes 23 = .ok (.iload 6, 2) := by decide +kernel
theorem d_Dv_takeTimes_25 : decode b_Dv_takeTimes 25 = .ok (.invokevirtual 45, 3) := by decide +kernel
theorem d_Dv_takeTimes_28 : decode b_Dv_takeTimes 28 = .ok (.lmul, 1) := by decide +kernel
theorem d_Dv_takeTimes_29 : decode b_Dv_takeTimes 29 = .ok (.lload 4, 2) := by decide +kernel
theorem d_Dv_takeTimes_31 : decode b_Dv_takeTimes 31 = .ok (.ladd, 1) := by decide +kernel
theorem d_Dv_takeTimes_32 : decode b_Dv_takeTimes 32 = .ok (.lstore 7, 2) := by decide +kernel
theorem d_Dv_takeTimes_34 : decode b_Dv_takeTimes 34 = .ok (.aload_n 0, 1) := by decide +kernel
theorem d_Dv_takeTimes_35 : decode b_Dv_takeTimes 35 = .ok (.getfield 23, 3) := by decide +kernel
theorem d_Dv_takeTimes_38 : decode b_Dv_takeTimes 38 = .ok (.iload_n 3, 1) := by decide +kernel
theorem d_Dv_takeTimes_39 : decode b_Dv_takeTimes 39 = .ok (.iload 6, 2) := by decide +kernel
theorem d_Dv_takeTimes_41 : decode b_Dv_takeTimes 41 = .ok (.iadd, 1) := by decide +kernel
theorem d_Dv_takeTimes_42 : decode b_Dv_takeTimes 42 = .ok (.invokevirtual 45, 3) := by decide +kernel
theorem d_Dv_takeTimes_45 : decode b_Dv_takeTimes 45 = .ok (.lload 7, 2) := by decide +kernel
theorem d_Dv_takeTimes_47 : decode b_Dv_takeTimes 47 = .ok (.ldc2_w 79, 3) := by decide +kernel
theorem d_Dv_takeTimes_50 : decode b_Dv_takeTimes 50 = .ok (.land, 1) := by decide +kernel
theorem d_Dv_takeTimes_51 : decode b_Dv_takeTimes 51 = .ok (.lsub, 1) := by decide +kernel
theorem d_Dv_takeTimes_52 : decode b_Dv_takeTimes 52 = .ok (.lstore 9, 2) := by decide +kernel
theorem d_Dv_takeTimes_54 : decode b_Dv_takeTimes 54 = .ok (.lload 7, 2) := by decide +kernel
theorem d_Dv_takeTimes_56 : decode b_Dv_takeTimes 56 = .ok (.bipush 32, 2) := by decide +kernel
theorem d_Dv_takeTimes_58 : decode b_Dv_takeTimes 58 = .ok (.lushr, 1) := by decide +kernel
theorem d_Dv_takeTimes_59 : decode b_Dv_takeTimes 59 = .ok (.lload 9, 2) := by decide +kernel
theorem d_Dv_takeTimes_61 : decode b_Dv_takeTimes 61 = .ok (.lconst 0, 1) := by decide +kernel
theorem d_Dv_takeTimes_62 : decode b_Dv_takeTimes 62 = .ok (.lcmp, 1) := by decide +kernel
theorem d_Dv_takeTimes_63 : decode b_Dv_takeTimes 63 = .ok (.ifCond .ge 7, 3) := by decide +kernel
theorem d_Dv_takeTimes_66 : decode b_Dv_takeTimes 66 = .ok (.iconst 1, 1) := by decide +kernel
theorem d_Dv_takeTimes_67 : decode b_Dv_takeTimes 67 = .ok (.goto 4, 3) := by decide +kernel
theorem d_Dv_takeTimes_70 : decode b_Dv_takeTimes 70 = .ok (.iconst 0, 1) := by decide +kernel
theorem d_Dv_takeTimes_71 : decode b_Dv_takeTimes 71 = .ok (.i2l, 1) := by decide +kernel
theorem d_Dv_takeTimes_72 : decode b_Dv_takeTimes 72 = .ok (.ladd, 1) := by decide +kernel
theorem d_Dv_takeTimes_73 : decode b_Dv_takeTimes 73 = .ok (.lstore 4, 2) := by decide +kernel
theorem d_Dv_takeTimes_75 : decode b_Dv_takeTimes 75 = .ok (.aload_n 0, 1) := by decide +kernel
theorem d_Dv_takeTimes_76 : decode b_Dv_takeTimes 76 = .ok (.getfield 23, 3) := by decide +kernel
theorem d_Dv_takeTimes_79 : decode b_Dv_takeTimes 79 = .ok (.iload_n 3, 1) := by decide +kernel
theorem d_Dv_takeTimes_80 : decode b_Dv_takeTimes 80 = .ok (.iload 6, 2) := by decide +kernel
theorem d_Dv_takeTimes_82 : decode b_Dv_takeTimes 82 = .ok (.iadd, 1) := by decide +kernel
theorem d_Dv_takeTimes_83 : decode b_Dv_takeTimes 83 = .ok (.lload 9, 2) := by decide +kernel
theorem d_Dv_takeTimes_85 : decode b_Dv_takeTimes 85 = .ok (.ldc2_w 79, 3) := by decide +kernel
theorem d_Dv_takeTimes_88 : decode b_Dv_takeTimes 88 = .ok (.land, 1) := by decide +kernel
theorem d_Dv_takeTimes_89 : decode b_Dv_takeTimes 89 = .ok (.invokevirtual 69, 3) := by decide +kernel
theorem d_Dv_takeTimes_92 : decode b_Dv_takeTimes 92 = .ok (.iinc 6 1, 3) := by decide +kernel
theorem d_Dv_takeTimes_95 : decode b_Dv_takeTimes 95 = .ok (.goto (-89), 3) := by decide +kernel
theorem d_Dv_takeTimes_98 : decode b_Dv_takeTimes 98 = .ok (.aload_n 0, 1) := by decide +kernel
theorem d_Dv_takeTimes_99 : decode b_Dv_takeTimes 99 = .ok (.getfield 23, 3) := by decide +kernel
theorem d_Dv_takeTimes_102 : decode b_Dv_takeTimes 102 = .ok (.iload_n 3, 1) := by decide +kernel
theorem d_Dv_takeTimes_103 : decode b_Dv_takeTimes 103 = .ok (.aload_n 0, 1) := by decide +kernel
theorem d_Dv_takeTimes_104 : decode b_Dv_takeTimes 104 = .ok (.getfield 14, 3) := by decide +kernel
theorem d_Dv_takeTimes_107 : decode b_Dv_takeTimes 107 = .ok (.getfield 41, 3) := by decide +kernel
theorem d_Dv_takeTimes_110 : decode b_Dv_takeTimes 110 = .ok (.iadd, 1) := by decide +kernel
theorem d_Dv_takeTimes_111 : decode b_Dv_takeTimes 111 = .ok (.invokevirtual 45, 3) := by decide +kernel
theorem d_Dv_takeTimes_114 : decode b_Dv_takeTimes 114 = .ok (.lload 4, 2) := by decide +kernel
theorem d_Dv_takeTimes_116 : decode b_Dv_takeTimes 116 = .ok (.lsub, 1) := by decide +kernel
theorem d_Dv_takeTimes_117 : decode b_Dv_takeTimes 117 = .ok (.lstore 6, 2) := by decide +kernel
theorem d_Dv_takeTimes_119 : decode b_Dv_takeTimes 119 = .ok (.aload_n 0, 1) := by decide +kernel
theorem d_Dv_takeTimes_120 : decode b_Dv_takeTimes 120 = .ok (.getfield 23, 3) := by decide +kernel
theorem d_Dv_takeTimes_123 : decode b_Dv_takeTimes 123 = .ok (.iload_n 3, 1) := by decide +kernel
theorem d_Dv_takeTimes_124 : decode b_Dv_takeTimes 124 = .ok (.aload_n 0, 1) := by decide +kernel
theorem d_Dv_takeTimes_125 : decode b_Dv_takeTimes 125 = .ok (.getfield 14, 3) := by decide +kernel
theorem d_Dv_takeTimes_128 : decode b_Dv_takeTimes 128 = .ok (.getfield 41, 3) := by decide +kernel
theorem d_Dv_takeTimes_131 : decode b_Dv_takeTimes 131 = .ok (.iadd, 1) := by decide +kernel
theorem d_Dv_takeTimes_132 : decode b_Dv_takeTimes 132 = .ok (.lload 6, 2) := by decide +kernel
theorem d_Dv_takeTimes_134 : decode b_Dv_takeTimes 134 = .ok (.ldc2_w 79, 3) := by decide +kernel
theorem d_Dv_takeTimes_137 : decode b_Dv_takeTimes 137 = .ok (.land, 1) := by decide +kernel
theorem d_Dv_takeTimes_138 : decode b_Dv_takeTimes 138 = .ok (.invokevirtual 69, 3) := by decide +kernel
theorem d_Dv_takeTimes_141 : decode b_Dv_takeTimes 141 = .ok (.lload 6, 2) := by decide +kernel
theorem d_Dv_takeTimes_143 : decode b_Dv_takeTimes 143 = .ok (.lconst 0, 1) := by decide +kernel
theorem d_Dv_takeTimes_144 : decode b_Dv_takeTimes 144 = .ok (.lcmp, 1) := by decide +kernel
theorem d_Dv_takeTimes_145 : decode b_Dv_takeTimes 145 = .ok (.ifCond .ge 7, 3) := by decide +kernel
theorem d_Dv_takeTimes_148 : decode b_Dv_takeTimes 148 = .ok (.iconst 1, 1) := by decide +kernel
theorem d_Dv_takeTimes_149 : decode b_Dv_takeTimes 149 = .ok (.goto 4, 3) := by decide +kernel
theorem d_Dv_takeTimes_152 : decode b_Dv_takeTimes 152 = .ok (.iconst 0, 1) := by decide +kernel
theorem d_Dv_takeTimes_153 : decode b_Dv_takeTimes 153 = .ok (.ireturn, 1) := by decide +kernel
theorem d_Dv_giveBack_0 : decode b_Dv_giveBack 0 = .ok (.lconst 0, 1) := by decide +kernel
theorem d_Dv_giveBack_1 : decode b_Dv_giveBack 1 = .ok (.lstore_n 2, 1) := by decide +kernel
theorem d_Dv_giveBack_2 : decode b_Dv_giveBack 2 = .ok (.iconst 0, 1) := by decide +kernel
theorem d_Dv_giveBack_3 : decode b_Dv_giveBack 3 = .ok (.istore 4, 2) := by decide +kernel
theorem d_Dv_giveBack_5 : decode b_Dv_giveBack 5 = .ok (.iload 4, 2) := by decide +kernel
theorem d_Dv_giveBack_7 : decode b_Dv_giveBack 7 = .ok (.aload_n 0, 1) := by decide +kernel
theorem d_Dv_giveBack_8 : decode b_Dv_giveBack 8 = .ok (.getfield 14, 3) := by decide +kernel
theorem d_Dv_giveBack_11 : decode b_Dv_giveBack 11 = .ok (.getfield 41, 3) := by decide +kernel
theorem d_Dv_giveBack_14 : decode b_Dv_giveBack 14 = .ok (.if_icmp .gt 57, 3) := by decide +kernel
theorem d_Dv_giveBack_17 : decode b_Dv_giveBack 17 = .ok (.aload_n 0, 1) := by decide +kernel
theorem d_Dv_giveBack_18 : decode b_Dv_giveBack 18 = .ok (.getfield 23, 3) := by decide +kernel
theorem d_Dv_giveBack_21 : decode b_Dv_giveBack 21 = .ok (.iload_n 1, 1) := by decide +kernel
theorem d_Dv_giveBack_22 : decode b_Dv_giveBack 22 = .ok (.iload 4, 2) := by decide +kernel
theorem d_Dv_giveBack_24 : decode b_Dv_giveBack 24 = .ok (.iadd, 1) := by decide +kernel
theorem d_Dv_giveBack_25 : decode b_Dv_giveBack 25 = .ok (.invokevirtual 45, 3) := by decide +kernel
theorem d_Dv_giveBack_28 : decode b_Dv_giveBack 28 = .ok (.aload_n 0, 1) := by decide +kernel
theorem d_Dv_giveBack_29 : decode b_Dv_giveBack 29 = .ok (.getfield 14, 3) := by decide +kernel
theorem d_Dv_giveBack_32 : decode b_Dv_giveBack 32 = .ok (.iload 4, 2) := by decide +kernel
theorem d_Dv_giveBack_34 : decode b_Dv_giveBack 34 = .ok (.invokevirtual 45, 3) := by decide +kernel
theorem d_Dv_giveBack_37 : decode b_Dv_giveBack 37 = .ok (.ladd, 1) := by decide +kernel
theorem d_Dv_giveBack_38 : decode b_Dv_giveBack 38 = .ok (.lload_n 2, 1) := by decide +kernel
theorem d_Dv_giveBack_39 : decode b_Dv_giveBack 39 = .ok (.ladd, 1) := by decide +kernel
theorem d_Dv_giveBack_40 : decode b_Dv_giveBack 40 = .ok (.lstore 5, 2) := by decide +kernel
theorem d_Dv_giveBack_42 : decode b_Dv_giveBack 42 = .ok (.aload_n 0, 1) := by decide +kernel
theorem d_Dv_giveBack_43 : decode b_Dv_giveBack 43 = .ok (.getfield 23, 3) := by decide +kernel
theorem d_Dv_giveBack_46 : decode b_Dv_giveBack 46 = .ok (.iload_n 1, 1) := by decide +kernel
theorem d_Dv_giveBack_47 : decode b_Dv_giveBack 47 = .ok (.iload 4, 2) := by decide +kernel
theorem d_Dv_giveBack_49 : decode b_Dv_giveBack 49 = .ok (.iadd, 1) := by decide +kernel
theorem d_Dv_giveBack_50 : decode b_Dv_giveBack 50 = .ok (.lload 5, 2) := by decide +kernel
theorem d_Dv_giveBack_52 : decode b_Dv_giveBack 52 = .ok (.ldc2_w 79, 3) := by decide +kernel
theorem d_Dv_giveBack_55 : decode b_Dv_giveBack 55 = .ok (.land, 1) := by decide +kernel
theorem d_Dv_giveBack_56 : decode b_Dv_giveBack 56 = .ok (.invokevirtual 69, 3) := by decide +kernel
theorem d_Dv_giveBack_59 : decode b_Dv_giveBack 59 = .ok (.lload 5, 2) := by decide +kernel
theorem d_Dv_giveBack_61 : decode b_Dv_giveBack 61 = .ok (.bipush 32, 2) := by decide +kernel
theorem d_Dv_giveBack_63 : decode b_Dv_giveBack 63 = .ok (.lushr, 1) := by decide +kernel
theorem d_Dv_giveBack_64 : decode b_Dv_giveBack 64 = .ok (.lstore_n 2, 1) := by decide +kernel
theorem d_Dv_giveBack_65 : decode b_Dv_giveBack 65 = .ok (.iinc 4 1, 3) := by decide +kernel
theorem d_Dv_giveBack_68 : decode b_Dv_giveBack 68 = .ok (.goto (-63), 3) := by decide +kernel
theorem d_Dv_giveBack_71 : decode b_Dv_giveBack 71 = .ok (.return_, 1) := by decide +kernel
theorem c_Dv_guessDigit (l : Launch) {g : Gh} (nx : Nat) {o n z t : Nat} {e r : Nat → Nat} (hD : DV g o) (hv : RN g (o + 1) 20 n e) (hr : RN g (o + 5) 20 z r) (hn : 1 ≤ n) (hv1 : 2147483648 ≤ e (n - 1)) (ht : t < z) (ht1 : 1 ≤ t) (hrt : r t ≤ e (n - 1)) :
    Ct l m_Dv_guessDigit 0 0 [.ref o, .int (nI t)] g nx (pP (some (.long (lN (min 4294967295 (((r t * 4294967296 + r (t - 1)) * 4294967296 + dz z r ((t : Int) - 2)) / (e (n - 1) * 4294967296 + dz n e ((n : Int) - 2))))))) g nx) := by
  have hD' := hD
  unfold DV at hD'
  obtain ⟨v1, v2, v3, v4, v5⟩ := id hv
  obtain ⟨r1, r2, r3, r4, r5⟩ := id hr
  have b1 := v5 (n - 1)
  have b2 := dz_lt (n := n) v5 ((n : Int) - 2)
  have b3 := r5 t
  have b4 := r5 (t - 1)
  have b5 := dz_lt (n := z) r5 ((t : Int) - 2)
  generalize hF : e (n - 1) = F at hv1 hrt b1 ⊢
  generalize hS : dz n e ((n : Int) - 2) = S at b2 ⊢
  generalize hR0 : r t = R0 at hrt b3 ⊢
  generalize hR1 : r (t - 1) = R1 at b4 ⊢
  generalize hR2 : dz z r ((t : Int) - 2) = R2 at b5 ⊢
  have o1 : nI n - 1 = nI (n - 1) := pk_sub (a := n) (b := 1) hn
  have o2 : (nI n - nI 2).toInt = (n : Int) - 2 := pk_sub_toInt (by omega) (by omega)
  have o3 : nI t - 1 = nI (t - 1) := pk_sub (a := t) (b := 1) ht1
  have o4 : (nI t - nI 2).toInt = (t : Int) - 2 := pk_sub_toInt (by omega) (by omega)
  obtain ⟨Ld, hLd⟩ : ∃ L, R0 * 4294967296 + R1 = L := ⟨_, rfl⟩
  rw [hLd]
  have hLdB : Ld < 18446744073709551616 := by omega
  obtain ⟨T, hT⟩ : ∃ T, (Ld * 4294967296 + R2) / (F * 4294967296 + S) = T := ⟨_, rfl⟩
  rw [hT]
  have hTle : T ≤ Ld / F := by
    rw [← hT]
    exact q_le (by omega) b5 (Nat.div_mul_le_self _ _)
  refine Ct.of (by decide) (Nat.le_of_ble_eq_true rfl) (fun E hE hQ => ?_)
  have fin : ∀ {lv : List (Nat × Value)} {q : Nat}, lG lv 8 = some (.long (lN q)) → q ≤ 4294967295 → min 4294967295 T ≤ q → q * (F * 4294967296 + S) ≤ Ld * 4294967296 + R2 → zJ E g nx 0 0 165 lv [] := by
    intro lv q l8 h1 h2 h3
    refine z_sub (lv' := [(8, .long (lN q))]) (by simp only [List.map, l8]) ?_
    refine z_lload hE d_Dv_guessDigit_165 rfl ?_
    refine z_lret hE hQ d_Dv_guessDigit_167 rfl (Nat.le_refl _) (Nat.le_refl _) ⟨?_, rfl, rfl⟩
    have h4 : q ≤ T := by
      rw [← hT, Nat.le_div_iff_mul_le (by omega)]; exact h3
    congr 3
    omega
  have loop : ∀ (u i q : Nat), i + u = 2 → q ≤ 4294967295 → q * F ≤ Ld → Ld - q * F ≤ 4294967296 * 3 → min 4294967295 T ≤ q → q + i ≤ T + 2 → ∀ lv, lG lv 0 = some (.ref o) → lG lv 1 = some (.int (nI t)) → lG lv 2 = some (.long (lN F)) → lG lv 4 = some (.long (lN S)) → lG lv 6 = some (.long (lN Ld)) → lG lv 8 = some (.long (lN q)) → lG lv 10 = some (.long (lN (Ld - q * F))) → lG lv 12 = some (.int (nI i)) → zJ E g nx 0 0 98 lv [] := by
    intro u
    induction u with
    | zero =>
      intro i q hi hq hqF hle hmin hqi lv l0 l1 l2 l4 l6 l8 l10 l12
      refine z_sub (lv' := [(0, .ref o), (1, .int (nI t)), (2, .long (lN F)), (4, .long (lN S)), (6, .long (lN Ld)), (8, .long (lN q)), (10, .long (lN (Ld - q * F))), (12, .int (nI i))]) (by simp only [List.map, l0, l1, l2, l4, l6, l8, l10, l12]) ?_
      refine z_iload hE d_Dv_guessDigit_98 rfl ?_
      refine z_iconst (v := nI 2) hE d_Dv_guessDigit_100 (by decide) ?_
      refine z_icmp_ge (tgt := 165) hE d_Dv_guessDigit_101 (by decide) (fun c_101 => ?_) (fun c_101 => ?_)
      · refine fin rfl hq hmin ?_
        have : q ≤ T := by omega
        rw [← hT, Nat.le_div_iff_mul_le (by omega)] at this
        exact this
      · exact absurd ((nI_LE (by omega) (by omega)).mpr (by omega)) c_101
    | succ u ih =>
      intro i q hi hq hqF hle hmin hqi lv l0 l1 l2 l4 l6 l8 l10 l12
      refine z_sub (lv' := [(0, .ref o), (1, .int (nI t)), (2, .long (lN F)), (4, .long (lN S)), (6, .long (lN Ld)), (8, .long (lN q)), (10, .long (lN (Ld - q * F))), (12, .int (nI i))]) (by simp only [List.map, l0, l1, l2, l4, l6, l8, l10, l12]) ?_
      have hqS : q * S ≤ 4294967295 * 4294967295 := Nat.mul_le_mul hq (by omega)
      have hqW : q * (F * 4294967296 + S) = q * F * 4294967296 + q * S := by rw [Nat.mul_add, ← Nat.mul_assoc]
      generalize hq1 : q * F = QF at hqF hle hqW ⊢
      refine z_iload hE d_Dv_guessDigit_98 rfl ?_
      refine z_iconst (v := nI 2) hE d_Dv_guessDigit_100 (by decide) ?_
      refine z_icmp_ge (tgt := 165) hE d_Dv_guessDigit_101 (by decide) (fun c_101 => ?_) (fun c_101 => ?_)
      · exact absurd ((nI_LE (by omega) (by omega)).mp c_101) (by omega)
      · refine z_lload hE d_Dv_guessDigit_104 rfl ?_
        refine z_ldc2 hE d_Dv_guessDigit_106 cn_Dv_79 ?_
        refine z_lcmp hE d_Dv_guessDigit_109 ?_
        refine z_if_gt (tgt := 165) hE d_Dv_guessDigit_110 (by decide) (fun c_110 => ?_) (fun c_110 => ?_)
        · rw [lg_cmp_gt, show (4294967295 : Int64) = lN 4294967295 from rfl, pk_lLT (by omega) (by omega)] at c_110
          exact fin rfl hq hmin (by rw [hqW]; omega)
        · rw [lg_cmp_gt, show (4294967295 : Int64) = lN 4294967295 from rfl, pk_lLT (by omega) (by omega)] at c_110
          refine z_lload hE d_Dv_guessDigit_113 rfl ?_
          refine z_bipush (v := 32) hE d_Dv_guessDigit_115 (by decide) ?_
          refine z_lshl (v := lN ((Ld - QF) * 4294967296)) hE d_Dv_guessDigit_117 (l_shl) ?_
          refine z_aload_n hE d_Dv_guessDigit_118 rfl ?_
          refine z_get hE d_Dv_guessDigit_119 fl_Dv_23 (by assumption) rfl ?_
          refine z_iload_n hE d_Dv_guessDigit_122 rfl ?_
          refine z_iconst (v := nI 2) hE d_Dv_guessDigit_123 (by decide) ?_
          refine z_isub hE d_Dv_guessDigit_124 (rfl) ?_
          refine z_callV hE d_Dv_guessDigit_125 cl_Dv_45 (c_Na_at l nx hr (nI t - nI 2)) (by assumption) cb_Na rfl (Nat.le_of_ble_eq_true rfl) ⟨by decide, by decide⟩ ⟨by omega, by omega⟩ (fun r_125 g_125 nx_125 hp_125 => ?_) rfl
          obtain ⟨rfl, rfl, rfl⟩ := hp_125
          try dsimp only [Option.toList, List.nil_append, List.cons_append]
          rw [o4, hR2]
          refine z_lor (v := lN ((Ld - QF) * 4294967296 + R2)) hE d_Dv_guessDigit_128 (l_or b5 (by omega)) ?_
          refine z_lstore hE d_Dv_guessDigit_129 (by decide) ?_
          refine z_lload hE d_Dv_guessDigit_131 rfl ?_
          refine z_lload hE d_Dv_guessDigit_133 rfl ?_
          refine z_lmul (v := lN (q * S)) hE d_Dv_guessDigit_135 (lN_mul _ _) ?_
          refine z_lload hE d_Dv_guessDigit_136 rfl ?_
          refine z_callS hE d_Dv_guessDigit_138 cl_Dv_85 (c_Dv_isAbove l g nx (q * S) ((Ld - QF) * 4294967296 + R2) (by omega) (by omega)) rfl (Nat.le_of_ble_eq_true rfl) ⟨by decide, by decide⟩ ⟨by omega, by omega⟩ (fun r_138 g_138 nx_138 hp_138 => ?_) rfl
          obtain ⟨rfl, rfl, rfl⟩ := hp_138
          try dsimp only [Option.toList, List.nil_append, List.cons_append]
          by_cases hab : (Ld - QF) * 4294967296 + R2 < q * S
          · rw [if_pos hab]
            refine z_if_ne (tgt := 147) hE d_Dv_guessDigit_141 (by decide) (fun c_141 => ?_) (fun c_141 => ?_)
            · have hgt : T < q := by
                exact q_gt hT (by omega) hqW hqF hab
              have hq0 : 1 ≤ q := by omega
              have hqF2 : (q - 1) * F = QF - F := by rw [Nat.sub_mul, Nat.one_mul, hq1]
              have hFQ : F ≤ QF := by
                rw [← hq1]
                exact Nat.le_mul_of_pos_left F hq0
              refine z_lload hE d_Dv_guessDigit_147 rfl ?_
              refine z_lconst (v := lN 1) hE d_Dv_guessDigit_149 (by decide) ?_
              refine z_lsub (v := lN (q - 1)) hE d_Dv_guessDigit_150 (lN_sub hq0) ?_
              refine z_lstore hE d_Dv_guessDigit_151 (by decide) ?_
              refine z_lload hE d_Dv_guessDigit_153 rfl ?_
              refine z_lload_n hE d_Dv_guessDigit_155 rfl ?_
              refine z_ladd (v := lN (Ld - (q - 1) * F)) hE d_Dv_guessDigit_156 (by rw [hqF2, lN_add]; congr 1; omega) ?_
              refine z_lstore hE d_Dv_guessDigit_157 (by decide) ?_
              refine z_iinc (v := nI (i + 1)) hE d_Dv_guessDigit_159 rfl (nI_1 i) (by decide) ?_
              refine z_goto (tgt := 98) hE d_Dv_guessDigit_162 (by decide) ?_
              exact ih (i + 1) (q - 1) (by omega) (by omega) (by omega) (by rw [hqF2]; omega) (by omega) (by omega) _ rfl rfl rfl rfl rfl rfl rfl rfl
            · exact absurd c_141 (by decide)
          · rw [if_neg hab]
            refine z_if_ne (tgt := 147) hE d_Dv_guessDigit_141 (by decide) (fun c_141 => ?_) (fun c_141 => ?_)
            · exact absurd rfl c_141
            · refine z_goto (tgt := 165) hE d_Dv_guessDigit_144 (by decide) ?_
              exact fin rfl hq hmin (by rw [hqW]; omega)
  refine z_aload_n hE d_Dv_guessDigit_0 rfl ?_
  refine z_get hE d_Dv_guessDigit_1 fl_Dv_14 (by assumption) rfl ?_
  refine z_aload_n hE d_Dv_guessDigit_4 rfl ?_
  refine z_get hE d_Dv_guessDigit_5 fl_Dv_14 (by assumption) rfl ?_
  refine z_getN hE d_Dv_guessDigit_8 fl_Dv_41 (by assumption) rfl ?_
  refine z_iconst (v := 1) hE d_Dv_guessDigit_11 (by decide) ?_
  refine z_isub (v := nI (n - 1)) hE d_Dv_guessDigit_12 (o1) ?_
  refine z_callV hE d_Dv_guessDigit_13 cl_Dv_45 (c_Na_at l nx hv (nI (n - 1))) (by assumption) cb_Na rfl (Nat.le_of_ble_eq_true rfl) ⟨by decide, by decide⟩ ⟨by omega, by omega⟩ (fun r_13 g_13 nx_13 hp_13 => ?_) rfl
  obtain ⟨rfl, rfl, rfl⟩ := hp_13
  try dsimp only [Option.toList, List.nil_append, List.cons_append]
  rw [dz_n (by omega), dzf_in (by omega), hF]
  refine z_lstore_n hE d_Dv_guessDigit_16 rfl (by decide) ?_
  refine z_aload_n hE d_Dv_guessDigit_17 rfl ?_
  refine z_get hE d_Dv_guessDigit_18 fl_Dv_14 (by assumption) rfl ?_
  refine z_aload_n hE d_Dv_guessDigit_21 rfl ?_
  refine z_get hE d_Dv_guessDigit_22 fl_Dv_14 (by assumption) rfl ?_
  refine z_getN hE d_Dv_guessDigit_25 fl_Dv_41 (by assumption) rfl ?_
  refine z_iconst (v := nI 2) hE d_Dv_guessDigit_28 (by decide) ?_
  refine z_isub hE d_Dv_guessDigit_29 (rfl) ?_
  refine z_callV hE d_Dv_guessDigit_30 cl_Dv_45 (c_Na_at l nx hv (nI n - nI 2)) (by assumption) cb_Na rfl (Nat.le_of_ble_eq_true rfl) ⟨by decide, by decide⟩ ⟨by omega, by omega⟩ (fun r_30 g_30 nx_30 hp_30 => ?_) rfl
  obtain ⟨rfl, rfl, rfl⟩ := hp_30
  try dsimp only [Option.toList, List.nil_append, List.cons_append]
  rw [o2, hS]
  refine z_lstore hE d_Dv_guessDigit_33 (by decide) ?_
  refine z_aload_n hE d_Dv_guessDigit_35 rfl ?_
  refine z_get hE d_Dv_guessDigit_36 fl_Dv_23 (by assumption) rfl ?_
  refine z_iload_n hE d_Dv_guessDigit_39 rfl ?_
  refine z_callV hE d_Dv_guessDigit_40 cl_Dv_45 (c_Na_at l nx hr (nI t)) (by assumption) cb_Na rfl (Nat.le_of_ble_eq_true rfl) ⟨by decide, by decide⟩ ⟨by omega, by omega⟩ (fun r_40 g_40 nx_40 hp_40 => ?_) rfl
  obtain ⟨rfl, rfl, rfl⟩ := hp_40
  try dsimp only [Option.toList, List.nil_append, List.cons_append]
  rw [dz_n (by omega), dzf_in ht, hR0]
  refine z_bipush (v := 32) hE d_Dv_guessDigit_43 (by decide) ?_
  refine z_lshl (v := lN (R0 * 4294967296)) hE d_Dv_guessDigit_45 (l_shl) ?_
  refine z_aload_n hE d_Dv_guessDigit_46 rfl ?_
  refine z_get hE d_Dv_guessDigit_47 fl_Dv_23 (by assumption) rfl ?_
  refine z_iload_n hE d_Dv_guessDigit_50 rfl ?_
  refine z_iconst (v := 1) hE d_Dv_guessDigit_51 (by decide) ?_
  refine z_isub (v := nI (t - 1)) hE d_Dv_guessDigit_52 (o3) ?_
  refine z_callV hE d_Dv_guessDigit_53 cl_Dv_45 (c_Na_at l nx hr (nI (t - 1))) (by assumption) cb_Na rfl (Nat.le_of_ble_eq_true rfl) ⟨by decide, by decide⟩ ⟨by omega, by omega⟩ (fun r_53 g_53 nx_53 hp_53 => ?_) rfl
  obtain ⟨rfl, rfl, rfl⟩ := hp_53
  try dsimp only [Option.toList, List.nil_append, List.cons_append]
  rw [dz_n (by omega), dzf_in (by omega), hR1]
  refine z_lor (v := lN Ld) hE d_Dv_guessDigit_56 (by rw [← hLd]; exact l_or b4 b3) ?_
  refine z_lstore hE d_Dv_guessDigit_57 (by decide) ?_
  refine z_aload_n hE d_Dv_guessDigit_59 rfl ?_
  refine z_get hE d_Dv_guessDigit_60 fl_Dv_23 (by assumption) rfl ?_
  refine z_iload_n hE d_Dv_guessDigit_63 rfl ?_
  refine z_callV hE d_Dv_guessDigit_64 cl_Dv_45 (c_Na_at l nx hr (nI t)) (by assumption) cb_Na rfl (Nat.le_of_ble_eq_true rfl) ⟨by decide, by decide⟩ ⟨by omega, by omega⟩ (fun r_64 g_64 nx_64 hp_64 => ?_) rfl
  obtain ⟨rfl, rfl, rfl⟩ := hp_64
  try dsimp only [Option.toList, List.nil_append, List.cons_append]
  rw [dz_n (by omega), dzf_in ht, hR0]
  have start : ∀ q, q ≤ 4294967295 → q * F ≤ Ld → Ld - q * F ≤ 4294967296 * 3 → min 4294967295 T ≤ q → ∀ lv, lG lv 0 = some (.ref o) → lG lv 1 = some (.int (nI t)) → lG lv 2 = some (.long (lN F)) → lG lv 4 = some (.long (lN S)) → lG lv 6 = some (.long (lN Ld)) → zJ E g nx 0 0 84 lv [.long (lN q)] := by
    intro q hq hqF hle hmin lv l0 l1 l2 l4 l6
    refine z_sub (lv' := [(0, .ref o), (1, .int (nI t)), (2, .long (lN F)), (4, .long (lN S)), (6, .long (lN Ld))]) (by simp only [List.map, l0, l1, l2, l4, l6]) ?_
    refine z_lstore hE d_Dv_guessDigit_84 (by decide) ?_
    refine z_lload hE d_Dv_guessDigit_86 rfl ?_
    refine z_lload hE d_Dv_guessDigit_88 rfl ?_
    refine z_lload_n hE d_Dv_guessDigit_90 rfl ?_
    refine z_lmul (v := lN (q * F)) hE d_Dv_guessDigit_91 (lN_mul _ _) ?_
    refine z_lsub (v := lN (Ld - q * F)) hE d_Dv_guessDigit_92 (lN_sub hqF) ?_
    refine z_lstore hE d_Dv_guessDigit_93 (by decide) ?_
    refine z_iconst (v := nI 0) hE d_Dv_guessDigit_95 (by decide) ?_
    refine z_istore hE d_Dv_guessDigit_96 (by decide) ?_
    refine loop 2 0 q (by omega) hq hqF hle hmin ?_ _ rfl rfl rfl rfl rfl rfl rfl rfl
    have h1 := q_two (r := R2) hv1 b2 hq hqF
    rw [hT] at h1
    omega
  refine z_lload_n hE d_Dv_guessDigit_67 rfl ?_
  refine z_lcmp hE d_Dv_guessDigit_68 ?_
  refine z_if_lt (tgt := 78) hE d_Dv_guessDigit_69 (by decide) (fun c_69 => ?_) (fun c_69 => ?_)
  · rw [lg_cmp_lt, pk_lLT (by omega) (by omega)] at c_69
    refine z_lload hE d_Dv_guessDigit_78 rfl ?_
    refine z_lload_n hE d_Dv_guessDigit_80 rfl ?_
    refine z_callS hE d_Dv_guessDigit_81 cl_Dv_81 (c_Dv_divideUnsigned l g nx Ld F hLdB (by omega) b1) rfl (Nat.le_of_ble_eq_true rfl) ⟨by decide, by decide⟩ ⟨by omega, by omega⟩ (fun r_81 g_81 nx_81 hp_81 => ?_) rfl
    obtain ⟨rfl, rfl, rfl⟩ := hp_81
    try dsimp only [Option.toList, List.nil_append, List.cons_append]
    have hqB : Ld / F ≤ 4294967295 := by
      have : Ld / F < 4294967296 := by
        rw [Nat.div_lt_iff_lt_mul (by omega)]
        have := Nat.mul_le_mul_right 4294967296 (show R0 + 1 ≤ F by omega)
        omega
      omega
    have hq2 := Nat.div_mul_le_self Ld F
    have hq3 : Ld - Ld / F * F < F := by
      have h1 := Nat.mod_add_div Ld F
      have h2 := Nat.mod_lt Ld (show F > 0 by omega)
      rw [Nat.mul_comm] at h1
      omega
    exact start (Ld / F) hqB hq2 (by omega) (by omega) _ rfl rfl rfl rfl rfl
  · rw [lg_cmp_lt, pk_lLT (by omega) (by omega)] at c_69
    have hR0F : R0 = F := by omega
    refine z_ldc2 hE d_Dv_guessDigit_72 cn_Dv_79 ?_
    refine z_goto (tgt := 84) hE d_Dv_guessDigit_75 (by decide) ?_
    have hq2 : 4294967295 * F ≤ Ld := by omega
    exact start 4294967295 (Nat.le_refl _) hq2 (by omega) (Nat.min_le_left _ _) _ rfl rfl rfl rfl rfl
theorem sh_up {r : Nat → Nat} {k j x : Nat} : sh (upN r (k + j) x) k = upN (sh r k) j x := by
  funext i
  unfold sh upN
  by_cases h : i = j
  · rw [if_pos h, if_pos (by omega)]
  · rw [if_neg h, if_neg (by omega)]
theorem i2l_01 (b : Bool) : (if b then (1 : Int32) else 0).toInt64 = lN (if b then 1 else 0) := by cases b <;> rfl
/-- takes q times the divisor off the rest, from place k on; tells whether that was too much -/
theorem c_Dv_takeTimes (l : Launch) {g : Gh} (nx : Nat) {o n z k q : Nat} {e r : Nat → Nat} (hD : DV g o) (hv : RN g (o + 1) 20 n e) (hr : RN g (o + 5) 20 z r) (hq : q ≤ 4294967295) (hk : k + n < z) :
    Ct l m_Dv_takeTimes 0 0 [.ref o, .long (lN q), .int (nI k)] g nx (fun v g' nx' => nx = nx' ∧ ∃ (r' : Nat → Nat) (b : Nat), b ≤ 1 ∧ v = some (.int (nI b)) ∧ g' = gN g (o + 5) 20 z r' ∧ (∀ j, r' j < 4294967296) ∧ (∀ j, j < k ∨ k + n < j → r' j = r j) ∧ val (sh r' k) (n + 1) + q * val e n = val (sh r k) (n + 1) + b * 4294967296 ^ (n + 1)) := by
  have hD' := hD
  unfold DV at hD'
  obtain ⟨v1, v2, v3, v4, v5⟩ := id hv
  obtain ⟨r1, r2, r3, r4, r5⟩ := id hr
  refine Ct.of (by decide) (Nat.le_of_ble_eq_true rfl) (fun E hE hQ => ?_)
  have loop : ∀ (u j c : Nat) (r' : Nat → Nat), j + u = n → c ≤ 4294967295 → (∀ i, r' i < 4294967296) → (∀ i, i < k ∨ k + j ≤ i → r' i = r i) → val (sh r' k) j + q * val e j = val (sh r k) j + c * 4294967296 ^ j → ∀ lv, lG lv 0 = some (.ref o) → lG lv 1 = some (.long (lN q)) → lG lv 3 = some (.int (nI k)) → lG lv 4 = some (.long (lN c)) → lG lv 6 = some (.int (nI j)) → zJ E (gN g (o + 5) 20 z r') nx 0 0 6 lv [] := by
    intro u
    induction u with
    | zero =>
      intro j c r' hj hc hr' hx hval lv l0 l1 l3 l4 l6
      have hjn : j = n := by omega
      subst hjn
      refine z_sub (lv' := [(0, .ref o), (1, .long (lN q)), (3, .int (nI k)), (4, .long (lN c)), (6, .int (nI j))]) (by simp only [List.map, l0, l1, l3, l4, l6]) ?_
      have hR : RN (gN g (o + 5) 20 z r') (o + 5) 20 z r' := RN_gN (by omega) (by omega) hr'
      have hV : RN (gN g (o + 5) 20 z r') (o + 1) 20 j e := RN_o hr hv (by omega)
      have hD2 := DV_N (N := 20) (n := z) (d := r') hD (show o ≠ o + 5 by omega) (show o ≠ o + 5 + 1 by omega)
      unfold DV at hD2
      obtain ⟨q1, q2, -⟩ := id hR
      obtain ⟨p1, p2, -⟩ := id hV
      have x1 := r5 (k + j)
      have hrk : r' (k + j) = r (k + j) := hx _ (Or.inr (Nat.le_refl _))
      refine z_iload hE d_Dv_takeTimes_6 rfl ?_
      refine z_aload_n hE d_Dv_takeTimes_8 rfl ?_
      refine z_get hE d_Dv_takeTimes_9 fl_Dv_14 (by assumption) rfl ?_
      refine z_getN hE d_Dv_takeTimes_12 fl_Dv_41 (by assumption) rfl ?_
      refine z_icmp_ge (tgt := 98) hE d_Dv_takeTimes_15 (by decide) (fun c_15 => ?_) (fun c_15 => ?_)
      · refine z_aload_n hE d_Dv_takeTimes_98 rfl ?_
        refine z_get hE d_Dv_takeTimes_99 fl_Dv_23 (by assumption) rfl ?_
        refine z_iload_n hE d_Dv_takeTimes_102 rfl ?_
        refine z_aload_n hE d_Dv_takeTimes_103 rfl ?_
        refine z_get hE d_Dv_takeTimes_104 fl_Dv_14 (by assumption) rfl ?_
        refine z_getN hE d_Dv_takeTimes_107 fl_Dv_41 (by assumption) rfl ?_
        refine z_iadd (v := nI (k + j)) hE d_Dv_takeTimes_110 (nI_add _ _) ?_
        refine z_callV hE d_Dv_takeTimes_111 cl_Dv_45 (c_Na_at l nx hR (nI (k + j))) (by assumption) cb_Na rfl (Nat.le_of_ble_eq_true rfl) ⟨by decide, by decide⟩ ⟨by omega, by omega⟩ (fun r_111 g_111 nx_111 hp_111 => ?_) rfl
        obtain ⟨rfl, rfl, rfl⟩ := hp_111
        try dsimp only [Option.toList, List.nil_append, List.cons_append]
        rw [dz_n (by omega), dzf_in (by omega), hrk]
        generalize hX : r (k + j) = X at x1
        refine z_lload hE d_Dv_takeTimes_114 rfl ?_
        refine z_lsub (v := lN (X + (18446744073709551616 - c))) hE d_Dv_takeTimes_116 (l_sub _ (by omega)) ?_
        refine z_lstore hE d_Dv_takeTimes_117 (by decide) ?_
        refine z_aload_n hE d_Dv_takeTimes_119 rfl ?_
        refine z_get hE d_Dv_takeTimes_120 fl_Dv_23 (by assumption) rfl ?_
        refine z_iload_n hE d_Dv_takeTimes_123 rfl ?_
        refine z_aload_n hE d_Dv_takeTimes_124 rfl ?_
        refine z_get hE d_Dv_takeTimes_125 fl_Dv_14 (by assumption) rfl ?_
        refine z_getN hE d_Dv_takeTimes_128 fl_Dv_41 (by assumption) rfl ?_
        refine z_iadd (v := nI (k + j)) hE d_Dv_takeTimes_131 (nI_add _ _) ?_
        refine z_lload hE d_Dv_takeTimes_132 rfl ?_
        refine z_ldc2 hE d_Dv_takeTimes_134 cn_Dv_79 ?_
        refine z_land (v := lN ((X + (18446744073709551616 - c)) % 4294967296)) hE d_Dv_takeTimes_137 (l_maskA _) ?_
        refine z_callV hE d_Dv_takeTimes_138 cl_Dv_69 (c_Na_store l nx hR (k := k + j) (by omega) ((X + (18446744073709551616 - c)) % 4294967296)) (by assumption) cb_Na rfl (Nat.le_of_ble_eq_true rfl) ⟨by decide, by decide⟩ ⟨by omega, by omega⟩ (fun r_138 g_138 nx_138 hp_138 => ?_) rfl
        obtain ⟨rfl, rfl, rfl⟩ := hp_138
        try dsimp only [Option.toList, List.nil_append, List.cons_append]
        rw [gN_gN]
        have fin : ∀ b, b ≤ 1 → (X + (18446744073709551616 - c)) % 4294967296 + c = X + b * 4294967296 → zRt E 0 0 (fun v g' nx' => nx = nx' ∧ ∃ (r' : Nat → Nat) (b : Nat), b ≤ 1 ∧ v = some (.int (nI b)) ∧ g' = gN g (o + 5) 20 z r' ∧ (∀ i, r' i < 4294967296) ∧ (∀ i, i < k ∨ k + j < i → r' i = r i) ∧ val (sh r' k) (j + 1) + q * val e j = val (sh r k) (j + 1) + b * 4294967296 ^ (j + 1)) → ∀ lv, zJ E (gN g (o + 5) 20 z (upN r' (k + j) ((X + (18446744073709551616 - c)) % 4294967296))) nx 0 0 153 lv [.int (nI b)] := by
          intro b hb heq hQ2 lv
          refine z_zret hE hQ2 d_Dv_takeTimes_153 rfl (Nat.le_refl _) (Nat.le_refl _) ?_ ⟨rfl, _, b, hb, rfl, rfl, upN_lt hr' (Nat.mod_lt _ (by decide)), fun i hi => ?_, ?_⟩
          · rcases (show b = 0 ∨ b = 1 by omega) with h | h
            · left; rw [h]; rfl
            · right; rw [h]; rfl
          · rw [upN_n (by omega)]; exact hx i (by omega)
          · rw [sh_up, val_upN, val_s, Bs]
            show _ = _ + r (k + j) * _ + _
            rw [hX]
            have h1 := congrArg (fun y => y * 4294967296 ^ j) heq
            simp only [Nat.add_mul, Nat.mul_assoc] at h1
            omega
        refine z_lload hE d_Dv_takeTimes_141 rfl ?_
        refine z_lconst (v := lN 0) hE d_Dv_takeTimes_143 (by decide) ?_
        refine z_lcmp hE d_Dv_takeTimes_144 ?_
        refine z_if_ge (tgt := 152) hE d_Dv_takeTimes_145 (by decide) (fun c_145 => ?_) (fun c_145 => ?_)
        · rw [lg_cmp_ge, lN_nn] at c_145
          refine z_iconst (v := nI 0) hE d_Dv_takeTimes_152 (by decide) ?_
          exact fin 0 (by omega) (by omega) hQ _
        · rw [lg_cmp_ge, lN_nn] at c_145
          refine z_iconst (v := nI 1) hE d_Dv_takeTimes_148 (by decide) ?_
          refine z_goto (tgt := 153) hE d_Dv_takeTimes_149 (by decide) ?_
          exact fin 1 (by omega) (by omega) hQ _
      · exact absurd ((nI_LE (by omega) (by omega)).mpr (by omega)) c_15
    | succ u ih =>
      intro j c r' hj hc hr' hx hval lv l0 l1 l3 l4 l6
      refine z_sub (lv' := [(0, .ref o), (1, .long (lN q)), (3, .int (nI k)), (4, .long (lN c)), (6, .int (nI j))]) (by simp only [List.map, l0, l1, l3, l4, l6]) ?_
      have hR : RN (gN g (o + 5) 20 z r') (o + 5) 20 z r' := RN_gN (by omega) (by omega) hr'
      have hV : RN (gN g (o + 5) 20 z r') (o + 1) 20 n e := RN_o hr hv (by omega)
      have hD2 := DV_N (N := 20) (n := z) (d := r') hD (show o ≠ o + 5 by omega) (show o ≠ o + 5 + 1 by omega)
      unfold DV at hD2
      obtain ⟨q1, q2, -⟩ := id hR
      obtain ⟨p1, p2, -⟩ := id hV
      have x1 := r5 (k + j)
      have x2 := v5 j
      have x3 : q * e j ≤ 4294967295 * 4294967295 := Nat.mul_le_mul hq (by omega)
      have hrk : r' (k + j) = r (k + j) := hx _ (Or.inr (Nat.le_refl _))
      refine z_iload hE d_Dv_takeTimes_6 rfl ?_
      refine z_aload_n hE d_Dv_takeTimes_8 rfl ?_
      refine z_get hE d_Dv_takeTimes_9 fl_Dv_14 (by assumption) rfl ?_
      refine z_getN hE d_Dv_takeTimes_12 fl_Dv_41 (by assumption) rfl ?_
      refine z_icmp_ge (tgt := 98) hE d_Dv_takeTimes_15 (by decide) (fun c_15 => ?_) (fun c_15 => ?_)
      · exact absurd ((nI_LE (by omega) (by omega)).mp c_15) (by omega)
      · refine z_lload_n hE d_Dv_takeTimes_18 rfl ?_
        refine z_aload_n hE d_Dv_takeTimes_19 rfl ?_
        refine z_get hE d_Dv_takeTimes_20 fl_Dv_14 (by assumption) rfl ?_
        refine z_iload hE d_Dv_takeTimes_23 rfl ?_
        refine z_callV hE d_Dv_takeTimes_25 cl_Dv_45 (c_Na_at l nx hV (nI j)) (by assumption) cb_Na rfl (Nat.le_of_ble_eq_true rfl) ⟨by decide, by decide⟩ ⟨by omega, by omega⟩ (fun r_25 g_25 nx_25 hp_25 => ?_) rfl
        obtain ⟨rfl, rfl, rfl⟩ := hp_25
        try dsimp only [Option.toList, List.nil_append, List.cons_append]
        rw [dz_n (by omega), dzf_in (by omega)]
        refine z_lmul (v := lN (q * e j)) hE d_Dv_takeTimes_28 (lN_mul _ _) ?_
        refine z_lload hE d_Dv_takeTimes_29 rfl ?_
        refine z_ladd (v := lN (q * e j + c)) hE d_Dv_takeTimes_31 (lN_add _ _) ?_
        refine z_lstore hE d_Dv_takeTimes_32 (by decide) ?_
        refine z_aload_n hE d_Dv_takeTimes_34 rfl ?_
        refine z_get hE d_Dv_takeTimes_35 fl_Dv_23 (by assumption) rfl ?_
        refine z_iload_n hE d_Dv_takeTimes_38 rfl ?_
        refine z_iload hE d_Dv_takeTimes_39 rfl ?_
        refine z_iadd (v := nI (k + j)) hE d_Dv_takeTimes_41 (nI_add _ _) ?_
        refine z_callV hE d_Dv_takeTimes_42 cl_Dv_45 (c_Na_at l nx hR (nI (k + j))) (by assumption) cb_Na rfl (Nat.le_of_ble_eq_true rfl) ⟨by decide, by decide⟩ ⟨by omega, by omega⟩ (fun r_42 g_42 nx_42 hp_42 => ?_) rfl
        obtain ⟨rfl, rfl, rfl⟩ := hp_42
        try dsimp only [Option.toList, List.nil_append, List.cons_append]
        rw [dz_n (by omega), dzf_in (by omega), hrk]
        generalize hX : r (k + j) = X at x1
        obtain ⟨P, hP⟩ : ∃ P, q * e j + c = P := ⟨_, rfl⟩
        have hPB : P ≤ 4294967295 * 4294967296 := by omega
        rw [hP]
        refine z_lload hE d_Dv_takeTimes_45 rfl ?_
        refine z_ldc2 hE d_Dv_takeTimes_47 cn_Dv_79 ?_
        refine z_land (v := lN (P % 4294967296)) hE d_Dv_takeTimes_50 (l_mask (by omega)) ?_
        refine z_lsub (v := lN (X + (18446744073709551616 - P % 4294967296))) hE d_Dv_takeTimes_51 (l_sub _ (by omega)) ?_
        refine z_lstore hE d_Dv_takeTimes_52 (by decide) ?_
        refine z_lload hE d_Dv_takeTimes_54 rfl ?_
        refine z_bipush (v := 32) hE d_Dv_takeTimes_56 (by decide) ?_
        refine z_lushr (v := lN (P / 4294967296)) hE d_Dv_takeTimes_58 (l_shr (by omega)) ?_
        refine z_lload hE d_Dv_takeTimes_59 rfl ?_
        refine z_lconst (v := lN 0) hE d_Dv_takeTimes_61 (by decide) ?_
        have go : ∀ b, b ≤ 1 → (X + (18446744073709551616 - P % 4294967296)) % 4294967296 + P % 4294967296 = X + b * 4294967296 → ∀ lv, lG lv 0 = some (.ref o) → lG lv 1 = some (.long (lN q)) → lG lv 3 = some (.int (nI k)) → lG lv 6 = some (.int (nI j)) → lG lv 9 = some (.long (lN (X + (18446744073709551616 - P % 4294967296)))) → zJ E (gN g (o + 5) 20 z r') nx 0 0 71 lv [.int (nI b), .long (lN (P / 4294967296))] := by
          intro b hb heq lv l0 l1 l3 l6 l9
          refine z_sub (lv' := [(0, .ref o), (1, .long (lN q)), (3, .int (nI k)), (6, .int (nI j)), (9, .long (lN (X + (18446744073709551616 - P % 4294967296))))]) (by simp only [List.map, l0, l1, l3, l6, l9]) ?_
          refine z_i2l (v := lN b) hE d_Dv_takeTimes_71 (i2l_n (by omega)) ?_
          refine z_ladd (v := lN (P / 4294967296 + b)) hE d_Dv_takeTimes_72 (lN_add _ _) ?_
          refine z_lstore hE d_Dv_takeTimes_73 (by decide) ?_
          refine z_aload_n hE d_Dv_takeTimes_75 rfl ?_
          refine z_get hE d_Dv_takeTimes_76 fl_Dv_23 (by assumption) rfl ?_
          refine z_iload_n hE d_Dv_takeTimes_79 rfl ?_
          refine z_iload hE d_Dv_takeTimes_80 rfl ?_
          refine z_iadd (v := nI (k + j)) hE d_Dv_takeTimes_82 (nI_add _ _) ?_
          refine z_lload hE d_Dv_takeTimes_83 rfl ?_
          refine z_ldc2 hE d_Dv_takeTimes_85 cn_Dv_79 ?_
          refine z_land (v := lN ((X + (18446744073709551616 - P % 4294967296)) % 4294967296)) hE d_Dv_takeTimes_88 (l_maskA _) ?_
          refine z_callV hE d_Dv_takeTimes_89 cl_Dv_69 (c_Na_store l nx hR (k := k + j) (by omega) ((X + (18446744073709551616 - P % 4294967296)) % 4294967296)) (by assumption) cb_Na rfl (Nat.le_of_ble_eq_true rfl) ⟨by decide, by decide⟩ ⟨by omega, by omega⟩ (fun r_89 g_89 nx_89 hp_89 => ?_) rfl
          obtain ⟨rfl, rfl, rfl⟩ := hp_89
          try dsimp only [Option.toList, List.nil_append, List.cons_append]
          rw [gN_gN]
          refine z_iinc (v := nI (j + 1)) hE d_Dv_takeTimes_92 rfl (nI_1 j) (by decide) ?_
          refine z_goto (tgt := 6) hE d_Dv_takeTimes_95 (by decide) ?_
          refine ih (j + 1) (P / 4294967296 + b) _ (by omega) (by omega) (upN_lt hr' (Nat.mod_lt _ (by decide))) (fun i hi => ?_) ?_ _ rfl rfl rfl rfl rfl
          · rw [upN_n (by omega)]; exact hx i (by omega)
          · rw [sh_up, val_upN, val_s, val_s, Bs]
            show _ = _ + r (k + j) * _ + _
            rw [hX, Nat.mul_add, ← Nat.mul_assoc q (e j), Nat.add_mul (P / 4294967296)]
            generalize hY : (X + (18446744073709551616 - P % 4294967296)) % 4294967296 = Y at heq
            have h1 := congrArg (fun y => y * 4294967296 ^ j) heq
            simp only [Nat.add_mul, Nat.mul_assoc] at h1
            have h2 := dm_mul P (4294967296 ^ j)
            have h3 : P * 4294967296 ^ j = q * e j * 4294967296 ^ j + c * 4294967296 ^ j := by rw [← hP, Nat.add_mul]
            omega
        refine z_lcmp hE d_Dv_takeTimes_62 ?_
        refine z_if_ge (tgt := 70) hE d_Dv_takeTimes_63 (by decide) (fun c_63 => ?_) (fun c_63 => ?_)
        · rw [lg_cmp_ge, lN_nn] at c_63
          refine z_iconst (v := nI 0) hE d_Dv_takeTimes_70 (by decide) ?_
          exact go 0 (by omega) (by omega) _ rfl rfl rfl rfl rfl
        · rw [lg_cmp_ge, lN_nn] at c_63
          refine z_iconst (v := nI 1) hE d_Dv_takeTimes_66 (by decide) ?_
          refine z_goto (tgt := 71) hE d_Dv_takeTimes_67 (by decide) ?_
          exact go 1 (by omega) (by omega) _ rfl rfl rfl rfl rfl
  refine z_lconst (v := lN 0) hE d_Dv_takeTimes_0 (by decide) ?_
  refine z_lstore hE d_Dv_takeTimes_1 (by decide) ?_
  refine z_iconst (v := nI 0) hE d_Dv_takeTimes_3 (by decide) ?_
  refine z_istore hE d_Dv_takeTimes_4 (by decide) ?_
  exact z_g (gN_id hr).symm (loop n 0 0 r (by omega) (by omega) r5 (fun _ _ => rfl) rfl _ rfl rfl rfl rfl rfl)
theorem c_Dv_giveBack (l : Launch) {g : Gh} (nx : Nat) {o n z k : Nat} {e r : Nat → Nat} (hD : DV g o) (hv : RN g (o + 1) 20 n e) (hr : RN g (o + 5) 20 z r) (hk : k + n < z) :
    Ct l m_Dv_giveBack 0 0 [.ref o, .int (nI k)] g nx (fun v g' nx' => v = none ∧ nx = nx' ∧ ∃ (r' : Nat → Nat) (b : Nat), b ≤ 1 ∧ g' = gN g (o + 5) 20 z r' ∧ (∀ j, r' j < 4294967296) ∧ (∀ j, j < k ∨ k + n < j → r' j = r j) ∧ val (sh r' k) (n + 1) + b * 4294967296 ^ (n + 1) = val (sh r k) (n + 1) + val e n) := by
  have hD' := hD
  unfold DV at hD'
  obtain ⟨v1, v2, v3, v4, v5⟩ := id hv
  obtain ⟨r1, r2, r3, r4, r5⟩ := id hr
  refine Ct.of (by decide) (Nat.le_of_ble_eq_true rfl) (fun E hE hQ => ?_)
  have loop : ∀ (u j c : Nat) (r' : Nat → Nat), j + u = n + 1 → c ≤ 1 → (∀ i, r' i < 4294967296) → (∀ i, i < k ∨ k + j ≤ i → r' i = r i) → val (sh r' k) j + c * 4294967296 ^ j = val (sh r k) j + val (dzf n e) j → ∀ lv, lG lv 0 = some (.ref o) → lG lv 1 = some (.int (nI k)) → lG lv 2 = some (.long (lN c)) → lG lv 4 = some (.int (nI j)) → zJ E (gN g (o + 5) 20 z r') nx 0 0 5 lv [] := by
    intro u
    induction u with
    | zero =>
      intro j c r' hj hc hr' hx hval lv l0 l1 l2 l4
      have hjn : j = n + 1 := by omega
      subst hjn
      refine z_sub (lv' := [(0, .ref o), (1, .int (nI k)), (2, .long (lN c)), (4, .int (nI (n + 1)))]) (by simp only [List.map, l0, l1, l2, l4]) ?_
      have hV : RN (gN g (o + 5) 20 z r') (o + 1) 20 n e := RN_o hr hv (by omega)
      have hD2 := DV_N (N := 20) (n := z) (d := r') hD (show o ≠ o + 5 by omega) (show o ≠ o + 5 + 1 by omega)
      unfold DV at hD2
      obtain ⟨p1, p2, -⟩ := id hV
      refine z_iload hE d_Dv_giveBack_5 rfl ?_
      refine z_aload_n hE d_Dv_giveBack_7 rfl ?_
      refine z_get hE d_Dv_giveBack_8 fl_Dv_14 (by assumption) rfl ?_
      refine z_getN hE d_Dv_giveBack_11 fl_Dv_41 (by assumption) rfl ?_
      refine z_icmp_gt (tgt := 71) hE d_Dv_giveBack_14 (by decide) (fun c_14 => ?_) (fun c_14 => ?_)
      · refine z_vret hE hQ d_Dv_giveBack_71 rfl (Nat.le_refl _) (Nat.le_refl _) ⟨rfl, rfl, r', c, hc, rfl, hr', fun i hi => hx i (by omega), ?_⟩
        rw [hval, val_dzf (by omega)]
      · exact absurd ((nI_LT (by omega) (by omega)).mpr (by omega)) c_14
    | succ u ih =>
      intro j c r' hj hc hr' hx hval lv l0 l1 l2 l4
      refine z_sub (lv' := [(0, .ref o), (1, .int (nI k)), (2, .long (lN c)), (4, .int (nI j))]) (by simp only [List.map, l0, l1, l2, l4]) ?_
      have hR : RN (gN g (o + 5) 20 z r') (o + 5) 20 z r' := RN_gN (by omega) (by omega) hr'
      have hV : RN (gN g (o + 5) 20 z r') (o + 1) 20 n e := RN_o hr hv (by omega)
      have hD2 := DV_N (N := 20) (n := z) (d := r') hD (show o ≠ o + 5 by omega) (show o ≠ o + 5 + 1 by omega)
      unfold DV at hD2
      obtain ⟨q1, q2, -⟩ := id hR
      obtain ⟨p1, p2, -⟩ := id hV
      have x1 := r5 (k + j)
      have x2 := dzf_lt (n := n) v5 j
      have hrk : r' (k + j) = r (k + j) := hx _ (Or.inr (Nat.le_refl _))
      refine z_iload hE d_Dv_giveBack_5 rfl ?_
      refine z_aload_n hE d_Dv_giveBack_7 rfl ?_
      refine z_get hE d_Dv_giveBack_8 fl_Dv_14 (by assumption) rfl ?_
      refine z_getN hE d_Dv_giveBack_11 fl_Dv_41 (by assumption) rfl ?_
      refine z_icmp_gt (tgt := 71) hE d_Dv_giveBack_14 (by decide) (fun c_14 => ?_) (fun c_14 => ?_)
      · exact absurd ((nI_LT (by omega) (by omega)).mp c_14) (by omega)
      · refine z_aload_n hE d_Dv_giveBack_17 rfl ?_
        refine z_get hE d_Dv_giveBack_18 fl_Dv_23 (by assumption) rfl ?_
        refine z_iload_n hE d_Dv_giveBack_21 rfl ?_
        refine z_iload hE d_Dv_giveBack_22 rfl ?_
        refine z_iadd (v := nI (k + j)) hE d_Dv_giveBack_24 (nI_add _ _) ?_
        refine z_callV hE d_Dv_giveBack_25 cl_Dv_45 (c_Na_at l nx hR (nI (k + j))) (by assumption) cb_Na rfl (Nat.le_of_ble_eq_true rfl) ⟨by decide, by decide⟩ ⟨by omega, by omega⟩ (fun r_25 g_25 nx_25 hp_25 => ?_) rfl
        obtain ⟨rfl, rfl, rfl⟩ := hp_25
        try dsimp only [Option.toList, List.nil_append, List.cons_append]
        rw [dz_n (by omega), dzf_in (by omega), hrk]
        generalize hX : r (k + j) = X at x1
        refine z_aload_n hE d_Dv_giveBack_28 rfl ?_
        refine z_get hE d_Dv_giveBack_29 fl_Dv_14 (by assumption) rfl ?_
        refine z_iload hE d_Dv_giveBack_32 rfl ?_
        refine z_callV hE d_Dv_giveBack_34 cl_Dv_45 (c_Na_at l nx hV (nI j)) (by assumption) cb_Na rfl (Nat.le_of_ble_eq_true rfl) ⟨by decide, by decide⟩ ⟨by omega, by omega⟩ (fun r_34 g_34 nx_34 hp_34 => ?_) rfl
        obtain ⟨rfl, rfl, rfl⟩ := hp_34
        try dsimp only [Option.toList, List.nil_append, List.cons_append]
        rw [dz_n (by omega)]
        generalize hY : dzf n e j = Y at x2
        refine z_ladd (v := lN (X + Y)) hE d_Dv_giveBack_37 (lN_add _ _) ?_
        refine z_lload_n hE d_Dv_giveBack_38 rfl ?_
        refine z_ladd (v := lN (X + Y + c)) hE d_Dv_giveBack_39 (lN_add _ _) ?_
        refine z_lstore hE d_Dv_giveBack_40 (by decide) ?_
        refine z_aload_n hE d_Dv_giveBack_42 rfl ?_
        refine z_get hE d_Dv_giveBack_43 fl_Dv_23 (by assumption) rfl ?_
        refine z_iload_n hE d_Dv_giveBack_46 rfl ?_
        refine z_iload hE d_Dv_giveBack_47 rfl ?_
        refine z_iadd (v := nI (k + j)) hE d_Dv_giveBack_49 (nI_add _ _) ?_
        refine z_lload hE d_Dv_giveBack_50 rfl ?_
        refine z_ldc2 hE d_Dv_giveBack_52 cn_Dv_79 ?_
        refine z_land (v := lN ((X + Y + c) % 4294967296)) hE d_Dv_giveBack_55 (l_mask (by omega)) ?_
        refine z_callV hE d_Dv_giveBack_56 cl_Dv_69 (c_Na_store l nx hR (k := k + j) (by omega) ((X + Y + c) % 4294967296)) (by assumption) cb_Na rfl (Nat.le_of_ble_eq_true rfl) ⟨by decide, by decide⟩ ⟨by omega, by omega⟩ (fun r_56 g_56 nx_56 hp_56 => ?_) rfl
        obtain ⟨rfl, rfl, rfl⟩ := hp_56
        try dsimp only [Option.toList, List.nil_append, List.cons_append]
        rw [gN_gN]
        refine z_lload hE d_Dv_giveBack_59 rfl ?_
        refine z_bipush (v := 32) hE d_Dv_giveBack_61 (by decide) ?_
        refine z_lushr (v := lN ((X + Y + c) / 4294967296)) hE d_Dv_giveBack_63 (l_shr (by omega)) ?_
        refine z_lstore_n hE d_Dv_giveBack_64 rfl (by decide) ?_
        refine z_iinc (v := nI (j + 1)) hE d_Dv_giveBack_65 rfl (nI_1 j) (by decide) ?_
        refine z_goto (tgt := 5) hE d_Dv_giveBack_68 (by decide) ?_
        refine ih (j + 1) ((X + Y + c) / 4294967296) _ (by omega) (by omega) (upN_lt hr' (Nat.mod_lt _ (by decide))) (fun i hi => ?_) ?_ _ rfl rfl rfl rfl
        · rw [upN_n (by omega)]; exact hx i (by omega)
        · rw [sh_up, val_upN, val_s, val_s, Bs, hY]
          show _ = _ + r (k + j) * _ + _
          rw [hX]
          have h1 := dm_mul (X + Y + c) (4294967296 ^ j)
          rw [Nat.add_mul, Nat.add_mul] at h1
          omega
  refine z_lconst (v := lN 0) hE d_Dv_giveBack_0 (by decide) ?_
  refine z_lstore_n hE d_Dv_giveBack_1 rfl (by decide) ?_
  refine z_iconst (v := nI 0) hE d_Dv_giveBack_2 (by decide) ?_
  refine z_istore hE d_Dv_giveBack_3 (by decide) ?_
  exact z_g (gN_id hr).symm (loop (n + 1) 0 0 r (by omega) (by omega) r5 (fun _ _ => rfl) rfl _ rfl rfl rfl rfl)

