/-! the reference: rounding, exact longs -/
theorem d_Mo_signedLong_0 : decode b_Mo_signedLong 0 = .ok (.lconst 0, 1) := by decide +kernel
theorem d_Mo_signedLong_1 : decode b_Mo_signedLong 1 = .ok (.lstore_n 2, 1) := by decide +kernel
theorem d_Mo_signedLong_2 : decode b_Mo_signedLong 2 = .ok (.iconst 3, 1) := by decide +kernel
theorem d_Mo_signedLong_3 : decode b_Mo_signedLong 3 = .ok (.istore 4, 2) := by decide +kernel
theorem d_Mo_signedLong_5 : decode b_Mo_signedLong 5 = .ok (.iload 4, 2) := by decide +kernel
theorem d_Mo_signedLong_7 : decode b_Mo_signedLong 7 = .ok (.ifCond .lt 23, 3) := by decide +kernel
theorem d_Mo_signedLong_10 : decode b_Mo_signedLong 10 = .ok (.lload_n 2, 1) := by decide +kernel
theorem d_Mo_signedLong_11 : decode b_Mo_signedLong 11 = .ok (.bipush 16, 2) := by decide +kernel
theorem d_Mo_signedLong_13 : decode b_Mo_signedLong 13 = .ok (.lshl, 1) := by decide +kernel
theorem d_Mo_signedLong_14 : decode b_Mo_signedLong 14 = .ok (.aload_n 0, 1) := by decide +kernel
theorem d_Mo_signedLong_15 : decode b_Mo_signedLong 15 = .ok (.getfield 44, 3) := by decide +kernel
theorem d_Mo_signedLong_18 : decode b_Mo_signedLong 18 = .ok (.iload 4, 2) := by decide +kernel
theorem d_Mo_signedLong_20 : decode b_Mo_signedLong 20 = .ok (.iaload, 1) := by decide +kernel
theorem d_Mo_signedLong_21 : decode b_Mo_signedLong 21 = .ok (.i2l, 1) := by decide +kernel
theorem d_Mo_signedLong_22 : decode b_Mo_signedLong 22 = .ok (.lor, 1) := by decide +kernel
theorem d_Mo_signedLong_23 : decode b_Mo_signedLong 23 = .ok (.lstore_n 2, 1) := by decide +kernel
theorem d_Mo_signedLong_24 : decode b_Mo_signedLong 24 = .ok (.iinc 4 (-1), 3) := by decide +kernel
theorem d_Mo_signedLong_27 : decode b_Mo_signedLong 27 = .ok (.goto (-22), 3) := by decide +kernel
theorem d_Mo_signedLong_30 : decode b_Mo_signedLong 30 = .ok (.aload_n 0, 1) := by decide +kernel
theorem d_Mo_signedLong_31 : decode b_Mo_signedLong 31 = .ok (.getfield 44, 3) := by decide +kernel
theorem d_Mo_signedLong_34 : decode b_Mo_signedLong 34 = .ok (.invokestatic 65, 3) := by decide +kernel
theorem d_Mo_signedLong_37 : decode b_Mo_signedLong 37 = .ok (.istore 4, 2) := by decide +kernel
theorem d_Mo_signedLong_39 : decode b_Mo_signedLong 39 = .ok (.iload 4, 2) := by decide +kernel
theorem d_Mo_signedLong_41 : decode b_Mo_signedLong 41 = .ok (.bipush 64, 2) := by decide +kernel
theorem d_Mo_signedLong_43 : decode b_Mo_signedLong 43 = .ok (.if_icmp .ne 19, 3) := by decide +kernel
theorem d_Mo_signedLong_46 : decode b_Mo_signedLong 46 = .ok (.lload_n 2, 1) := by decide +kernel
theorem d_Mo_signedLong_47 : decode b_Mo_signedLong 47 = .ok (.ldc2_w 183, 3) := by decide +kernel
theorem d_Mo_signedLong_50 : decode b_Mo_signedLong 50 = .ok (.lcmp, 1) := by decide +kernel
theorem d_Mo_signedLong_51 : decode b_Mo_signedLong 51 = .ok (.ifCond .ne 11, 3) := by decide +kernel
theorem d_Mo_signedLong_54 : decode b_Mo_signedLong 54 = .ok (.iload_n 1, 1) := by decide +kernel
theorem d_Mo_signedLong_55 : decode b_Mo_signedLong 55 = .ok (.ifCond .eq 7, 3) := by decide +kernel
theorem d_Mo_signedLong_58 : decode b_Mo_signedLong 58 = .ok (.iconst 1, 1) := by decide +kernel
theorem d_Mo_signedLong_59 : decode b_Mo_signedLong 59 = .ok (.goto 4, 3) := by decide +kernel
theorem d_Mo_signedLong_62 : decode b_Mo_signedLong 62 = .ok (.iconst 0, 1) := by decide +kernel
theorem d_Mo_signedLong_63 : decode b_Mo_signedLong 63 = .ok (.istore 5, 2) := by decide +kernel
theorem d_Mo_signedLong_65 : decode b_Mo_signedLong 65 = .ok (.iload 4, 2) := by decide +kernel
theorem d_Mo_signedLong_67 : decode b_Mo_signedLong 67 = .ok (.bipush 63, 2) := by decide +kernel
theorem d_Mo_signedLong_69 : decode b_Mo_signedLong 69 = .ok (.if_icmp .le 16, 3) := by decide +kernel
theorem d_Mo_signedLong_72 : decode b_Mo_signedLong 72 = .ok (.iload 5, 2) := by decide +kernel
theorem d_Mo_signedLong_74 : decode b_Mo_signedLong 74 = .ok (.ifCond .ne 11, 3) := by decide +kernel
theorem d_Mo_signedLong_77 : decode b_Mo_signedLong 77 = .ok (.aload_n 0, 1) := by decide +kernel
theorem d_Mo_signedLong_78 : decode b_Mo_signedLong 78 = .ok (.bipush 7, 2) := by decide +kernel
theorem d_Mo_signedLong_80 : decode b_Mo_signedLong 80 = .ok (.invokevirtual 106, 3) := by decide +kernel
theorem d_Mo_signedLong_83 : decode b_Mo_signedLong 83 = .ok (.i2l, 1) := by decide +kernel
theorem d_Mo_signedLong_84 : decode b_Mo_signedLong 84 = .ok (.lreturn, 1) := by decide +kernel
theorem d_Mo_signedLong_85 : decode b_Mo_signedLong 85 = .ok (.aload_n 0, 1) := by decide +kernel
theorem d_Mo_signedLong_86 : decode b_Mo_signedLong 86 = .ok (.iconst 0, 1) := by decide +kernel
theorem d_Mo_signedLong_87 : decode b_Mo_signedLong 87 = .ok (.putfield 50, 3) := by decide +kernel
theorem d_Mo_signedLong_90 : decode b_Mo_signedLong 90 = .ok (.iload_n 1, 1) := by decide +kernel
theorem d_Mo_signedLong_91 : decode b_Mo_signedLong 91 = .ok (.ifCond .eq 8, 3) := by decide +kernel
theorem d_Mo_signedLong_94 : decode b_Mo_signedLong 94 = .ok (.lload_n 2, 1) := by decide +kernel
theorem d_Mo_signedLong_95 : decode b_Mo_signedLong 95 = .ok (.lneg, 1) := by decide +kernel
theorem d_Mo_signedLong_96 : decode b_Mo_signedLong 96 = .ok (.goto 4, 3) := by decide +kernel
theorem d_Mo_signedLong_99 : decode b_Mo_signedLong 99 = .ok (.lload_n 2, 1) := by decide +kernel
theorem d_Mo_signedLong_100 : decode b_Mo_signedLong 100 = .ok (.lreturn, 1) := by decide +kernel
theorem d_Mo_isUp_0 : decode b_Mo_isUp 0 = .ok (.aload_n 0, 1) := by decide +kernel
theorem d_Mo_isUp_1 : decode b_Mo_isUp 1 = .ok (.getfield 47, 3) := by decide +kernel
theorem d_Mo_isUp_4 : decode b_Mo_isUp 4 = .ok (.invokestatic 77, 3) := by decide +kernel
theorem d_Mo_isUp_7 : decode b_Mo_isUp 7 = .ok (.ifCond .eq 5, 3) := by decide +kernel
theorem d_Mo_isUp_10 : decode b_Mo_isUp 10 = .ok (.iconst 0, 1) := by decide +kernel
theorem d_Mo_isUp_11 : decode b_Mo_isUp 11 = .ok (.ireturn, 1) := by decide +kernel
theorem d_Mo_isUp_12 : decode b_Mo_isUp 12 = .ok (.iload_n 1, 1) := by decide +kernel
theorem d_Mo_isUp_13 : decode b_Mo_isUp 13 = .ok (.iconst 3, 1) := by decide +kernel
theorem d_Mo_isUp_14 : decode b_Mo_isUp 14 = .ok (.if_icmp .ge 27, 3) := by decide +kernel
theorem d_Mo_isUp_17 : decode b_Mo_isUp 17 = .ok (.iload_n 1, 1) := by decide +kernel
theorem d_Mo_isUp_18 : decode b_Mo_isUp 18 = .ok (.iconst 1, 1) := by decide +kernel
theorem d_Mo_isUp_19 : decode b_Mo_isUp 19 = .ok (.if_icmp .ne 7, 3) := by decide +kernel
theorem d_Mo_isUp_22 : decode b_Mo_isUp 22 = .ok (.iload_n 2, 1) := by decide +kernel
theorem d_Mo_isUp_23 : decode b_Mo_isUp 23 = .ok (.ifCond .ne 12, 3) := by decide +kernel
theorem d_Mo_isUp_26 : decode b_Mo_isUp 26 = .ok (.iload_n 1, 1) := by decide +kernel
theorem d_Mo_isUp_27 : decode b_Mo_isUp 27 = .ok (.iconst 2, 1) := by decide +kernel
theorem d_Mo_isUp_28 : decode b_Mo_isUp 28 = .ok (.if_icmp .ne 11, 3) := by decide +kernel
theorem d_Mo_isUp_31 : decode b_Mo_isUp 31 = .ok (.iload_n 2, 1) := by decide +kernel
theorem d_Mo_isUp_32 : decode b_Mo_isUp 32 = .ok (.ifCond .ne 7, 3) := by decide +kernel
theorem d_Mo_isUp_35 : decode b_Mo_isUp 35 = .ok (.iconst 1, 1) := by decide +kernel
theorem d_Mo_isUp_36 : decode b_Mo_isUp 36 = .ok (.goto 4, 3) := by decide +kernel
theorem d_Mo_isUp_39 : decode b_Mo_isUp 39 = .ok (.iconst 0, 1) := by decide +kernel
theorem d_Mo_isUp_40 : decode b_Mo_isUp 40 = .ok (.ireturn, 1) := by decide +kernel
theorem d_Mo_isUp_41 : decode b_Mo_isUp 41 = .ok (.aload_n 0, 1) := by decide +kernel
theorem d_Mo_isUp_42 : decode b_Mo_isUp 42 = .ok (.getfield 47, 3) := by decide +kernel
theorem d_Mo_isUp_45 : decode b_Mo_isUp 45 = .ok (.iconst 0, 1) := by decide +kernel
theorem d_Mo_isUp_46 : decode b_Mo_isUp 46 = .ok (.invokestatic 61, 3) := by decide +kernel
theorem d_Mo_isUp_49 : decode b_Mo_isUp 49 = .ok (.aload_n 0, 1) := by decide +kernel
theorem d_Mo_isUp_50 : decode b_Mo_isUp 50 = .ok (.getfield 47, 3) := by decide +kernel
theorem d_Mo_isUp_53 : decode b_Mo_isUp 53 = .ok (.aload_n 3, 1) := by decide +kernel
theorem d_Mo_isUp_54 : decode b_Mo_isUp 54 = .ok (.invokestatic 69, 3) := by decide +kernel
theorem d_Mo_isUp_57 : decode b_Mo_isUp 57 = .ok (.istore 4, 2) := by decide +kernel
theorem d_Mo_isUp_59 : decode b_Mo_isUp 59 = .ok (.iload 4, 2) := by decide +kernel
theorem d_Mo_isUp_61 : decode b_Mo_isUp 61 = .ok (.ifCond .gt 20, 3) := by decide +kernel
theorem d_Mo_isUp_64 : decode b_Mo_isUp 64 = .ok (.iload 4, 2) := by decide +kernel
theorem d_Mo_isUp_66 : decode b_Mo_isUp 66 = .ok (.ifCond .ne 19, 3) := by decide +kernel
theorem d_Mo_isUp_69 : decode b_Mo_isUp 69 = .ok (.aload_n 0, 1) := by decide +kernel
theorem d_Mo_isUp_70 : decode b_Mo_isUp 70 = .ok (.getfield 44, 3) := by decide +kernel
theorem d_Mo_isUp_73 : decode b_Mo_isUp 73 = .ok (.iconst 0, 1) := by decide +kernel
theorem d_Mo_isUp_74 : decode b_Mo_isUp 74 = .ok (.iaload, 1) := by decide +kernel
theorem d_Mo_isUp_75 : decode b_Mo_isUp 75 = .ok (.iconst 1, 1) := by decide +kernel
theorem d_Mo_isUp_76 : decode b_Mo_isUp 76 = .ok (.iand, 1) := by decide +kernel
theorem d_Mo_isUp_77 : decode b_Mo_isUp 77 = .ok (.iconst 1, 1) := by decide +kernel
theorem d_Mo_isUp_78 : decode b_Mo_isUp 78 = .ok (.if_icmp .ne 7, 3) := by decide +kernel
theorem d_Mo_isUp_81 : decode b_Mo_isUp 81 = .ok (.iconst 1, 1) := by decide +kernel
theorem d_Mo_isUp_82 : decode b_Mo_isUp 82 = .ok (.goto 4, 3) := by decide +kernel
theorem d_Mo_isUp_85 : decode b_Mo_isUp 85 = .ok (.iconst 0, 1) := by decide +kernel
theorem d_Mo_isUp_86 : decode b_Mo_isUp 86 = .ok (.ireturn, 1) := by decide +kernel
theorem d_Mo_round_0 : decode b_Mo_round 0 = .ok (.iload_n 1, 1) := by decide +kernel
theorem d_Mo_round_1 : decode b_Mo_round 1 = .ok (.invokestatic 138, 3) := by decide +kernel
theorem d_Mo_round_4 : decode b_Mo_round 4 = .ok (.ifCond .eq 27, 3) := by decide +kernel
theorem d_Mo_round_7 : decode b_Mo_round 7 = .ok (.iload_n 2, 1) := by decide +kernel
theorem d_Mo_round_8 : decode b_Mo_round 8 = .ok (.i2l, 1) := by decide +kernel
theorem d_Mo_round_9 : decode b_Mo_round 9 = .ok (.lconst 0, 1) := by decide +kernel
theorem d_Mo_round_10 : decode b_Mo_round 10 = .ok (.ldc2_w 185, 3) := by decide +kernel
theorem d_Mo_round_13 : decode b_Mo_round 13 = .ok (.invokestatic 125, 3) := by decide +kernel
theorem d_Mo_round_16 : decode b_Mo_round 16 = .ok (.ifCond .eq 15, 3) := by decide +kernel
theorem d_Mo_round_19 : decode b_Mo_round 19 = .ok (.iload_n 3, 1) := by decide +kernel
theorem d_Mo_round_20 : decode b_Mo_round 20 = .ok (.i2l, 1) := by decide +kernel
theorem d_Mo_round_21 : decode b_Mo_round 21 = .ok (.lconst 0, 1) := by decide +kernel
theorem d_Mo_round_22 : decode b_Mo_round 22 = .ok (.ldc2_w 129, 3) := by decide +kernel
theorem d_Mo_round_25 : decode b_Mo_round 25 = .ok (.invokestatic 125, 3) := by decide +kernel
theorem d_Mo_round_28 : decode b_Mo_round 28 = .ok (.ifCond .ne 7, 3) := by decide +kernel
theorem d_Mo_round_31 : decode b_Mo_round 31 = .ok (.ldc2_w 181, 3) := by decide +kernel
theorem d_Mo_round_34 : decode b_Mo_round 34 = .ok (.lreturn, 1) := by decide +kernel
theorem d_Mo_round_35 : decode b_Mo_round 35 = .ok (.aload_n 0, 1) := by decide +kernel
theorem d_Mo_round_36 : decode b_Mo_round 36 = .ok (.getfield 7, 3) := by decide +kernel
theorem d_Mo_round_39 : decode b_Mo_round 39 = .ok (.iload_n 1, 1) := by decide +kernel
theorem d_Mo_round_40 : decode b_Mo_round 40 = .ok (.baload, 1) := by decide +kernel
theorem d_Mo_round_41 : decode b_Mo_round 41 = .ok (.ifCond .ne 10, 3) := by decide +kernel
theorem d_Mo_round_44 : decode b_Mo_round 44 = .ok (.aload_n 0, 1) := by decide +kernel
theorem d_Mo_round_45 : decode b_Mo_round 45 = .ok (.iconst 1, 1) := by decide +kernel
theorem d_Mo_round_46 : decode b_Mo_round 46 = .ok (.invokevirtual 106, 3) := by decide +kernel
theorem d_Mo_round_49 : decode b_Mo_round 49 = .ok (.i2l, 1) := by decide +kernel
theorem d_Mo_round_50 : decode b_Mo_round 50 = .ok (.lreturn, 1) := by decide +kernel
theorem d_Mo_round_51 : decode b_Mo_round 51 = .ok (.aload_n 0, 1) := by decide +kernel
theorem d_Mo_round_52 : decode b_Mo_round 52 = .ok (.iload_n 1, 1) := by decide +kernel
theorem d_Mo_round_53 : decode b_Mo_round 53 = .ok (.aload_n 0, 1) := by decide +kernel
theorem d_Mo_round_54 : decode b_Mo_round 54 = .ok (.getfield 38, 3) := by decide +kernel
theorem d_Mo_round_57 : decode b_Mo_round 57 = .ok (.aload_n 0, 1) := by decide +kernel
theorem d_Mo_round_58 : decode b_Mo_round 58 = .ok (.getfield 29, 3) := by decide +kernel
theorem d_Mo_round_61 : decode b_Mo_round 61 = .ok (.invokevirtual 119, 3) := by decide +kernel
theorem d_Mo_round_64 : decode b_Mo_round 64 = .ok (.lconst 1, 1) := by decide +kernel
theorem d_Mo_round_65 : decode b_Mo_round 65 = .ok (.lstore 4, 2) := by decide +kernel
theorem d_Mo_round_67 : decode b_Mo_round 67 = .ok (.iconst 0, 1) := by decide +kernel
theorem d_Mo_round_68 : decode b_Mo_round 68 = .ok (.istore 6, 2) := by decide +kernel
theorem d_Mo_round_70 : decode b_Mo_round 70 = .ok (.iload 6, 2) := by decide +kernel
theorem d_Mo_round_72 : decode b_Mo_round 72 = .ok (.iload_n 2, 1) := by decide +kernel
theorem d_Mo_round_73 : decode b_Mo_round 73 = .ok (.if_icmp .ge 17, 3) := by decide +kernel
theorem d_Mo_round_76 : decode b_Mo_round 76 = .ok (.lload 4, 2) := by decide +kernel
theorem d_Mo_round_78 : decode b_Mo_round 78 = .ok (.ldc2_w 187, 3) := by decide +kernel
theorem d_Mo_round_81 : decode b_Mo_round 81 = .ok (.lmul, 1) := by decide +kernel
theorem d_Mo_round_82 : decode b_Mo_round 82 = .ok (.lstore 4, 2) := by decide +kernel
theorem d_Mo_round_84 : decode b_Mo_round 84 = .ok (.iinc 6 1, 3) := by decide +kernel
theorem d_Mo_round_87 : decode b_Mo_round 87 = .ok (.goto (-17), 3) := by decide +kernel
theorem d_Mo_round_90 : decode b_Mo_round 90 = .ok (.aload_n 0, 1) := by decide +kernel
theorem d_Mo_round_91 : decode b_Mo_round 91 = .ok (.getfield 32, 3) := by decide +kernel
theorem d_Mo_round_94 : decode b_Mo_round 94 = .ok (.lload 4, 2) := by decide +kernel
theorem d_Mo_round_96 : decode b_Mo_round 96 = .ok (.invokestatic 142, 3) := by decide +kernel
theorem d_Mo_round_99 : decode b_Mo_round 99 = .ok (.aload_n 0, 1) := by decide +kernel
theorem d_Mo_round_100 : decode b_Mo_round 100 = .ok (.getfield 38, 3) := by decide +kernel
theorem d_Mo_round_103 : decode b_Mo_round 103 = .ok (.aload_n 0, 1) := by decide +kernel
theorem d_Mo_round_104 : decode b_Mo_round 104 = .ok (.getfield 32, 3) := by decide +kernel
theorem d_Mo_round_107 : decode b_Mo_round 107 = .ok (.aload_n 0, 1) := by decide +kernel
theorem d_Mo_round_108 : decode b_Mo_round 108 = .ok (.getfield 26, 3) := by decide +kernel
theorem d_Mo_round_111 : decode b_Mo_round 111 = .ok (.invokestatic 131, 3) := by decide +kernel
theorem d_Mo_round_114 : decode b_Mo_round 114 = .ok (.aload_n 0, 1) := by decide +kernel
theorem d_Mo_round_115 : decode b_Mo_round 115 = .ok (.aload_n 0, 1) := by decide +kernel
theorem d_Mo_round_116 : decode b_Mo_round 116 = .ok (.getfield 26, 3) := by decide +kernel
theorem d_Mo_round_119 : decode b_Mo_round 119 = .ok (.aload_n 0, 1) := by decide +kernel
theorem d_Mo_round_120 : decode b_Mo_round 120 = .ok (.getfield 29, 3) := by decide +kernel
theorem d_Mo_round_123 : decode b_Mo_round 123 = .ok (.invokevirtual 96, 3) := by decide +kernel
theorem d_Mo_round_126 : decode b_Mo_round 126 = .ok (.aload_n 0, 1) := by decide +kernel
theorem d_Mo_round_127 : decode b_Mo_round 127 = .ok (.iload_n 3, 1) := by decide +kernel
theorem d_Mo_round_128 : decode b_Mo_round 128 = .ok (.aload_n 0, 1) := by decide +kernel
theorem d_Mo_round_129 : decode b_Mo_round 129 = .ok (.getfield 13, 3) := by decide +kernel
theorem d_Mo_round_132 : decode b_Mo_round 132 = .ok (.iload_n 1, 1) := by decide +kernel
theorem d_Mo_round_133 : decode b_Mo_round 133 = .ok (.iaload, 1) := by decide +kernel
theorem d_Mo_round_134 : decode b_Mo_round 134 = .ok (.ifCond .ge 7, 3) := by decide +kernel
theorem d_Mo_round_137 : decode b_Mo_round 137 = .ok (.iconst 1, 1) := by decide +kernel
theorem d_Mo_round_138 : decode b_Mo_round 138 = .ok (.goto 4, 3) := by decide +kernel
theorem d_Mo_round_141 : decode b_Mo_round 141 = .ok (.iconst 0, 1) := by decide +kernel
theorem d_Mo_round_142 : decode b_Mo_round 142 = .ok (.aload_n 0, 1) := by decide +kernel
theorem d_Mo_round_143 : decode b_Mo_round 143 = .ok (.getfield 29, 3) := by decide +kernel
theorem d_Mo_round_146 : decode b_Mo_round 146 = .ok (.invokevirtual 189, 3) := by decide +kernel
theorem d_Mo_round_149 : decode b_Mo_round 149 = .ok (.ifCond .eq 22, 3) := by decide +kernel
theorem d_Mo_round_152 : decode b_Mo_round 152 = .ok (.aload_n 0, 1) := by decide +kernel
theorem d_Mo_round_153 : decode b_Mo_round 153 = .ok (.getfield 32, 3) := by decide +kernel
theorem d_Mo_round_156 : decode b_Mo_round 156 = .ok (.lconst 1, 1) := by decide +kernel
theorem d_Mo_round_157 : decode b_Mo_round 157 = .ok (.invokestatic 142, 3) := by decide +kernel
theorem d_Mo_round_160 : decode b_Mo_round 160 = .ok (.aload_n 0, 1) := by decide +kernel
theorem d_Mo_round_161 : decode b_Mo_round 161 = .ok (.getfield 44, 3) := by decide +kernel
theorem d_Mo_round_164 : decode b_Mo_round 164 = .ok (.aload_n 0, 1) := by decide +kernel
theorem d_Mo_round_165 : decode b_Mo_round 165 = .ok (.getfield 32, 3) := by decide +kernel
theorem d_Mo_round_168 : decode b_Mo_round 168 = .ok (.invokestatic 135, 3) := by decide +kernel
theorem d_Mo_round_171 : decode b_Mo_round 171 = .ok (.aload_n 0, 1) := by decide +kernel
theorem d_Mo_round_172 : decode b_Mo_round 172 = .ok (.aload_n 0, 1) := by decide +kernel
theorem d_Mo_round_173 : decode b_Mo_round 173 = .ok (.getfield 13, 3) := by decide +kernel
theorem d_Mo_round_176 : decode b_Mo_round 176 = .ok (.iload_n 1, 1) := by decide +kernel
theorem d_Mo_round_177 : decode b_Mo_round 177 = .ok (.iaload, 1) := by decide +kernel
theorem d_Mo_round_178 : decode b_Mo_round 178 = .ok (.ifCond .ge 7, 3) := by decide +kernel
theorem d_Mo_round_181 : decode b_Mo_round 181 = .ok (.iconst 1, 1) := by decide +kernel
theorem d_Mo_round_182 : decode b_Mo_round 182 = .ok (.goto 4, 3) := by decide +kernel
theorem d_Mo_round_185 : decode b_Mo_round 185 = .ok (.iconst 0, 1) := by decide +kernel
theorem d_Mo_round_186 : decode b_Mo_round 186 = .ok (.invokevirtual 193, 3) := by decide +kernel
theorem d_Mo_round_189 : decode b_Mo_round 189 = .ok (.lreturn, 1) := by decide +kernel
theorem d_Mo_exactProduct_0 : decode b_Mo_exactProduct 0 = .ok (.aload_n 0, 1) := by decide +kernel
theorem d_Mo_exactProduct_1 : decode b_Mo_exactProduct 1 = .ok (.getfield 32, 3) := by decide +kernel
theorem d_Mo_exactProduct_4 : decode b_Mo_exactProduct 4 = .ok (.lload_n 1, 1) := by decide +kernel
theorem d_Mo_exactProduct_5 : decode b_Mo_exactProduct 5 = .ok (.lconst 0, 1) := by decide +kernel
theorem d_Mo_exactProduct_6 : decode b_Mo_exactProduct 6 = .ok (.lcmp, 1) := by decide +kernel
theorem d_Mo_exactProduct_7 : decode b_Mo_exactProduct 7 = .ok (.ifCond .ge 8, 3) := by decide +kernel
theorem d_Mo_exactProduct_10 : decode b_Mo_exactProduct 10 = .ok (.lload_n 1, 1) := by decide +kernel
theorem d_Mo_exactProduct_11 : decode b_Mo_exactProduct 11 = .ok (.lneg, 1) := by decide +kernel
theorem d_Mo_exactProduct_12 : decode b_Mo_exactProduct 12 = .ok (.goto 4, 3) := by decide +kernel
theorem d_Mo_exactProduct_15 : decode b_Mo_exactProduct 15 = .ok (.lload_n 1, 1) := by decide +kernel
theorem d_Mo_exactProduct_16 : decode b_Mo_exactProduct 16 = .ok (.invokestatic 142, 3) := by decide +kernel
theorem d_Mo_exactProduct_19 : decode b_Mo_exactProduct 19 = .ok (.aload_n 0, 1) := by decide +kernel
theorem d_Mo_exactProduct_20 : decode b_Mo_exactProduct 20 = .ok (.getfield 35, 3) := by decide +kernel
theorem d_Mo_exactProduct_23 : decode b_Mo_exactProduct 23 = .ok (.lload_n 3, 1) := by decide +kernel
theorem d_Mo_exactProduct_24 : decode b_Mo_exactProduct 24 = .ok (.lconst 0, 1) := by decide +kernel
theorem d_Mo_exactProduct_25 : decode b_Mo_exactProduct 25 = .ok (.lcmp, 1) := by decide +kernel
theorem d_Mo_exactProduct_26 : decode b_Mo_exactProduct 26 = .ok (.ifCond .ge 8, 3) := by decide +kernel
theorem d_Mo_exactProduct_29 : decode b_Mo_exactProduct 29 = .ok (.lload_n 3, 1) := by decide +kernel
theorem d_Mo_exactProduct_30 : decode b_Mo_exactProduct 30 = .ok (.lneg, 1) := by decide +kernel
theorem d_Mo_exactProduct_31 : decode b_Mo_exactProduct 31 = .ok (.goto 4, 3) := by decide +kernel
theorem d_Mo_exactProduct_34 : decode b_Mo_exactProduct 34 = .ok (.lload_n 3, 1) := by decide +kernel
theorem d_Mo_exactProduct_35 : decode b_Mo_exactProduct 35 = .ok (.invokestatic 142, 3) := by decide +kernel
theorem d_Mo_exactProduct_38 : decode b_Mo_exactProduct 38 = .ok (.aload_n 0, 1) := by decide +kernel
theorem d_Mo_exactProduct_39 : decode b_Mo_exactProduct 39 = .ok (.getfield 32, 3) := by decide +kernel
theorem d_Mo_exactProduct_42 : decode b_Mo_exactProduct 42 = .ok (.aload_n 0, 1) := by decide +kernel
theorem d_Mo_exactProduct_43 : decode b_Mo_exactProduct 43 = .ok (.getfield 35, 3) := by decide +kernel
theorem d_Mo_exactProduct_46 : decode b_Mo_exactProduct 46 = .ok (.aload_n 0, 1) := by decide +kernel
theorem d_Mo_exactProduct_47 : decode b_Mo_exactProduct 47 = .ok (.getfield 44, 3) := by decide +kernel
theorem d_Mo_exactProduct_50 : decode b_Mo_exactProduct 50 = .ok (.invokestatic 131, 3) := by decide +kernel
theorem d_Mo_exactProduct_53 : decode b_Mo_exactProduct 53 = .ok (.aload_n 0, 1) := by decide +kernel
theorem d_Mo_exactProduct_54 : decode b_Mo_exactProduct 54 = .ok (.lload_n 1, 1) := by decide +kernel
theorem d_Mo_exactProduct_55 : decode b_Mo_exactProduct 55 = .ok (.lconst 0, 1) := by decide +kernel
theorem d_Mo_exactProduct_56 : decode b_Mo_exactProduct 56 = .ok (.lcmp, 1) := by decide +kernel
theorem d_Mo_exactProduct_57 : decode b_Mo_exactProduct 57 = .ok (.ifCond .ge 7, 3) := by decide +kernel
theorem d_Mo_exactProduct_60 : decode b_Mo_exactProduct 60 = .ok (.iconst 1, 1) := by decide +kernel
theorem d_Mo_exactProduct_61 : decode b_Mo_exactProduct 61 = .ok (.goto 4, 3) := by decide +kernel
theorem d_Mo_exactProduct_64 : decode b_Mo_exactProduct 64 = .ok (.iconst 0, 1) := by decide +kernel
theorem d_Mo_exactProduct_65 : decode b_Mo_exactProduct 65 = .ok (.lload_n 3, 1) := by decide +kernel
theorem d_Mo_exactProduct_66 : decode b_Mo_exactProduct 66 = .ok (.lconst 0, 1) := by decide +kernel
theorem d_Mo_exactProduct_67 : decode b_Mo_exactProduct 67 = .ok (.lcmp, 1) := by decide +kernel
theorem d_Mo_exactProduct_68 : decode b_Mo_exactProduct 68 = .ok (.ifCond .ge 7, 3) := by decide +kernel
theorem d_Mo_exactProduct_71 : decode b_Mo_exactProduct 71 = .ok (.iconst 1, 1) := by decide +kernel
theorem d_Mo_exactProduct_72 : decode b_Mo_exactProduct 72 = .ok (.goto 4, 3) := by decide +kernel
theorem d_Mo_exactProduct_75 : decode b_Mo_exactProduct 75 = .ok (.iconst 0, 1) := by decide +kernel
theorem d_Mo_exactProduct_76 : decode b_Mo_exactProduct 76 = .ok (.if_icmp .eq 7, 3) := by decide +kernel
theorem d_Mo_exactProduct_79 : decode b_Mo_exactProduct 79 = .ok (.iconst 1, 1) := by decide +kernel
theorem d_Mo_exactProduct_80 : decode b_Mo_exactProduct 80 = .ok (.goto 4, 3) := by decide +kernel
theorem d_Mo_exactProduct_83 : decode b_Mo_exactProduct 83 = .ok (.iconst 0, 1) := by decide +kernel
theorem d_Mo_exactProduct_84 : decode b_Mo_exactProduct 84 = .ok (.invokevirtual 193, 3) := by decide +kernel
theorem d_Mo_exactProduct_87 : decode b_Mo_exactProduct 87 = .ok (.lreturn, 1) := by decide +kernel
theorem d_Mo_exactQuotient_0 : decode b_Mo_exactQuotient 0 = .ok (.lload 4, 2) := by decide +kernel
theorem d_Mo_exactQuotient_2 : decode b_Mo_exactQuotient 2 = .ok (.lconst 0, 1) := by decide +kernel
theorem d_Mo_exactQuotient_3 : decode b_Mo_exactQuotient 3 = .ok (.lcmp, 1) := by decide +kernel
theorem d_Mo_exactQuotient_4 : decode b_Mo_exactQuotient 4 = .ok (.ifCond .ne 10, 3) := by decide +kernel
theorem d_Mo_exactQuotient_7 : decode b_Mo_exactQuotient 7 = .ok (.aload_n 0, 1) := by decide +kernel
theorem d_Mo_exactQuotient_8 : decode b_Mo_exactQuotient 8 = .ok (.iconst 5, 1) := by decide +kernel
theorem d_Mo_exactQuotient_9 : decode b_Mo_exactQuotient 9 = .ok (.invokevirtual 106, 3) := by decide +kernel
theorem d_Mo_exactQuotient_12 : decode b_Mo_exactQuotient 12 = .ok (.i2l, 1) := by decide +kernel
theorem d_Mo_exactQuotient_13 : decode b_Mo_exactQuotient 13 = .ok (.lreturn, 1) := by decide +kernel
theorem d_Mo_exactQuotient_14 : decode b_Mo_exactQuotient 14 = .ok (.lload 4, 2) := by decide +kernel
theorem d_Mo_exactQuotient_16 : decode b_Mo_exactQuotient 16 = .ok (.ldc2_w 209, 3) := by decide +kernel
theorem d_Mo_exactQuotient_19 : decode b_Mo_exactQuotient 19 = .ok (.lcmp, 1) := by decide +kernel
theorem d_Mo_exactQuotient_20 : decode b_Mo_exactQuotient 20 = .ok (.ifCond .ne 34, 3) := by decide +kernel
theorem d_Mo_exactQuotient_23 : decode b_Mo_exactQuotient 23 = .ok (.iload_n 1, 1) := by decide +kernel
theorem d_Mo_exactQuotient_24 : decode b_Mo_exactQuotient 24 = .ok (.bipush 6, 2) := by decide +kernel
theorem d_Mo_exactQuotient_26 : decode b_Mo_exactQuotient 26 = .ok (.if_icmp .ne 7, 3) := by decide +kernel
theorem d_Mo_exactQuotient_29 : decode b_Mo_exactQuotient 29 = .ok (.lconst 0, 1) := by decide +kernel
theorem d_Mo_exactQuotient_30 : decode b_Mo_exactQuotient 30 = .ok (.goto 23, 3) := by decide +kernel
theorem d_Mo_exactQuotient_33 : decode b_Mo_exactQuotient 33 = .ok (.lload_n 2, 1) := by decide +kernel
theorem d_Mo_exactQuotient_34 : decode b_Mo_exactQuotient 34 = .ok (.ldc2_w 183, 3) := by decide +kernel
theorem d_Mo_exactQuotient_37 : decode b_Mo_exactQuotient 37 = .ok (.lcmp, 1) := by decide +kernel
theorem d_Mo_exactQuotient_38 : decode b_Mo_exactQuotient 38 = .ok (.ifCond .ne 13, 3) := by decide +kernel
theorem d_Mo_exactQuotient_41 : decode b_Mo_exactQuotient 41 = .ok (.aload_n 0, 1) := by decide +kernel
theorem d_Mo_exactQuotient_42 : decode b_Mo_exactQuotient 42 = .ok (.bipush 7, 2) := by decide +kernel
theorem d_Mo_exactQuotient_44 : decode b_Mo_exactQuotient 44 = .ok (.invokevirtual 106, 3) := by decide +kernel
theorem d_Mo_exactQuotient_47 : decode b_Mo_exactQuotient 47 = .ok (.i2l, 1) := by decide +kernel
theorem d_Mo_exactQuotient_48 : decode b_Mo_exactQuotient 48 = .ok (.goto 5, 3) := by decide +kernel
theorem d_Mo_exactQuotient_51 : decode b_Mo_exactQuotient 51 = .ok (.lload_n 2, 1) := by decide +kernel
theorem d_Mo_exactQuotient_52 : decode b_Mo_exactQuotient 52 = .ok (.lneg, 1) := by decide +kernel
theorem d_Mo_exactQuotient_53 : decode b_Mo_exactQuotient 53 = .ok (.lreturn, 1) := by decide +kernel
theorem d_Mo_exactQuotient_54 : decode b_Mo_exactQuotient 54 = .ok (.lload_n 2, 1) := by decide +kernel
theorem d_Mo_exactQuotient_55 : decode b_Mo_exactQuotient 55 = .ok (.lload 4, 2) := by decide +kernel
theorem d_Mo_exactQuotient_57 : decode b_Mo_exactQuotient 57 = .ok (.ldiv, 1) := by decide +kernel
theorem d_Mo_exactQuotient_58 : decode b_Mo_exactQuotient 58 = .ok (.lstore 6, 2) := by decide +kernel
theorem d_Mo_exactQuotient_60 : decode b_Mo_exactQuotient 60 = .ok (.lload_n 2, 1) := by decide +kernel
theorem d_Mo_exactQuotient_61 : decode b_Mo_exactQuotient 61 = .ok (.lload 6, 2) := by decide +kernel
theorem d_Mo_exactQuotient_63 : decode b_Mo_exactQuotient 63 = .ok (.lload 4, 2) := by decide +kernel
theorem d_Mo_exactQuotient_65 : decode b_Mo_exactQuotient 65 = .ok (.lmul, 1) := by decide +kernel
theorem d_Mo_exactQuotient_66 : decode b_Mo_exactQuotient 66 = .ok (.lsub, 1) := by decide +kernel
theorem d_Mo_exactQuotient_67 : decode b_Mo_exactQuotient 67 = .ok (.lstore 8, 2) := by decide +kernel
theorem d_Mo_exactQuotient_69 : decode b_Mo_exactQuotient 69 = .ok (.iload_n 1, 1) := by decide +kernel
theorem d_Mo_exactQuotient_70 : decode b_Mo_exactQuotient 70 = .ok (.iconst 5, 1) := by decide +kernel
theorem d_Mo_exactQuotient_71 : decode b_Mo_exactQuotient 71 = .ok (.if_icmp .ne 8, 3) := by decide +kernel
theorem d_Mo_exactQuotient_74 : decode b_Mo_exactQuotient 74 = .ok (.lload 6, 2) := by decide +kernel
theorem d_Mo_exactQuotient_76 : decode b_Mo_exactQuotient 76 = .ok (.goto 57, 3) := by decide +kernel
theorem d_Mo_exactQuotient_79 : decode b_Mo_exactQuotient 79 = .ok (.iload_n 1, 1) := by decide +kernel
theorem d_Mo_exactQuotient_80 : decode b_Mo_exactQuotient 80 = .ok (.bipush 6, 2) := by decide +kernel
theorem d_Mo_exactQuotient_82 : decode b_Mo_exactQuotient 82 = .ok (.if_icmp .ne 8, 3) := by decide +kernel
theorem d_Mo_exactQuotient_85 : decode b_Mo_exactQuotient 85 = .ok (.lload 8, 2) := by decide +kernel
theorem d_Mo_exactQuotient_87 : decode b_Mo_exactQuotient 87 = .ok (.goto 46, 3) := by decide +kernel
theorem d_Mo_exactQuotient_90 : decode b_Mo_exactQuotient 90 = .ok (.lload 8, 2) := by decide +kernel
theorem d_Mo_exactQuotient_92 : decode b_Mo_exactQuotient 92 = .ok (.lconst 0, 1) := by decide +kernel
theorem d_Mo_exactQuotient_93 : decode b_Mo_exactQuotient 93 = .ok (.lcmp, 1) := by decide +kernel
theorem d_Mo_exactQuotient_94 : decode b_Mo_exactQuotient 94 = .ok (.ifCond .eq 37, 3) := by decide +kernel
theorem d_Mo_exactQuotient_97 : decode b_Mo_exactQuotient 97 = .ok (.lload 8, 2) := by decide +kernel
theorem d_Mo_exactQuotient_99 : decode b_Mo_exactQuotient 99 = .ok (.lconst 0, 1) := by decide +kernel
theorem d_Mo_exactQuotient_100 : decode b_Mo_exactQuotient 100 = .ok (.lcmp, 1) := by decide +kernel
theorem d_Mo_exactQuotient_101 : decode b_Mo_exactQuotient 101 = .ok (.ifCond .ge 7, 3) := by decide +kernel
theorem d_Mo_exactQuotient_104 : decode b_Mo_exactQuotient 104 = .ok (.iconst 1, 1) := by decide +kernel
theorem d_Mo_exactQuotient_105 : decode b_Mo_exactQuotient 105 = .ok (.goto 4, 3) := by decide +kernel
theorem d_Mo_exactQuotient_108 : decode b_Mo_exactQuotient 108 = .ok (.iconst 0, 1) := by decide +kernel
theorem d_Mo_exactQuotient_109 : decode b_Mo_exactQuotient 109 = .ok (.lload 4, 2) := by decide +kernel
theorem d_Mo_exactQuotient_111 : decode b_Mo_exactQuotient 111 = .ok (.lconst 0, 1) := by decide +kernel
theorem d_Mo_exactQuotient_112 : decode b_Mo_exactQuotient 112 = .ok (.lcmp, 1) := by decide +kernel
theorem d_Mo_exactQuotient_113 : decode b_Mo_exactQuotient 113 = .ok (.ifCond .ge 7, 3) := by decide +kernel
theorem d_Mo_exactQuotient_116 : decode b_Mo_exactQuotient 116 = .ok (.iconst 1, 1) := by decide +kernel
theorem d_Mo_exactQuotient_117 : decode b_Mo_exactQuotient 117 = .ok (.goto 4, 3) := by decide +kernel
theorem d_Mo_exactQuotient_120 : decode b_Mo_exactQuotient 120 = .ok (.iconst 0, 1) := by decide +kernel
theorem d_Mo_exactQuotient_121 : decode b_Mo_exactQuotient 121 = .ok (.if_icmp .eq 10, 3) := by decide +kernel
theorem d_Mo_exactQuotient_124 : decode b_Mo_exactQuotient 124 = .ok (.lload 6, 2) := by decide +kernel
theorem d_Mo_exactQuotient_126 : decode b_Mo_exactQuotient 126 = .ok (.lconst 1, 1) := by decide +kernel
theorem d_Mo_exactQuotient_127 : decode b_Mo_exactQuotient 127 = .ok (.lsub, 1) := by decide +kernel
theorem d_Mo_exactQuotient_128 : decode b_Mo_exactQuotient 128 = .ok (.goto 5, 3) := by decide +kernel
theorem d_Mo_exactQuotient_131 : decode b_Mo_exactQuotient 131 = .ok (.lload 6, 2) := by decide +kernel
theorem d_Mo_exactQuotient_133 : decode b_Mo_exactQuotient 133 = .ok (.lreturn, 1) := by decide +kernel
theorem d_Mo_exact_0 : decode b_Mo_exact 0 = .ok (.iload_n 1, 1) := by decide +kernel
theorem d_Mo_exact_1 : decode b_Mo_exact 1 = .ok (.i2l, 1) := by decide +kernel
theorem d_Mo_exact_2 : decode b_Mo_exact 2 = .ok (.lconst 0, 1) := by decide +kernel
theorem d_Mo_exact_3 : decode b_Mo_exact 3 = .ok (.ldc2_w 211, 3) := by decide +kernel
theorem d_Mo_exact_6 : decode b_Mo_exact 6 = .ok (.invokestatic 125, 3) := by decide +kernel
theorem d_Mo_exact_9 : decode b_Mo_exact 9 = .ok (.ifCond .ne 7, 3) := by decide +kernel
theorem d_Mo_exact_12 : decode b_Mo_exact 12 = .ok (.ldc2_w 181, 3) := by decide +kernel
theorem d_Mo_exact_15 : decode b_Mo_exact 15 = .ok (.lreturn, 1) := by decide +kernel
theorem d_Mo_exact_16 : decode b_Mo_exact 16 = .ok (.aload_n 0, 1) := by decide +kernel
theorem d_Mo_exact_17 : decode b_Mo_exact 17 = .ok (.iconst 0, 1) := by decide +kernel
theorem d_Mo_exact_18 : decode b_Mo_exact 18 = .ok (.putfield 50, 3) := by decide +kernel
theorem d_Mo_exact_21 : decode b_Mo_exact 21 = .ok (.lload_n 2, 1) := by decide +kernel
theorem d_Mo_exact_22 : decode b_Mo_exact 22 = .ok (.lload 4, 2) := by decide +kernel
theorem d_Mo_exact_24 : decode b_Mo_exact 24 = .ok (.ladd, 1) := by decide +kernel
theorem d_Mo_exact_25 : decode b_Mo_exact 25 = .ok (.lstore 6, 2) := by decide +kernel
theorem d_Mo_exact_27 : decode b_Mo_exact 27 = .ok (.lload_n 2, 1) := by decide +kernel
theorem d_Mo_exact_28 : decode b_Mo_exact 28 = .ok (.lload 4, 2) := by decide +kernel
theorem d_Mo_exact_30 : decode b_Mo_exact 30 = .ok (.lsub, 1) := by decide +kernel
theorem d_Mo_exact_31 : decode b_Mo_exact 31 = .ok (.lstore 8, 2) := by decide +kernel
theorem d_Mo_exact_33 : decode b_Mo_exact 33 = .ok (.iload_n 1, 1) := by decide +kernel
theorem d_Mo_exact_34 : decode b_Mo_exact 34 = .ok (.tableswitch 213 0 4 #[34, 99, 164, 172, 193], 34) := by decide +kernel
theorem d_Mo_exact_68 : decode b_Mo_exact 68 = .ok (.lload_n 2, 1) := by decide +kernel
theorem d_Mo_exact_69 : decode b_Mo_exact 69 = .ok (.lconst 0, 1) := by decide +kernel
theorem d_Mo_exact_70 : decode b_Mo_exact 70 = .ok (.lcmp, 1) := by decide +kernel
theorem d_Mo_exact_71 : decode b_Mo_exact 71 = .ok (.ifCond .ge 7, 3) := by decide +kernel
theorem d_Mo_exact_74 : decode b_Mo_exact 74 = .ok (.iconst 1, 1) := by decide +kernel
theorem d_Mo_exact_75 : decode b_Mo_exact 75 = .ok (.goto 4, 3) := by decide +kernel
theorem d_Mo_exact_78 : decode b_Mo_exact 78 = .ok (.iconst 0, 1) := by decide +kernel
theorem d_Mo_exact_79 : decode b_Mo_exact 79 = .ok (.lload 4, 2) := by decide +kernel
theorem d_Mo_exact_81 : decode b_Mo_exact 81 = .ok (.lconst 0, 1) := by decide +kernel
theorem d_Mo_exact_82 : decode b_Mo_exact 82 = .ok (.lcmp, 1) := by decide +kernel
theorem d_Mo_exact_83 : decode b_Mo_exact 83 = .ok (.ifCond .ge 7, 3) := by decide +kernel
theorem d_Mo_exact_86 : decode b_Mo_exact 86 = .ok (.iconst 1, 1) := by decide +kernel
theorem d_Mo_exact_87 : decode b_Mo_exact 87 = .ok (.goto 4, 3) := by decide +kernel
theorem d_Mo_exact_90 : decode b_Mo_exact 90 = .ok (.iconst 0, 1) := by decide +kernel
theorem d_Mo_exact_91 : decode b_Mo_exact 91 = .ok (.if_icmp .ne 39, 3) := by decide +kernel
theorem d_Mo_exact_94 : decode b_Mo_exact 94 = .ok (.lload 6, 2) := by decide +kernel
theorem d_Mo_exact_96 : decode b_Mo_exact 96 = .ok (.lconst 0, 1) := by decide +kernel
theorem d_Mo_exact_97 : decode b_Mo_exact 97 = .ok (.lcmp, 1) := by decide +kernel
theorem d_Mo_exact_98 : decode b_Mo_exact 98 = .ok (.ifCond .ge 7, 3) := by decide +kernel
theorem d_Mo_exact_101 : decode b_Mo_exact 101 = .ok (.iconst 1, 1) := by decide +kernel
theorem d_Mo_exact_102 : decode b_Mo_exact 102 = .ok (.goto 4, 3) := by decide +kernel
theorem d_Mo_exact_105 : decode b_Mo_exact 105 = .ok (.iconst 0, 1) := by decide +kernel
theorem d_Mo_exact_106 : decode b_Mo_exact 106 = .ok (.lload_n 2, 1) := by decide +kernel
theorem d_Mo_exact_107 : decode b_Mo_exact 107 = .ok (.lconst 0, 1) := by decide +kernel
theorem d_Mo_exact_108 : decode b_Mo_exact 108 = .ok (.lcmp, 1) := by decide +kernel
theorem d_Mo_exact_109 : decode b_Mo_exact 109 = .ok (.ifCond .ge 7, 3) := by decide +kernel
theorem d_Mo_exact_112 : decode b_Mo_exact 112 = .ok (.iconst 1, 1) := by decide +kernel
theorem d_Mo_exact_113 : decode b_Mo_exact 113 = .ok (.goto 4, 3) := by decide +kernel
theorem d_Mo_exact_116 : decode b_Mo_exact 116 = .ok (.iconst 0, 1) := by decide +kernel
theorem d_Mo_exact_117 : decode b_Mo_exact 117 = .ok (.if_icmp .eq 13, 3) := by decide +kernel
theorem d_Mo_exact_120 : decode b_Mo_exact 120 = .ok (.aload_n 0, 1) := by decide +kernel
theorem d_Mo_exact_121 : decode b_Mo_exact 121 = .ok (.bipush 7, 2) := by decide +kernel
theorem d_Mo_exact_123 : decode b_Mo_exact 123 = .ok (.invokevirtual 106, 3) := by decide +kernel
theorem d_Mo_exact_126 : decode b_Mo_exact 126 = .ok (.i2l, 1) := by decide +kernel
theorem d_Mo_exact_127 : decode b_Mo_exact 127 = .ok (.goto 5, 3) := by decide +kernel
theorem d_Mo_exact_130 : decode b_Mo_exact 130 = .ok (.lload 6, 2) := by decide +kernel
theorem d_Mo_exact_132 : decode b_Mo_exact 132 = .ok (.lreturn, 1) := by decide +kernel
theorem d_Mo_exact_133 : decode b_Mo_exact 133 = .ok (.lload_n 2, 1) := by decide +kernel
theorem d_Mo_exact_134 : decode b_Mo_exact 134 = .ok (.lconst 0, 1) := by decide +kernel
theorem d_Mo_exact_135 : decode b_Mo_exact 135 = .ok (.lcmp, 1) := by decide +kernel
theorem d_Mo_exact_136 : decode b_Mo_exact 136 = .ok (.ifCond .ge 7, 3) := by decide +kernel
theorem d_Mo_exact_139 : decode b_Mo_exact 139 = .ok (.iconst 1, 1) := by decide +kernel
theorem d_Mo_exact_140 : decode b_Mo_exact 140 = .ok (.goto 4, 3) := by decide +kernel
theorem d_Mo_exact_143 : decode b_Mo_exact 143 = .ok (.iconst 0, 1) := by decide +kernel
theorem d_Mo_exact_144 : decode b_Mo_exact 144 = .ok (.lload 4, 2) := by decide +kernel
theorem d_Mo_exact_146 : decode b_Mo_exact 146 = .ok (.lconst 0, 1) := by decide +kernel
theorem d_Mo_exact_147 : decode b_Mo_exact 147 = .ok (.lcmp, 1) := by decide +kernel
theorem d_Mo_exact_148 : decode b_Mo_exact 148 = .ok (.ifCond .ge 7, 3) := by decide +kernel
theorem d_Mo_exact_151 : decode b_Mo_exact 151 = .ok (.iconst 1, 1) := by decide +kernel
theorem d_Mo_exact_152 : decode b_Mo_exact 152 = .ok (.goto 4, 3) := by decide +kernel
theorem d_Mo_exact_155 : decode b_Mo_exact 155 = .ok (.iconst 0, 1) := by decide +kernel
theorem d_Mo_exact_156 : decode b_Mo_exact 156 = .ok (.if_icmp .eq 39, 3) := by decide +kernel
theorem d_Mo_exact_159 : decode b_Mo_exact 159 = .ok (.lload 8, 2) := by decide +kernel
theorem d_Mo_exact_161 : decode b_Mo_exact 161 = .ok (.lconst 0, 1) := by decide +kernel
theorem d_Mo_exact_162 : decode b_Mo_exact 162 = .ok (.lcmp, 1) := by decide +kernel
theorem d_Mo_exact_163 : decode b_Mo_exact 163 = .ok (.ifCond .ge 7, 3) := by decide +kernel
theorem d_Mo_exact_166 : decode b_Mo_exact 166 = .ok (.iconst 1, 1) := by decide +kernel
theorem d_Mo_exact_167 : decode b_Mo_exact 167 = .ok (.goto 4, 3) := by decide +kernel
theorem d_Mo_exact_170 : decode b_Mo_exact 170 = .ok (.iconst 0, 1) := by decide +kernel
theorem d_Mo_exact_171 : decode b_Mo_exact 171 = .ok (.lload_n 2, 1) := by decide +kernel
theorem d_Mo_exact_172 : decode b_Mo_exact 172 = .ok (.lconst 0, 1) := by decide +kernel
theorem d_Mo_exact_173 : decode b_Mo_exact 173 = .ok (.lcmp, 1) := by decide +kernel
theorem d_Mo_exact_174 : decode b_Mo_exact 174 = .ok (.ifCond .ge 7, 3) := by decide +kernel
theorem d_Mo_exact_177 : decode b_Mo_exact 177 = .ok (.iconst 1, 1) := by decide +kernel
theorem d_Mo_exact_178 : decode b_Mo_exact 178 = .ok (.goto 4, 3) := by decide +kernel
theorem d_Mo_exact_181 : decode b_Mo_exact 181 = .ok (.iconst 0, 1) := by decide +kernel
theorem d_Mo_exact_182 : decode b_Mo_exact 182 = .ok (.if_icmp .eq 13, 3) := by decide +kernel
theorem d_Mo_exact_185 : decode b_Mo_exact 185 = .ok (.aload_n 0, 1) := by decide +kernel
theorem d_Mo_exact_186 : decode b_Mo_exact 186 = .ok (.bipush 7, 2) := by decide +kernel
theorem d_Mo_exact_188 : decode b_Mo_exact 188 = .ok (.invokevirtual 106, 3) := by decide +kernel
theorem d_Mo_exact_191 : decode b_Mo_exact 191 = .ok (.i2l, 1) := by decide +kernel
theorem d_Mo_exact_192 : decode b_Mo_exact 192 = .ok (.goto 5, 3) := by decide +kernel
theorem d_Mo_exact_195 : decode b_Mo_exact 195 = .ok (.lload 8, 2) := by decide +kernel
theorem d_Mo_exact_197 : decode b_Mo_exact 197 = .ok (.lreturn, 1) := by decide +kernel
theorem d_Mo_exact_198 : decode b_Mo_exact 198 = .ok (.aload_n 0, 1) := by decide +kernel
theorem d_Mo_exact_199 : decode b_Mo_exact 199 = .ok (.lload_n 2, 1) := by decide +kernel
theorem d_Mo_exact_200 : decode b_Mo_exact 200 = .ok (.lload 4, 2) := by decide +kernel
theorem d_Mo_exact_202 : decode b_Mo_exact 202 = .ok (.invokevirtual 213, 3) := by decide +kernel
theorem d_Mo_exact_205 : decode b_Mo_exact 205 = .ok (.lreturn, 1) := by decide +kernel
theorem d_Mo_exact_206 : decode b_Mo_exact 206 = .ok (.lload_n 2, 1) := by decide +kernel
theorem d_Mo_exact_207 : decode b_Mo_exact 207 = .ok (.ldc2_w 183, 3) := by decide +kernel
theorem d_Mo_exact_210 : decode b_Mo_exact 210 = .ok (.lcmp, 1) := by decide +kernel
theorem d_Mo_exact_211 : decode b_Mo_exact 211 = .ok (.ifCond .ne 13, 3) := by decide +kernel
theorem d_Mo_exact_214 : decode b_Mo_exact 214 = .ok (.aload_n 0, 1) := by decide +kernel
theorem d_Mo_exact_215 : decode b_Mo_exact 215 = .ok (.bipush 7, 2) := by decide +kernel
theorem d_Mo_exact_217 : decode b_Mo_exact 217 = .ok (.invokevirtual 106, 3) := by decide +kernel
theorem d_Mo_exact_220 : decode b_Mo_exact 220 = .ok (.i2l, 1) := by decide +kernel
theorem d_Mo_exact_221 : decode b_Mo_exact 221 = .ok (.goto 5, 3) := by decide +kernel
theorem d_Mo_exact_224 : decode b_Mo_exact 224 = .ok (.lload_n 2, 1) := by decide +kernel
theorem d_Mo_exact_225 : decode b_Mo_exact 225 = .ok (.lneg, 1) := by decide +kernel
theorem d_Mo_exact_226 : decode b_Mo_exact 226 = .ok (.lreturn, 1) := by decide +kernel
theorem d_Mo_exact_227 : decode b_Mo_exact 227 = .ok (.lload_n 2, 1) := by decide +kernel
theorem d_Mo_exact_228 : decode b_Mo_exact 228 = .ok (.lload_n 2, 1) := by decide +kernel
theorem d_Mo_exact_229 : decode b_Mo_exact 229 = .ok (.l2i, 1) := by decide +kernel
theorem d_Mo_exact_230 : decode b_Mo_exact 230 = .ok (.i2l, 1) := by decide +kernel
theorem d_Mo_exact_231 : decode b_Mo_exact 231 = .ok (.lcmp, 1) := by decide +kernel
theorem d_Mo_exact_232 : decode b_Mo_exact 232 = .ok (.ifCond .ne 7, 3) := by decide +kernel
theorem d_Mo_exact_235 : decode b_Mo_exact 235 = .ok (.lload_n 2, 1) := by decide +kernel
theorem d_Mo_exact_236 : decode b_Mo_exact 236 = .ok (.goto 10, 3) := by decide +kernel
theorem d_Mo_exact_239 : decode b_Mo_exact 239 = .ok (.aload_n 0, 1) := by decide +kernel
theorem d_Mo_exact_240 : decode b_Mo_exact 240 = .ok (.bipush 7, 2) := by decide +kernel
theorem d_Mo_exact_242 : decode b_Mo_exact 242 = .ok (.invokevirtual 106, 3) := by decide +kernel
theorem d_Mo_exact_245 : decode b_Mo_exact 245 = .ok (.i2l, 1) := by decide +kernel
theorem d_Mo_exact_246 : decode b_Mo_exact 246 = .ok (.lreturn, 1) := by decide +kernel
theorem d_Mo_exact_247 : decode b_Mo_exact 247 = .ok (.aload_n 0, 1) := by decide +kernel
theorem d_Mo_exact_248 : decode b_Mo_exact 248 = .ok (.iload_n 1, 1) := by decide +kernel
theorem d_Mo_exact_249 : decode b_Mo_exact 249 = .ok (.lload_n 2, 1) := by decide +kernel
theorem d_Mo_exact_250 : decode b_Mo_exact 250 = .ok (.lload 4, 2) := by decide +kernel
theorem d_Mo_exact_252 : decode b_Mo_exact 252 = .ok (.invokevirtual 217, 3) := by decide +kernel
theorem d_Mo_exact_255 : decode b_Mo_exact 255 = .ok (.lreturn, 1) := by decide +kernel
theorem w16_mod {d : Nat → Nat} (hd : ∀ j, d j < 65536) {n m : Nat} : w16 d (n + m) % 65536 ^ n = w16 d n := by
  induction m with
  | zero => exact Nat.mod_eq_of_lt (w16_lt hd n)
  | succ m ih =>
    rw [show n + (m + 1) = (n + m) + 1 by omega, w16_s, Nat.pow_add, Nat.mul_left_comm, Nat.add_mul_mod_self_left, ih]
theorem l_or16b {x d : Nat} (hd : d < 65536) (hx : x < 281474976710656) : lN (x * 65536) ||| lN d = lN (x * 65536 + d) := by
  rw [wb_or (by omega) (by omega)]
  congr 1
  have := Nat.shiftLeft_add_eq_or_of_lt (i := 16) (b := d) hd x
  rw [Nat.shiftLeft_eq, show (2 : Nat) ^ 16 = 65536 from rfl] at this
  exact this.symm
theorem w4_step {d : Nat → Nat} (hd : ∀ j, d j < 65536) {k : Nat} (hk : k < 4) : w16 d 4 / 65536 ^ (k + 1) * 65536 + d k = w16 d 4 / 65536 ^ k ∧ w16 d 4 / 65536 ^ (k + 1) < 281474976710656 := by
  have h1 := w16_dig hd k 4 hk
  have h2 : w16 d 4 / 65536 ^ (k + 1) = w16 d 4 / 65536 ^ k / 65536 := by rw [Nat.pow_succ, Nat.div_div_eq_div_mul]
  have h3 := w16_lt hd 4
  have h4 : w16 d 4 / 65536 ^ k ≤ w16 d 4 := Nat.div_le_self _ _
  have h5 : (65536 : Nat) ^ 4 = 18446744073709551616 := by decide
  rw [h2]
  refine ⟨by omega, by omega⟩
theorem l_least : (-9223372036854775808 : Int64) = lN 9223372036854775808 := by decide
theorem lN_inj {a b : Nat} (ha : a < 18446744073709551616) (hb : b < 18446744073709551616) (h : lN a = lN b) : a = b := by
  have this : (lN a).toBitVec.toNat = (lN b).toBitVec.toNat := by rw [h]
  rw [wb_tn (show a < 2 ^ 64 from ha), wb_tn (show b < 2 ^ 64 from hb)] at this
  exact this
theorem c_Mo_signedLong (l : Launch) {g : Gh} (nx : Nat) {P : Nat} {E0 : Nat → Option Qf} {S : Sx} {ts : Int32} {t : Nat → Nat} (hV : MV g P E0 S.2.1 S.2.2.2.1 S.2.2.2.2 ts t) (hEQ : EQS E0 S) (ls : Prop) [Decidable ls] : Ct l m_Mo_signedLong 0 0 [.ref P, .int (if ls then 1 else 0)] g nx (pM g P nx (if t 12 < 9223372036854775808 ∨ ls ∧ t 12 = 9223372036854775808 then (.long (if ls then -(lN (t 12)) else lN (t 12)), sC S 0) else tellL S 7)) := by
  have h0 := hV.1
  have M12 := MV_m hV 12 (by omega) (by omega)
  obtain ⟨Q, hQe⟩ : ∃ Q, t 12 = Q := ⟨_, rfl⟩
  rw [hQe] at M12 ⊢
  obtain ⟨d, hd, hdQ⟩ := id M12
  have hd1 := hd.1
  have hbl := bl896 M12
  have hw4 : w16 d 4 = Q % 18446744073709551616 := by
    have h := w16_mod (d := d) hd.2 (n := 4) (m := 52)
    rw [show 4 + 52 = 56 from rfl, hdQ, show (65536 : Nat) ^ 4 = 18446744073709551616 by decide] at h
    exact h.symm
  refine Ct.of (by decide) (Nat.le_of_ble_eq_true rfl) (fun E hE hQ => ?_)
  have loop : ∀ (m : Nat) (z : Int32), z.toInt = (m : Int) - 1 → m ≤ 4 → ∀ lv, lG lv 0 = some (.ref P) → lG lv 1 = some (.int (if ls then 1 else 0)) → lG lv 2 = some (.long (lN (w16 d 4 / 65536 ^ m))) → lG lv 4 = some (.int z) → zJ E g nx 0 0 5 lv [] := by
    intro m
    induction m with
    | zero =>
      intro z hz hm lv l0 l1 l2 l4
      refine z_sub (lv' := [(0, .ref P), (1, .int (if ls then 1 else 0)), (2, .long (lN (w16 d 4 / 65536 ^ 0))), (4, .int z)]) (by simp only [List.map, l0, l1, l2, l4]) ?_
      rw [Nat.pow_zero, Nat.div_one, hw4]
      have ok : ∀ lv, (Q < 9223372036854775808 ∨ ls ∧ Q = 9223372036854775808) → lG lv 0 = some (.ref P) → lG lv 1 = some (.int (if ls then 1 else 0)) → lG lv 2 = some (.long (lN (Q % 18446744073709551616))) → zJ E g nx 0 0 85 lv [] := by
        intro lv h l0 l1 l2
        refine z_sub (lv' := [(0, .ref P), (1, .int (if ls then 1 else 0)), (2, .long (lN (Q % 18446744073709551616)))]) (by simp only [List.map, l0, l1, l2]) ?_
        rw [Nat.mod_eq_of_lt (by rcases h with z | z; omega; omega)]
        refine z_aload_n hE d_Mo_signedLong_85 rfl ?_
        refine z_iconst (v := 0) hE d_Mo_signedLong_86 (by decide) ?_
        refine z_put hE d_Mo_signedLong_87 fl_Mo_50 ct_Mo ff_Mo_5 (by assumption) rfl rfl (Nat.le_of_ble_eq_true rfl) ?_
        have V2 := MV_put hV 0 S.2.2.2.2 ts
        refine z_iload_n hE d_Mo_signedLong_90 rfl ?_
        by_cases hl : ls
        · rw [if_pos hl]
          refine z_if_eq (tgt := 99) hE d_Mo_signedLong_91 (by decide) (fun c_ => absurd c_ (by decide)) (fun _ => ?_)
          refine z_lload_n hE d_Mo_signedLong_94 rfl ?_
          refine z_lneg hE d_Mo_signedLong_95 (rfl) ?_
          refine z_goto (tgt := 100) hE d_Mo_signedLong_96 (by decide) ?_
          exact z_lret hE hQ d_Mo_signedLong_100 rfl (by omega) (by omega) (pM_of (S := sC S 0) (by rw [if_pos h, if_pos hl]) V2 (EQS_c hEQ rfl rfl) (gW_S (Nat.le_refl _) (by omega)))
        · rw [if_neg hl]
          refine z_if_eq (tgt := 99) hE d_Mo_signedLong_91 (by decide) (fun _ => ?_) (fun c_ => absurd c_ (fun w => w rfl))
          refine z_lload_n hE d_Mo_signedLong_99 rfl ?_
          exact z_lret hE hQ d_Mo_signedLong_100 rfl (by omega) (by omega) (pM_of (S := sC S 0) (by rw [if_pos h, if_neg hl]) V2 (EQS_c hEQ rfl rfl) (gW_S (Nat.le_refl _) (by omega)))
      have next : ∀ (z : Int32) lv, z = (if ls ∧ Q = 9223372036854775808 then 1 else 0) → lG lv 0 = some (.ref P) → lG lv 1 = some (.int (if ls then 1 else 0)) → lG lv 2 = some (.long (lN (Q % 18446744073709551616))) → lG lv 4 = some (.int (nI (bl Q))) → zJ E g nx 0 0 63 lv [.int z] := by
        intro z lv hz l0 l1 l2 l4
        refine z_sub (lv' := [(0, .ref P), (1, .int (if ls then 1 else 0)), (2, .long (lN (Q % 18446744073709551616))), (4, .int (nI (bl Q)))]) (by simp only [List.map, l0, l1, l2, l4]) ?_
        refine z_istore hE d_Mo_signedLong_63 (by decide) ?_
        refine z_iload hE d_Mo_signedLong_65 rfl ?_
        refine z_bipush (v := nI 63) hE d_Mo_signedLong_67 (by decide) ?_
        by_cases h63 : bl Q ≤ 63
        · refine z_icmp_le (tgt := 85) hE d_Mo_signedLong_69 (by decide) (fun _ => ?_) (fun c_ => absurd c_ (fun w => w ((nI_LE (by omega) (by omega)).mpr h63)))
          exact ok _ (Or.inl (bl_iff.mp h63)) rfl rfl rfl
        · refine z_icmp_le (tgt := 85) hE d_Mo_signedLong_69 (by decide) (fun c_ => absurd c_ (fun w => h63 ((nI_LE (by omega) (by omega)).mp w))) (fun _ => ?_)
          refine z_iload hE d_Mo_signedLong_72 rfl ?_
          by_cases hl : ls ∧ Q = 9223372036854775808
          · rw [if_pos hl] at hz
            subst hz
            refine z_if_ne (tgt := 85) hE d_Mo_signedLong_74 (by decide) (fun _ => ?_) (fun c_ => absurd c_ (by decide))
            exact ok _ (Or.inr hl) rfl rfl rfl
          · rw [if_neg hl] at hz
            subst hz
            refine z_if_ne (tgt := 85) hE d_Mo_signedLong_74 (by decide) (fun c_ => absurd c_ (fun w => w rfl)) (fun _ => ?_)
            have hno : ¬ (Q < 9223372036854775808 ∨ ls ∧ Q = 9223372036854775808) := fun w => w.elim (fun y => h63 (bl_iff.mpr y)) hl
            refine z_aload_n hE d_Mo_signedLong_77 rfl ?_
            refine z_bipush (v := 7) hE d_Mo_signedLong_78 (by decide) ?_
            refine z_callV hE d_Mo_signedLong_80 cl_Mo_106 (c_Mo_fail l nx hV 7) (by assumption) cb_Mo rfl (Nat.le_of_ble_eq_true rfl) ⟨by decide, by decide⟩ ⟨by omega, by omega⟩ (fun r_9 g_9 nx_9 hp_9 => ?_) rfl
            try dsimp only [Option.toList, List.nil_append, List.cons_append]
            obtain ⟨rfl, rfl, V9, G9⟩ := hp_9
            try dsimp only [Option.toList, List.nil_append, List.cons_append]
            refine z_i2l hE d_Mo_signedLong_83 (rfl) ?_
            exact z_lret hE hQ d_Mo_signedLong_84 rfl (by omega) (by omega) (pM_of (S := sC S 7) (by rw [if_neg hno]; rfl) V9 (EQS_c hEQ rfl rfl) (g1_W G9 (by omega) (by omega)))
      refine z_iload hE d_Mo_signedLong_5 rfl ?_
      refine z_if_lt (tgt := 30) hE d_Mo_signedLong_7 (by decide) (fun _ => ?_) (fun c_ => absurd c_ (fun w => w (i_lt0.mpr (by omega))))
      refine z_aload_n hE d_Mo_signedLong_30 rfl ?_
      refine z_get hE d_Mo_signedLong_31 fl_Mo_44 (by assumption) rfl ?_
      refine z_callS hE d_Mo_signedLong_34 cl_Mo_65 (c_Mo_bitsOf l nx M12) rfl (Nat.le_of_ble_eq_true rfl) ⟨by decide, by decide⟩ ⟨by omega, by omega⟩ (fun r_34 g_34 nx_34 hp_34 => ?_) rfl
      obtain ⟨rfl, rfl, rfl⟩ := hp_34
      try dsimp only [Option.toList, List.nil_append, List.cons_append]
      refine z_istore hE d_Mo_signedLong_37 (by decide) ?_
      refine z_iload hE d_Mo_signedLong_39 rfl ?_
      refine z_bipush (v := nI 64) hE d_Mo_signedLong_41 (by decide) ?_
      by_cases h64 : bl Q = 64
      case neg =>
        refine z_icmp_ne (tgt := 62) hE d_Mo_signedLong_43 (by decide) (fun _ => ?_) (fun c_ => absurd c_ (fun w => h64 ((nI_EQ (by omega) (by omega)).mp w)))
        refine z_iconst (v := 0) hE d_Mo_signedLong_62 (by decide) ?_
        refine next 0 _ ?_ rfl rfl rfl rfl
        rw [if_neg (fun w => h64 (by rw [w.2]; decide))]
      refine z_icmp_ne (tgt := 62) hE d_Mo_signedLong_43 (by decide) (fun c_ => absurd c_ (fun w => w (by rw [h64]))) (fun _ => ?_)
      have hQl : Q < 18446744073709551616 := by have := bl_lt Q; rw [h64] at this; exact this
      rw [Nat.mod_eq_of_lt hQl] at next ⊢
      refine z_lload_n hE d_Mo_signedLong_46 rfl ?_
      refine z_ldc2 hE d_Mo_signedLong_47 cn_Mo_183 ?_
      refine z_lcmp hE d_Mo_signedLong_50 ?_
      by_cases hQ63 : Q = 9223372036854775808
      case neg =>
        refine z_if_ne (tgt := 62) hE d_Mo_signedLong_51 (by decide) (fun _ => ?_) (fun c_ => absurd c_ (fun w => hQ63 (by rw [lg_cmp_eq, l_least] at w; exact lN_inj hQl (by decide) w)))
        refine z_iconst (v := 0) hE d_Mo_signedLong_62 (by decide) ?_
        exact next 0 _ (by rw [if_neg (fun w => hQ63 w.2)]) rfl rfl rfl rfl
      refine z_if_ne (tgt := 62) hE d_Mo_signedLong_51 (by decide) (fun c_ => absurd c_ (fun w => w (by rw [lg_cmp_eq, l_least, hQ63]))) (fun _ => ?_)
      refine z_iload_n hE d_Mo_signedLong_54 rfl ?_
      by_cases hl : ls
      · rw [if_pos hl] at next ⊢
        refine z_if_eq (tgt := 62) hE d_Mo_signedLong_55 (by decide) (fun c_ => absurd c_ (by decide)) (fun _ => ?_)
        refine z_iconst (v := 1) hE d_Mo_signedLong_58 (by decide) ?_
        refine z_goto (tgt := 63) hE d_Mo_signedLong_59 (by decide) ?_
        exact next 1 _ (by rw [if_pos ⟨hl, hQ63⟩]) rfl rfl rfl rfl
      · rw [if_neg hl] at next ⊢
        refine z_if_eq (tgt := 62) hE d_Mo_signedLong_55 (by decide) (fun _ => ?_) (fun c_ => absurd c_ (fun w => w rfl))
        refine z_iconst (v := 0) hE d_Mo_signedLong_62 (by decide) ?_
        exact next 0 _ (by rw [if_neg (fun w => hl w.1)]) rfl rfl rfl rfl
    | succ k ih =>
      intro z hz hm lv l0 l1 l2 l4
      have hzk : z = nI k := i_ge (by omega) (by omega)
      subst hzk
      refine z_sub (lv' := [(0, .ref P), (1, .int (if ls then 1 else 0)), (2, .long (lN (w16 d 4 / 65536 ^ (k + 1)))), (4, .int (nI k))]) (by simp only [List.map, l0, l1, l2, l4]) ?_
      obtain ⟨e1, e2⟩ := w4_step hd.2 (k := k) (by omega)
      have hdk := hd.2 k
      refine z_iload hE d_Mo_signedLong_5 rfl ?_
      refine z_if_lt (tgt := 30) hE d_Mo_signedLong_7 (by decide) (fun c_ => absurd c_ (fun w => absurd (i_lt0.mp w) (by omega))) (fun _ => ?_)
      refine z_lload_n hE d_Mo_signedLong_10 rfl ?_
      refine z_bipush (v := nI 16) hE d_Mo_signedLong_11 (by decide) ?_
      refine z_lshl (v := lN (w16 d 4 / 65536 ^ (k + 1) * 65536)) hE d_Mo_signedLong_13 (wb_shl (k := 16) _ (by decide)) ?_
      refine z_aload_n hE d_Mo_signedLong_14 rfl ?_
      refine z_get hE d_Mo_signedLong_15 fl_Mo_44 (by assumption) rfl ?_
      refine z_iload hE d_Mo_signedLong_18 rfl ?_
      refine z_iald hE d_Mo_signedLong_20 (by assumption) (nI_in' (by omega : k < 56) (by omega)) ?_
      rw [nI_cl (by omega)]
      refine z_i2l (v := lN (d k)) hE d_Mo_signedLong_21 (nI_l (by omega)) ?_
      refine z_lor (v := lN (w16 d 4 / 65536 ^ k)) hE d_Mo_signedLong_22 (by rw [l_or16b hdk e2, e1]) ?_
      refine z_lstore_n hE d_Mo_signedLong_23 rfl (by decide) ?_
      refine z_iinc hE d_Mo_signedLong_24 rfl (rfl) (by decide) ?_
      refine z_goto (tgt := 5) hE d_Mo_signedLong_27 (by decide) ?_
      exact ih _ (by show (nI k + (-1)).toInt = _; rw [i_m1I (by rw [nI_ti (by omega)]; omega) (by rw [nI_ti (by omega)]; omega), nI_ti (by omega)]) (by omega) _ rfl rfl rfl rfl
  refine z_lconst (v := lN 0) hE d_Mo_signedLong_0 (by decide) ?_
  refine z_lstore_n hE d_Mo_signedLong_1 rfl (by decide) ?_
  refine z_iconst (v := nI 3) hE d_Mo_signedLong_2 (by decide) ?_
  refine z_istore hE d_Mo_signedLong_3 (by decide) ?_
  exact loop 4 (nI 3) (by rw [nI_ti (by omega)]; rfl) (by omega) _ rfl rfl (by rw [Nat.div_eq_of_lt (w16_lt hd.2 4)]; rfl) rfl
theorem c_Mo_isUp (l : Launch) {g : Gh} (nx : Nat) {way : Nat} {P : Nat} {E0 : Nat → Option Qf} {pl : Nat → Int32} {c n ts : Int32} {t : Nat → Nat} (hV : MV g P E0 pl c n ts t) (hw : way ≤ 3) (ls : Prop) [Decidable ls] (h2 : 2 * t 13 < 65536 ^ 56) : Ct l m_Mo_isUp 0 0 [.ref P, .int (nI way), .int (if ls then 1 else 0), .ref (P + 7)] g nx (fun r g' nx' => r = some (.int (if t 13 ≠ 0 ∧ (way = 1 ∧ ls ∨ way = 2 ∧ ¬ ls ∨ way = 3 ∧ (t 7 < 2 * t 13 ∨ 2 * t 13 = t 7 ∧ t 12 % 2 = 1)) then 1 else 0)) ∧ nx = nx' ∧ gW g g' P (P + 14) ∧ ∃ x, MV g' P E0 pl c n ts (upN t 13 x)) := by
  have h0 := hV.1
  have M13 := MV_m hV 13 (by omega) (by omega)
  have M7 := MV_m hV 7 (by omega) (by omega)
  have M12 := MV_m hV 12 (by omega) (by omega)
  obtain ⟨R, hR⟩ : ∃ R, t 13 = R := ⟨_, rfl⟩
  obtain ⟨y, hy⟩ : ∃ y, t 7 = y := ⟨_, rfl⟩
  obtain ⟨Q, hQe⟩ : ∃ Q, t 12 = Q := ⟨_, rfl⟩
  rw [hR] at M13 h2 ⊢
  rw [hy] at M7 ⊢
  rw [hQe] at M12 ⊢
  refine Ct.of (by decide) (Nat.le_of_ble_eq_true rfl) (fun E hE hQ => ?_)
  have Vs : MV g P E0 pl c n ts (upN t 13 R) := MV_up hV (by omega) M13 g1_r
  refine z_aload_n hE d_Mo_isUp_0 rfl ?_
  refine z_get hE d_Mo_isUp_1 fl_Mo_47 (by assumption) rfl ?_
  refine z_callS hE d_Mo_isUp_4 cl_Mo_77 (c_Mo_isZero l nx M13) rfl (Nat.le_of_ble_eq_true rfl) ⟨by decide, by decide⟩ ⟨by omega, by omega⟩ (fun r_4 g_4 nx_4 hp_4 => ?_) rfl
  obtain ⟨rfl, rfl, rfl⟩ := hp_4
  try dsimp only [Option.toList, List.nil_append, List.cons_append]
  by_cases hR0 : R = 0
  case pos =>
    rw [if_pos hR0]
    refine z_if_eq (tgt := 12) hE d_Mo_isUp_7 (by decide) (fun c_ => absurd c_ (by decide)) (fun _ => ?_)
    refine z_iconst (v := 0) hE d_Mo_isUp_10 (by decide) ?_
    exact z_zret hE hQ d_Mo_isUp_11 rfl (by omega) (by omega) (Or.inl rfl) ⟨by rw [if_neg (fun w => w.1 hR0)], rfl, gW_r, R, Vs⟩
  rw [if_neg hR0]
  refine z_if_eq (tgt := 12) hE d_Mo_isUp_7 (by decide) (fun _ => ?_) (fun c_ => absurd c_ (by decide))
  refine z_iload_n hE d_Mo_isUp_12 rfl ?_
  refine z_iconst (v := nI 3) hE d_Mo_isUp_13 (by decide) ?_
  by_cases w3 : way = 3
  case neg =>
    refine z_icmp_ge (tgt := 41) hE d_Mo_isUp_14 (by decide) (fun c_ => absurd c_ (fun w => absurd ((nI_LE (by omega) (by omega)).mp w) (by omega))) (fun _ => ?_)
    have yes : ∀ lv, (way = 1 ∧ ls ∨ way = 2 ∧ ¬ ls) → zJ E g nx 0 0 35 lv [] := by
      intro lv h
      refine z_iconst (v := 1) hE d_Mo_isUp_35 (by decide) ?_
      refine z_goto (tgt := 40) hE d_Mo_isUp_36 (by decide) ?_
      exact z_zret hE hQ d_Mo_isUp_40 rfl (by omega) (by omega) (Or.inr rfl) ⟨by rw [if_pos ⟨hR0, h.elim Or.inl (fun w => Or.inr (Or.inl w))⟩], rfl, gW_r, R, Vs⟩
    have no : ∀ lv, ¬ (way = 1 ∧ ls ∨ way = 2 ∧ ¬ ls) → zJ E g nx 0 0 39 lv [] := by
      intro lv h
      refine z_iconst (v := 0) hE d_Mo_isUp_39 (by decide) ?_
      have hne : ¬ (R ≠ 0 ∧ (way = 1 ∧ ls ∨ way = 2 ∧ ¬ ls ∨ way = 3 ∧ (y < 2 * R ∨ 2 * R = y ∧ Q % 2 = 1))) := by
        intro w
        rcases w.2 with q | q | q
        · exact h (Or.inl q)
        · exact h (Or.inr q)
        · exact w3 q.1
      exact z_zret hE hQ d_Mo_isUp_40 rfl (by omega) (by omega) (Or.inl rfl) ⟨by rw [if_neg hne], rfl, gW_r, R, Vs⟩
    have two : ∀ lv, ¬ (way = 1 ∧ ls) → lG lv 1 = some (.int (nI way)) → lG lv 2 = some (.int (if ls then 1 else 0)) → zJ E g nx 0 0 26 lv [] := by
      intro lv h1 l1 l2
      refine z_sub (lv' := [(1, .int (nI way)), (2, .int (if ls then 1 else 0))]) (by simp only [List.map, l1, l2]) ?_
      refine z_iload_n hE d_Mo_isUp_26 rfl ?_
      refine z_iconst (v := nI 2) hE d_Mo_isUp_27 (by decide) ?_
      by_cases w2 : way = 2
      · refine z_icmp_ne (tgt := 39) hE d_Mo_isUp_28 (by decide) (fun c_ => absurd c_ (fun w => w (by rw [w2]))) (fun _ => ?_)
        refine z_iload_n hE d_Mo_isUp_31 rfl ?_
        by_cases hl : ls
        · rw [if_pos hl]
          refine z_if_ne (tgt := 39) hE d_Mo_isUp_32 (by decide) (fun _ => ?_) (fun c_ => absurd c_ (by decide))
          exact no _ (fun w => w.elim h1 (fun q => q.2 hl))
        · rw [if_neg hl]
          refine z_if_ne (tgt := 39) hE d_Mo_isUp_32 (by decide) (fun c_ => absurd c_ (fun w => w rfl)) (fun _ => ?_)
          exact yes _ (Or.inr ⟨w2, hl⟩)
      · refine z_icmp_ne (tgt := 39) hE d_Mo_isUp_28 (by decide) (fun _ => ?_) (fun c_ => absurd c_ (fun w => w2 ((nI_EQ (by omega) (by omega)).mp w)))
        exact no _ (fun w => w.elim h1 (fun q => w2 q.1))
    refine z_iload_n hE d_Mo_isUp_17 rfl ?_
    refine z_iconst (v := nI 1) hE d_Mo_isUp_18 (by decide) ?_
    by_cases w1 : way = 1
    · refine z_icmp_ne (tgt := 26) hE d_Mo_isUp_19 (by decide) (fun c_ => absurd c_ (fun w => w (by rw [w1]))) (fun _ => ?_)
      refine z_iload_n hE d_Mo_isUp_22 rfl ?_
      by_cases hl : ls
      · rw [if_pos hl]
        refine z_if_ne (tgt := 35) hE d_Mo_isUp_23 (by decide) (fun _ => ?_) (fun c_ => absurd c_ (by decide))
        exact yes _ (Or.inl ⟨w1, hl⟩)
      · rw [if_neg hl]
        refine z_if_ne (tgt := 35) hE d_Mo_isUp_23 (by decide) (fun c_ => absurd c_ (fun w => w rfl)) (fun _ => ?_)
        exact two _ (fun w => hl w.2) rfl (by rw [if_neg hl]; rfl)
    · refine z_icmp_ne (tgt := 26) hE d_Mo_isUp_19 (by decide) (fun _ => ?_) (fun c_ => absurd c_ (fun w => w1 ((nI_EQ (by omega) (by omega)).mp w)))
      exact two _ (fun w => w1 w.1) rfl rfl
  refine z_icmp_ge (tgt := 41) hE d_Mo_isUp_14 (by decide) (fun _ => ?_) (fun c_ => absurd c_ (fun w => w ((nI_LE (by omega) (by omega)).mpr (by omega))))
  refine z_aload_n hE d_Mo_isUp_41 rfl ?_
  refine z_get hE d_Mo_isUp_42 fl_Mo_47 (by assumption) rfl ?_
  refine z_iconst (v := nI 0) hE d_Mo_isUp_45 (by decide) ?_
  refine z_callS hE d_Mo_isUp_46 cl_Mo_61 (c_Mo_doubled l nx M13 (bit := 0) (by omega) (by omega)) rfl (Nat.le_of_ble_eq_true rfl) ⟨by decide, by decide⟩ ⟨by omega, by omega⟩ (fun r_1 g_1 nx_1 hp_1 => ?_) rfl
  try dsimp only [Option.toList, List.nil_append, List.cons_append]
  obtain ⟨rfl, rfl, N1, G1⟩ := hp_1
  try dsimp only [Option.toList, List.nil_append, List.cons_append]
  have V1 := MV_up hV (by omega) N1 G1
  have m1 := V1.1
  have W1 : gW g g_1 P (P + 14) := gW_t gW_r (g1_W G1 (by omega) (by omega))
  rw [Nat.add_zero] at N1
  have N7 := MA_o M7 G1 (by omega)
  obtain ⟨d, hd, hd0⟩ := MA_0 (MA_o M12 G1 (by omega))
  have hd1 := hd.1
  refine z_aload_n hE d_Mo_isUp_49 rfl ?_
  refine z_get hE d_Mo_isUp_50 fl_Mo_47 (by assumption) rfl ?_
  refine z_aload_n hE d_Mo_isUp_53 rfl ?_
  refine z_callS hE d_Mo_isUp_54 cl_Mo_69 (c_Mo_compared l nx N1 N7) rfl (Nat.le_of_ble_eq_true rfl) ⟨by decide, by decide⟩ ⟨by omega, by omega⟩ (fun r_54 g_54 nx_54 hp_54 => ?_) rfl
  obtain ⟨rfl, rfl, rfl⟩ := hp_54
  try dsimp only [Option.toList, List.nil_append, List.cons_append]
  have cond : (R ≠ 0 ∧ (way = 1 ∧ ls ∨ way = 2 ∧ ¬ ls ∨ way = 3 ∧ (y < 2 * R ∨ 2 * R = y ∧ Q % 2 = 1))) ↔ (y < 2 * R ∨ 2 * R = y ∧ Q % 2 = 1) := by
    constructor
    · rintro ⟨-, q | q | q⟩
      · omega
      · omega
      · exact q.2
    · intro q; exact ⟨hR0, Or.inr (Or.inr ⟨w3, q⟩)⟩
  have yes : ∀ lv, (y < 2 * R ∨ 2 * R = y ∧ Q % 2 = 1) → zJ E g_1 nx 0 0 81 lv [] := by
    intro lv h
    refine z_iconst (v := 1) hE d_Mo_isUp_81 (by decide) ?_
    refine z_goto (tgt := 86) hE d_Mo_isUp_82 (by decide) ?_
    exact z_zret hE hQ d_Mo_isUp_86 rfl (by omega) (by omega) (Or.inr rfl) ⟨by rw [if_pos (cond.mpr h)], rfl, W1, _, V1⟩
  have no : ∀ lv, ¬ (y < 2 * R ∨ 2 * R = y ∧ Q % 2 = 1) → zJ E g_1 nx 0 0 85 lv [] := by
    intro lv h
    refine z_iconst (v := 0) hE d_Mo_isUp_85 (by decide) ?_
    exact z_zret hE hQ d_Mo_isUp_86 rfl (by omega) (by omega) (Or.inl rfl) ⟨by rw [if_neg (fun w => h (cond.mp w))], rfl, W1, _, V1⟩
  refine z_istore hE d_Mo_isUp_57 (by decide) ?_
  refine z_iload hE d_Mo_isUp_59 rfl ?_
  rcases Nat.lt_trichotomy (2 * R) y with q | q | q
  · rw [show cmpN (2 * R + 0) y = -1 from if_pos q]
    refine z_if_gt (tgt := 81) hE d_Mo_isUp_61 (by decide) (fun c_ => absurd c_ (by decide)) (fun _ => ?_)
    refine z_iload hE d_Mo_isUp_64 rfl ?_
    refine z_if_ne (tgt := 85) hE d_Mo_isUp_66 (by decide) (fun _ => ?_) (fun c_ => absurd c_ (by decide))
    exact no _ (by omega)
  · rw [show cmpN (2 * R + 0) y = 0 by unfold cmpN; rw [if_neg (by omega), if_pos (by omega)]]
    refine z_if_gt (tgt := 81) hE d_Mo_isUp_61 (by decide) (fun c_ => absurd c_ (by decide)) (fun _ => ?_)
    refine z_iload hE d_Mo_isUp_64 rfl ?_
    refine z_if_ne (tgt := 85) hE d_Mo_isUp_66 (by decide) (fun c_ => absurd c_ (fun w => w rfl)) (fun _ => ?_)
    refine z_aload_n hE d_Mo_isUp_69 rfl ?_
    refine z_get hE d_Mo_isUp_70 fl_Mo_44 (by assumption) rfl ?_
    refine z_iconst (v := nI 0) hE d_Mo_isUp_73 (by decide) ?_
    refine z_iald hE d_Mo_isUp_74 (by assumption) (nI_in' (by omega : 0 < 56) (by omega)) ?_
    rw [nI_cl (by omega)]
    refine z_iconst (v := 1) hE d_Mo_isUp_75 (by decide) ?_
    refine z_iand (v := nI (d 0 % 2)) hE d_Mo_isUp_76 (i_and1 _) ?_
    refine z_iconst (v := nI 1) hE d_Mo_isUp_77 (by decide) ?_
    by_cases ho : Q % 2 = 1
    · refine z_icmp_ne (tgt := 85) hE d_Mo_isUp_78 (by decide) (fun c_ => absurd c_ (fun w => w (by rw [hd0, ho]))) (fun _ => ?_)
      exact yes _ (Or.inr ⟨q, ho⟩)
    · refine z_icmp_ne (tgt := 85) hE d_Mo_isUp_78 (by decide) (fun _ => ?_) (fun c_ => absurd c_ (fun w => ho (by rw [hd0] at w; exact (nI_EQ (by omega) (by omega)).mp w)))
      exact no _ (by omega)
  · rw [show cmpN (2 * R + 0) y = 1 by unfold cmpN; rw [if_neg (by omega), if_neg (by omega)]]
    refine z_if_gt (tgt := 81) hE d_Mo_isUp_61 (by decide) (fun _ => ?_) (fun c_ => absurd c_ (by decide))
    exact yes _ (Or.inl q)
theorem c_Mo_round (l : Launch) {g : Gh} (nx : Nat) {P : Nat} {S : Sx} (hM : MW g P S) (hO : SOK S) (a n y : Int32) : Ct l m_Mo_round 0 0 [.ref P, .int a, .int n, .int y] g nx (pM g P nx (spRound S a n y)) := by
  obtain ⟨E0, t, ts, hV, hEQ⟩ := hM
  have h0 := hV.1
  obtain ⟨-, ⟨th, h1, h1'⟩, ⟨sn, A, B, h2, h3, h4, b4, b5, b6⟩, ⟨rm, h5, h5'⟩, -⟩ := id hV
  refine Ct.of (by decide) (Nat.le_of_ble_eq_true rfl) (fun E hE hQ => ?_)
  have out : ∀ lv, ¬ (inI a 0 15 ∧ inI n 0 18 ∧ inI y 0 3) → zJ E g nx 0 0 31 lv [] := by
    intro lv h
    refine z_ldc2 hE d_Mo_round_31 cn_Mo_181 ?_
    exact z_lret hE hQ d_Mo_round_34 rfl (by omega) (by omega) (pM_of (if_neg h) hV hEQ gW_r)
  refine z_iload_n hE d_Mo_round_0 rfl ?_
  refine z_callS hE d_Mo_round_1 cl_Mo_138 (c_Mo_isFraction l g nx a) rfl (Nat.le_of_ble_eq_true rfl) ⟨by decide, by decide⟩ ⟨by omega, by omega⟩ (fun r_1 g_1 nx_1 hp_1 => ?_) rfl
  obtain ⟨rfl, rfl, rfl⟩ := hp_1
  try dsimp only [Option.toList, List.nil_append, List.cons_append]
  by_cases ha : inI a 0 15
  case neg =>
    rw [if_neg ha]
    refine z_if_eq (tgt := 31) hE d_Mo_round_4 (by decide) (fun _ => ?_) (fun c_ => absurd c_ (by decide))
    exact out _ (fun q => ha q.1)
  rw [if_pos ha]
  refine z_if_eq (tgt := 31) hE d_Mo_round_4 (by decide) (fun c_ => absurd c_ (by decide)) (fun _ => ?_)
  refine z_iload_n hE d_Mo_round_7 rfl ?_
  refine z_i2l hE d_Mo_round_8 (rfl) ?_
  refine z_lconst (v := 0) hE d_Mo_round_9 (by decide) ?_
  refine z_ldc2 hE d_Mo_round_10 cn_Mo_185 ?_
  refine z_callS hE d_Mo_round_13 cl_Mo_125 (c_Mo_inI l g nx n 0 18 0 18 (by decide) (by decide)) rfl (Nat.le_of_ble_eq_true rfl) ⟨by decide, by decide⟩ ⟨by omega, by omega⟩ (fun r_13 g_13 nx_13 hp_13 => ?_) rfl
  obtain ⟨rfl, rfl, rfl⟩ := hp_13
  try dsimp only [Option.toList, List.nil_append, List.cons_append]
  by_cases hn : inI n 0 18
  case neg =>
    rw [if_neg hn]
    refine z_if_eq (tgt := 31) hE d_Mo_round_16 (by decide) (fun _ => ?_) (fun c_ => absurd c_ (by decide))
    exact out _ (fun q => hn q.2.1)
  rw [if_pos hn]
  refine z_if_eq (tgt := 31) hE d_Mo_round_16 (by decide) (fun c_ => absurd c_ (by decide)) (fun _ => ?_)
  refine z_iload_n hE d_Mo_round_19 rfl ?_
  refine z_i2l hE d_Mo_round_20 (rfl) ?_
  refine z_lconst (v := 0) hE d_Mo_round_21 (by decide) ?_
  refine z_ldc2 hE d_Mo_round_22 cn_Mo_129 ?_
  refine z_callS hE d_Mo_round_25 cl_Mo_125 (c_Mo_inI l g nx y 0 3 0 3 (by decide) (by decide)) rfl (Nat.le_of_ble_eq_true rfl) ⟨by decide, by decide⟩ ⟨by omega, by omega⟩ (fun r_25 g_25 nx_25 hp_25 => ?_) rfl
  obtain ⟨rfl, rfl, rfl⟩ := hp_25
  try dsimp only [Option.toList, List.nil_append, List.cons_append]
  by_cases hy : inI y 0 3
  case neg =>
    rw [if_neg hy]
    refine z_if_ne (tgt := 35) hE d_Mo_round_28 (by decide) (fun c_ => absurd c_ (by decide)) (fun _ => ?_)
    exact out _ (fun q => hy q.2.2)
  rw [if_pos hy]
  refine z_if_ne (tgt := 35) hE d_Mo_round_28 (by decide) (fun _ => ?_) (fun c_ => absurd c_ (by decide))
  obtain ⟨ea, za, ha2⟩ := fx_of ha (by omega) (by omega)
  obtain ⟨en, zn, hn2⟩ := fx_of hn (by omega) (by omega)
  obtain ⟨ey, zy, hy2⟩ := fx_of hy (by omega) (by omega)
  refine z_aload_n hE d_Mo_round_35 rfl ?_
  refine z_get hE d_Mo_round_36 fl_Mo_7 (by assumption) rfl ?_
  refine z_iload_n hE d_Mo_round_39 rfl ?_
  rw [ea]
  refine z_zald hE d_Mo_round_40 (by assumption) (nI_in' (by omega : fx a < 58) (by omega)) ?_
  rw [nI_cl (by omega), h1' (fx a) (by omega), hEQ.1 (fx a) (by omega)]
  obtain ⟨x, hx⟩ | hx : (∃ x, S.1 (fx a) = some x) ∨ S.1 (fx a) = none := by cases S.1 (fx a); exact Or.inr rfl; exact Or.inl ⟨_, rfl⟩
  case inr =>
    rw [hx, show (none : Option Qf).isSome = false from rfl, if_neg (by decide)]
    refine z_if_ne (tgt := 51) hE d_Mo_round_41 (by decide) (fun c_ => absurd c_ (fun z => z rfl)) (fun _ => ?_)
    refine z_aload_n hE d_Mo_round_44 rfl ?_
    refine z_iconst (v := 1) hE d_Mo_round_45 (by decide) ?_
    refine z_callV hE d_Mo_round_46 cl_Mo_106 (c_Mo_fail l nx hV 1) (by assumption) cb_Mo rfl (Nat.le_of_ble_eq_true rfl) ⟨by decide, by decide⟩ ⟨by omega, by omega⟩ (fun r_9 g_9 nx_9 hp_9 => ?_) rfl
    try dsimp only [Option.toList, List.nil_append, List.cons_append]
    obtain ⟨rfl, rfl, V9, G9⟩ := hp_9
    try dsimp only [Option.toList, List.nil_append, List.cons_append]
    refine z_i2l hE d_Mo_round_49 (rfl) ?_
    refine z_lret hE hQ d_Mo_round_50 rfl (by omega) (by omega) (pM_of (S := sC S 1) ?_ V9 (EQS_c hEQ rfl rfl) (gW_t gW_r (g1_W G9 (by omega) (by omega))))
    unfold spRound; rw [if_pos ⟨ha, hn, hy⟩, hx]; rfl
  rw [hx, show (some x).isSome = true from rfl, if_pos rfl]
  refine z_if_ne (tgt := 51) hE d_Mo_round_41 (by decide) (fun _ => ?_) (fun c_ => absurd c_ (by decide))
  have kx := S_q hO (by omega) hx
  have ex := (hEQ.1 (fx a) (by omega)).trans hx
  have sx := (b6 (fx a) (by omega) x ex).1
  obtain ⟨Z, hZ⟩ : ∃ Z, rnd x.1 x.2.1 x.2.2 (fx n) (fx y) = Z := ⟨_, rfl⟩
  have hspec : spRound S a n y = if Z < 9223372036854775808 ∨ x.1 < 0 ∧ Z = 9223372036854775808 then (.long (if x.1 < 0 then -(lN Z) else lN Z), sC S 0) else tellL S 7 := by unfold spRound; rw [if_pos ⟨ha, hn, hy⟩, hx, ← hZ]
  have e56 : 4294967296 ^ 8 * 4000000000000000000 ≤ 65536 ^ 56 := by decide
  have hx2 := kx.2.1
  have hx3 := kx.2.2
  have hxp := kx.1.2.2
  have h10 := p10_le (n := fx n) (by omega)
  refine z_aload_n hE d_Mo_round_51 rfl ?_
  refine z_iload_n hE d_Mo_round_52 rfl ?_
  refine z_aload_n hE d_Mo_round_53 rfl ?_
  refine z_get hE d_Mo_round_54 fl_Mo_38 (by assumption) rfl ?_
  refine z_aload_n hE d_Mo_round_57 rfl ?_
  refine z_get hE d_Mo_round_58 fl_Mo_29 (by assumption) rfl ?_
  refine z_callV hE d_Mo_round_61 cl_Mo_119 (c_Mo_take l nx (i := 10) (j := 7) hV (by omega) ex (by omega) (by omega) (by omega) (by omega) (by omega)) (by assumption) cb_Mo rfl (Nat.le_of_ble_eq_true rfl) ⟨by decide, by decide⟩ ⟨by omega, by omega⟩ (fun r_1 g_1 nx_1 hp_1 => ?_) rfl
  try dsimp only [Option.toList, List.nil_append, List.cons_append]
  obtain ⟨rfl, rfl, V1, G1⟩ := hp_1
  try dsimp only [Option.toList, List.nil_append, List.cons_append]
  have m1 := V1.1
  have W1 : gW g g_1 P (P + 14) := gW_t gW_r (g2_W G1 (by omega) (by omega) (by omega) (by omega))
  refine z_lconst (v := lN (10 ^ 0)) hE d_Mo_round_64 (by decide) ?_
  refine z_lstore hE d_Mo_round_65 (by decide) ?_
  refine z_iconst (v := nI 0) hE d_Mo_round_67 (by decide) ?_
  refine z_istore hE d_Mo_round_68 (by decide) ?_
  have after : ∀ lv, lG lv 0 = some (.ref P) → lG lv 1 = some (.int (nI (fx a))) → lG lv 3 = some (.int (nI (fx y))) → lG lv 4 = some (.long (lN (10 ^ fx n))) → zJ E g_1 nx 0 0 90 lv [] := by
    intro lv l0 l1 l3 l4
    refine z_sub (lv' := [(0, .ref P), (1, .int (nI (fx a))), (3, .int (nI (fx y))), (4, .long (lN (10 ^ fx n)))]) (by simp only [List.map, l0, l1, l3, l4]) ?_
    refine z_aload_n hE d_Mo_round_90 rfl ?_
    refine z_get hE d_Mo_round_91 fl_Mo_32 (by assumption) rfl ?_
    refine z_lload hE d_Mo_round_94 rfl ?_
    refine z_callS hE d_Mo_round_96 cl_Mo_142 (c_Mo_setLong l nx (MV_m V1 8 (by omega) (by omega)) (10 ^ fx n) (by omega)) rfl (Nat.le_of_ble_eq_true rfl) ⟨by decide, by decide⟩ ⟨by omega, by omega⟩ (fun r_2 g_2 nx_2 hp_2 => ?_) rfl
    try dsimp only [Option.toList, List.nil_append, List.cons_append]
    obtain ⟨rfl, rfl, N2, G2⟩ := hp_2
    try dsimp only [Option.toList, List.nil_append, List.cons_append]
    have V2 := MV_up V1 (by omega) N2 G2
    have m2 := V2.1
    have W2 : gW g g_2 P (P + 14) := gW_t W1 (g1_W G2 (by omega) (by omega))
    have hp10 : x.2.1 * 10 ^ fx n < 65536 ^ 56 := Nat.lt_of_le_of_lt (Nat.mul_le_mul (Nat.le_of_lt hx2) h10) (by decide)
    refine z_aload_n hE d_Mo_round_99 rfl ?_
    refine z_get hE d_Mo_round_100 fl_Mo_38 (by assumption) rfl ?_
    refine z_aload_n hE d_Mo_round_103 rfl ?_
    refine z_get hE d_Mo_round_104 fl_Mo_32 (by assumption) rfl ?_
    refine z_aload_n hE d_Mo_round_107 rfl ?_
    refine z_get hE d_Mo_round_108 fl_Mo_26 (by assumption) rfl ?_
    refine z_callS hE d_Mo_round_111 cl_Mo_131 (c_Mo_multiply l nx (x := x.2.1) (y := 10 ^ fx n) (MV_m V2 10 (by omega) (by omega)) N2 (MV_m V2 6 (by omega) (by omega)) (by omega) (by omega) hp10) rfl (Nat.le_of_ble_eq_true rfl) ⟨by decide, by decide⟩ ⟨by omega, by omega⟩ (fun r_3 g_3 nx_3 hp_3 => ?_) rfl
    try dsimp only [Option.toList, List.nil_append, List.cons_append]
    obtain ⟨rfl, rfl, N3, G3⟩ := hp_3
    try dsimp only [Option.toList, List.nil_append, List.cons_append]
    have V3 := MV_up V2 (by omega) N3 G3
    have m3 := V3.1
    have W3 : gW g g_3 P (P + 14) := gW_t W2 (g1_W G3 (by omega) (by omega))
    refine z_aload_n hE d_Mo_round_114 rfl ?_
    refine z_aload_n hE d_Mo_round_115 rfl ?_
    refine z_get hE d_Mo_round_116 fl_Mo_26 (by assumption) rfl ?_
    refine z_aload_n hE d_Mo_round_119 rfl ?_
    refine z_get hE d_Mo_round_120 fl_Mo_29 (by assumption) rfl ?_
    refine z_callV hE d_Mo_round_123 cl_Mo_96 (c_Mo_divide l nx (i := 6) (j := 7) V3 (by omega) (by omega) (by omega) (by omega) (by exact hxp) (by show 2 * x.2.2 ≤ _; omega)) (by assumption) cb_Mo rfl (Nat.le_of_ble_eq_true rfl) ⟨by decide, by decide⟩ ⟨by omega, by omega⟩ (fun r_4 g_4 nx_4 hp_4 => ?_) rfl
    try dsimp only [Option.toList, List.nil_append, List.cons_append]
    obtain ⟨rfl, rfl, V4, G4⟩ := hp_4
    try dsimp only [Option.toList, List.nil_append, List.cons_append]
    have m4 := V4.1
    have W4 : gW g g_4 P (P + 14) := gW_t W3 (g2_W G4 (by omega) (by omega) (by omega) (by omega))
    obtain ⟨t4, ht4⟩ : ∃ t4, t4 = upN (upN (upN (upN (upN (upN t 10 x.2.1) 7 x.2.2) 8 (10 ^ fx n)) 6 (x.2.1 * 10 ^ fx n)) 12 (x.2.1 * 10 ^ fx n / x.2.2)) 13 (x.2.1 * 10 ^ fx n % x.2.2) := ⟨_, rfl⟩
    have V4 : MV g_4 P E0 S.2.1 S.2.2.2.1 S.2.2.2.2 ts t4 := by rw [ht4]; exact V4
    have q7 : t4 7 = x.2.2 := by rw [ht4]; rfl
    have q12 : t4 12 = x.2.1 * 10 ^ fx n / x.2.2 := by rw [ht4]; rfl
    have q13 : t4 13 = x.2.1 * 10 ^ fx n % x.2.2 := by rw [ht4]; rfl
    have hrl : x.2.1 * 10 ^ fx n % x.2.2 < x.2.2 := Nat.mod_lt _ hxp
    obtain ⟨-, -, ⟨sn4, A4, B4, k2, -, -, -, -, k6⟩, -⟩ := id V4
    have sx4 := (k6 (fx a) (by omega) x ex).1
    have last : ∀ (g' : Gh) (t' : Nat → Nat) lv, MV g' P E0 S.2.1 S.2.2.2.1 S.2.2.2.2 ts t' → gW g g' P (P + 14) → t' 12 = Z → lG lv 0 = some (.ref P) → lG lv 1 = some (.int (nI (fx a))) → zJ E g' nx 0 0 171 lv [] := by
      intro g' t' lv V' W' e12 l0 l1
      refine z_sub (lv' := [(0, .ref P), (1, .int (nI (fx a)))]) (by simp only [List.map, l0, l1]) ?_
      have m' := V'.1
      obtain ⟨-, -, ⟨sn', A', B', j2, -, -, -, -, j6⟩, -⟩ := id V'
      have sx' := (j6 (fx a) (by omega) x ex).1
      have fin : ∀ lv, zJ E g' nx 0 0 186 lv [.int (if x.1 < 0 then 1 else 0), .ref P] := by
        intro lv
        refine z_callV hE d_Mo_round_186 cl_Mo_193 (c_Mo_signedLong l nx V' hEQ (x.1 < 0)) (by assumption) cb_Mo rfl (Nat.le_of_ble_eq_true rfl) ⟨by decide, by decide⟩ ⟨by omega, by omega⟩ (fun r_8 g_8 nx_8 hp_8 => ?_) rfl
        try dsimp only [Option.toList, List.nil_append, List.cons_append]
        obtain ⟨e1, e2, e3, e4⟩ := hp_8
        rw [e12, ← hspec] at e1 e3
        subst e2
        have hlong : ∃ v, (spRound S a n y).1 = .long v := by
          rw [hspec]; split; exact ⟨_, rfl⟩; exact ⟨_, rfl⟩
        obtain ⟨v, hv⟩ := hlong
        rw [hv] at e1
        subst e1
        exact z_lret hE hQ d_Mo_round_189 rfl (by omega) (by omega) ⟨by rw [hv], rfl, e3, gW_t W' e4⟩
      refine z_aload_n hE d_Mo_round_171 rfl ?_
      refine z_aload_n hE d_Mo_round_172 rfl ?_
      refine z_get hE d_Mo_round_173 fl_Mo_13 (by assumption) rfl ?_
      refine z_iload_n hE d_Mo_round_176 rfl ?_
      refine z_iald hE d_Mo_round_177 (by assumption) (nI_in' (by omega : fx a < 58) (by omega)) ?_
      rw [nI_cl (by omega), sx']
      by_cases hl : x.1 < 0
      · refine z_if_ge (tgt := 185) hE d_Mo_round_178 (by decide) (fun c_ => absurd c_ (fun w => absurd hl (Int32.not_lt.mpr w))) (fun _ => ?_)
        refine z_iconst (v := 1) hE d_Mo_round_181 (by decide) ?_
        refine z_goto (tgt := 186) hE d_Mo_round_182 (by decide) ?_
        have := fin [(0, .ref P), (1, .int (nI (fx a)))]
        rw [if_pos hl] at this
        exact this
      · refine z_if_ge (tgt := 185) hE d_Mo_round_178 (by decide) (fun _ => ?_) (fun c_ => absurd c_ (fun w => w (Int32.not_lt.mp hl)))
        refine z_iconst (v := 0) hE d_Mo_round_185 (by decide) ?_
        have := fin [(0, .ref P), (1, .int (nI (fx a)))]
        rw [if_neg hl] at this
        exact this
    have up1 : ∀ lv, lG lv 0 = some (.ref P) → lG lv 1 = some (.int (nI (fx a))) → zJ E g_4 nx 0 0 142 lv [.int (if x.1 < 0 then 1 else 0), .int (nI (fx y)), .ref P] := by
      intro lv l0 l1
      refine z_sub (lv' := [(0, .ref P), (1, .int (nI (fx a)))]) (by simp only [List.map, l0, l1]) ?_
      refine z_aload_n hE d_Mo_round_142 rfl ?_
      refine z_get hE d_Mo_round_143 fl_Mo_29 (by assumption) rfl ?_
      refine z_callV hE d_Mo_round_146 cl_Mo_189 (c_Mo_isUp l nx V4 (by omega : fx y ≤ 3) (x.1 < 0) (by rw [q13]; omega)) (by assumption) cb_Mo rfl (Nat.le_of_ble_eq_true rfl) ⟨by decide, by decide⟩ ⟨by omega, by omega⟩ (fun r_5 g_5 nx_5 hp_5 => ?_) rfl
      try dsimp only [Option.toList, List.nil_append, List.cons_append]
      obtain ⟨rfl, rfl, W5, xr, V5⟩ := hp_5
      try dsimp only [Option.toList, List.nil_append, List.cons_append]
      have m5 := V5.1
      have W5 := gW_t W4 W5
      rw [q7, q12, q13]
      have hcond : (x.2.1 * 10 ^ fx n % x.2.2 ≠ 0 ∧ (fx y = 1 ∧ x.1 < 0 ∨ fx y = 2 ∧ ¬ x.1 < 0 ∨ fx y = 3 ∧ (x.2.2 < 2 * (x.2.1 * 10 ^ fx n % x.2.2) ∨ 2 * (x.2.1 * 10 ^ fx n % x.2.2) = x.2.2 ∧ x.2.1 * 10 ^ fx n / x.2.2 % 2 = 1))) ↔ upR x.1 x.2.2 (x.2.1 * 10 ^ fx n / x.2.2) (x.2.1 * 10 ^ fx n % x.2.2) (fx y) := by
        unfold upR
        refine and_congr_right (fun hr => ?_)
        have hs : ¬ x.1 < 0 ↔ 0 < x.1 := by
          rcases kx.1.1 with z | z | z
          · exact absurd (by rw [z.2, Nat.zero_mul, Nat.zero_mod]) hr
          · rw [z.1]; decide
          · rw [z.1]; decide
        rw [hs]
      by_cases hu : upR x.1 x.2.2 (x.2.1 * 10 ^ fx n / x.2.2) (x.2.1 * 10 ^ fx n % x.2.2) (fx y)
      · rw [if_pos (hcond.mpr hu)]
        refine z_if_eq (tgt := 171) hE d_Mo_round_149 (by decide) (fun c_ => absurd c_ (by decide)) (fun _ => ?_)
        refine z_aload_n hE d_Mo_round_152 rfl ?_
        refine z_get hE d_Mo_round_153 fl_Mo_32 (by assumption) rfl ?_
        refine z_lconst (v := lN 1) hE d_Mo_round_156 (by decide) ?_
        refine z_callS hE d_Mo_round_157 cl_Mo_142 (c_Mo_setLong l nx (MV_m V5 8 (by omega) (by omega)) 1 (by omega)) rfl (Nat.le_of_ble_eq_true rfl) ⟨by decide, by decide⟩ ⟨by omega, by omega⟩ (fun r_6 g_6 nx_6 hp_6 => ?_) rfl
        try dsimp only [Option.toList, List.nil_append, List.cons_append]
        obtain ⟨rfl, rfl, N6, G6⟩ := hp_6
        try dsimp only [Option.toList, List.nil_append, List.cons_append]
        have V6 := MV_up V5 (by omega) N6 G6
        have m6 := V6.1
        have W6 : gW g g_6 P (P + 14) := gW_t W5 (g1_W G6 (by omega) (by omega))
        have M12 : MA g_6 (P + 12) (x.2.1 * 10 ^ fx n / x.2.2) := by rw [← q12]; exact MV_m V6 12 (by omega) (by omega)
        have hle : x.2.1 * 10 ^ fx n / x.2.2 ≤ x.2.1 * 10 ^ fx n := Nat.div_le_self _ _
        have hp11 : x.2.1 * 10 ^ fx n + 1 < 65536 ^ 56 := Nat.lt_of_le_of_lt (Nat.succ_le_succ (Nat.mul_le_mul (Nat.le_of_lt hx2) h10)) (by decide)
        refine z_aload_n hE d_Mo_round_160 rfl ?_
        refine z_get hE d_Mo_round_161 fl_Mo_44 (by assumption) rfl ?_
        refine z_aload_n hE d_Mo_round_164 rfl ?_
        refine z_get hE d_Mo_round_165 fl_Mo_32 (by assumption) rfl ?_
        refine z_callS hE d_Mo_round_168 cl_Mo_135 (c_Mo_addTo l nx M12 N6 (by omega) (by omega)) rfl (Nat.le_of_ble_eq_true rfl) ⟨by decide, by decide⟩ ⟨by omega, by omega⟩ (fun r_7 g_7 nx_7 hp_7 => ?_) rfl
        try dsimp only [Option.toList, List.nil_append, List.cons_append]
        obtain ⟨rfl, rfl, N7, G7⟩ := hp_7
        try dsimp only [Option.toList, List.nil_append, List.cons_append]
        have V7 := MV_up V6 (by omega) N7 G7
        have m7 := V7.1
        have W7 : gW g g_7 P (P + 14) := gW_t W6 (g1_W G7 (by omega) (by omega))
        refine last _ _ _ V7 W7 ?_ rfl rfl
        show x.2.1 * 10 ^ fx n / x.2.2 + 1 = Z
        rw [← hZ]; unfold rnd; rw [rU_1 hu]
      · rw [if_neg (fun w => hu (hcond.mp w))]
        refine z_if_eq (tgt := 171) hE d_Mo_round_149 (by decide) (fun _ => ?_) (fun c_ => absurd c_ (by decide))
        refine last _ _ _ V5 W5 ?_ rfl rfl
        show t4 12 = Z
        rw [q12, ← hZ]; unfold rnd; rw [rU_0 hu, Nat.add_zero]
    refine z_aload_n hE d_Mo_round_126 rfl ?_
    refine z_iload_n hE d_Mo_round_127 rfl ?_
    refine z_aload_n hE d_Mo_round_128 rfl ?_
    refine z_get hE d_Mo_round_129 fl_Mo_13 (by assumption) rfl ?_
    refine z_iload_n hE d_Mo_round_132 rfl ?_
    refine z_iald hE d_Mo_round_133 (by assumption) (nI_in' (by omega : fx a < 58) (by omega)) ?_
    rw [nI_cl (by omega), sx4]
    by_cases hl : x.1 < 0
    · refine z_if_ge (tgt := 141) hE d_Mo_round_134 (by decide) (fun c_ => absurd c_ (fun w => absurd hl (Int32.not_lt.mpr w))) (fun _ => ?_)
      refine z_iconst (v := 1) hE d_Mo_round_137 (by decide) ?_
      refine z_goto (tgt := 142) hE d_Mo_round_138 (by decide) ?_
      have := up1 [(0, .ref P), (1, .int (nI (fx a))), (3, .int (nI (fx y))), (4, .long (lN (10 ^ fx n)))] rfl rfl
      rw [if_pos hl] at this
      exact this
    · refine z_if_ge (tgt := 141) hE d_Mo_round_134 (by decide) (fun _ => ?_) (fun c_ => absurd c_ (fun w => w (Int32.not_lt.mp hl)))
      refine z_iconst (v := 0) hE d_Mo_round_141 (by decide) ?_
      have := up1 [(0, .ref P), (1, .int (nI (fx a))), (3, .int (nI (fx y))), (4, .long (lN (10 ^ fx n)))] rfl rfl
      rw [if_neg hl] at this
      exact this
  have loop : ∀ (u k : Nat), k + u = fx n → ∀ lv, lG lv 0 = some (.ref P) → lG lv 1 = some (.int (nI (fx a))) → lG lv 2 = some (.int (nI (fx n))) → lG lv 3 = some (.int (nI (fx y))) → lG lv 4 = some (.long (lN (10 ^ k))) → lG lv 6 = some (.int (nI k)) → zJ E g_1 nx 0 0 70 lv [] := by
    intro u
    induction u with
    | zero =>
      intro k  hu  lv l0 l1 l2 l3 l4 l6
      refine z_sub (lv' := [(0, .ref P), (1, .int (nI (fx a))), (2, .int (nI (fx n))), (3, .int (nI (fx y))), (4, .long (lN (10 ^ k))), (6, .int (nI k))]) (by simp only [List.map, l0, l1, l2, l3, l4, l6]) ?_
      have hkn : k = fx n := by omega
      rw [hkn]
      refine z_iload hE d_Mo_round_70 rfl ?_
      refine z_iload_n hE d_Mo_round_72 rfl ?_
      refine z_icmp_ge (tgt := 90) hE d_Mo_round_73 (by decide) (fun _ => ?_) (fun c_ => absurd c_ (fun z => z ((nI_LE (by omega) (by omega)).mpr (by omega))))
      exact after _ rfl rfl rfl rfl
    | succ u ih =>
      intro k  hu  lv l0 l1 l2 l3 l4 l6
      refine z_sub (lv' := [(0, .ref P), (1, .int (nI (fx a))), (2, .int (nI (fx n))), (3, .int (nI (fx y))), (4, .long (lN (10 ^ k))), (6, .int (nI k))]) (by simp only [List.map, l0, l1, l2, l3, l4, l6]) ?_
      refine z_iload hE d_Mo_round_70 rfl ?_
      refine z_iload_n hE d_Mo_round_72 rfl ?_
      refine z_icmp_ge (tgt := 90) hE d_Mo_round_73 (by decide) (fun c_ => absurd c_ (fun z => absurd ((nI_LE (by omega) (by omega)).mp z) (by omega))) (fun _ => ?_)
      refine z_lload hE d_Mo_round_76 rfl ?_
      refine z_ldc2 hE d_Mo_round_78 cn_Mo_187 ?_
      refine z_lmul (v := lN (10 ^ (k + 1))) hE d_Mo_round_81 (by rw [show (10 : Int64) = lN 10 from rfl, lN_mul, Nat.pow_succ]) ?_
      refine z_lstore hE d_Mo_round_82 (by decide) ?_
      refine z_iinc (v := nI (k + 1)) hE d_Mo_round_84 rfl (nI_1 k) (by decide) ?_
      refine z_goto (tgt := 70) hE d_Mo_round_87 (by decide) ?_
      exact ih (k + 1) (by omega) _ rfl rfl rfl rfl rfl rfl
  exact loop (fx n) 0 (by omega) _ rfl rfl (by rw [← en]; rfl) (by rw [← ey]; rfl) rfl rfl

