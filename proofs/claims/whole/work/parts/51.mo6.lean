/-! the reference: powers, binomials, limbs -/
theorem d_Mo_power_0 : decode b_Mo_power 0 = .ok (.iload_n 1, 1) := by decide +kernel
theorem d_Mo_power_1 : decode b_Mo_power 1 = .ok (.invokestatic 138, 3) := by decide +kernel
theorem d_Mo_power_4 : decode b_Mo_power 4 = .ok (.ifCond .eq 24, 3) := by decide +kernel
theorem d_Mo_power_7 : decode b_Mo_power 7 = .ok (.iload_n 2, 1) := by decide +kernel
theorem d_Mo_power_8 : decode b_Mo_power 8 = .ok (.invokestatic 138, 3) := by decide +kernel
theorem d_Mo_power_11 : decode b_Mo_power 11 = .ok (.ifCond .eq 17, 3) := by decide +kernel
theorem d_Mo_power_14 : decode b_Mo_power 14 = .ok (.iload_n 3, 1) := by decide +kernel
theorem d_Mo_power_15 : decode b_Mo_power 15 = .ok (.i2l, 1) := by decide +kernel
theorem d_Mo_power_16 : decode b_Mo_power 16 = .ok (.ldc2_w 169, 3) := by decide +kernel
theorem d_Mo_power_19 : decode b_Mo_power 19 = .ok (.ldc2_w 171, 3) := by decide +kernel
theorem d_Mo_power_22 : decode b_Mo_power 22 = .ok (.invokestatic 125, 3) := by decide +kernel
theorem d_Mo_power_25 : decode b_Mo_power 25 = .ok (.ifCond .ne 6, 3) := by decide +kernel
theorem d_Mo_power_28 : decode b_Mo_power 28 = .ok (.ldc 141, 2) := by decide +kernel
theorem d_Mo_power_30 : decode b_Mo_power 30 = .ok (.ireturn, 1) := by decide +kernel
theorem d_Mo_power_31 : decode b_Mo_power 31 = .ok (.aload_n 0, 1) := by decide +kernel
theorem d_Mo_power_32 : decode b_Mo_power 32 = .ok (.getfield 7, 3) := by decide +kernel
theorem d_Mo_power_35 : decode b_Mo_power 35 = .ok (.iload_n 2, 1) := by decide +kernel
theorem d_Mo_power_36 : decode b_Mo_power 36 = .ok (.baload, 1) := by decide +kernel
theorem d_Mo_power_37 : decode b_Mo_power 37 = .ok (.ifCond .ne 9, 3) := by decide +kernel
theorem d_Mo_power_40 : decode b_Mo_power 40 = .ok (.aload_n 0, 1) := by decide +kernel
theorem d_Mo_power_41 : decode b_Mo_power 41 = .ok (.iconst 1, 1) := by decide +kernel
theorem d_Mo_power_42 : decode b_Mo_power 42 = .ok (.invokevirtual 106, 3) := by decide +kernel
theorem d_Mo_power_45 : decode b_Mo_power 45 = .ok (.ireturn, 1) := by decide +kernel
theorem d_Mo_power_46 : decode b_Mo_power 46 = .ok (.iload_n 3, 1) := by decide +kernel
theorem d_Mo_power_47 : decode b_Mo_power 47 = .ok (.ifCond .ge 18, 3) := by decide +kernel
theorem d_Mo_power_50 : decode b_Mo_power 50 = .ok (.aload_n 0, 1) := by decide +kernel
theorem d_Mo_power_51 : decode b_Mo_power 51 = .ok (.getfield 13, 3) := by decide +kernel
theorem d_Mo_power_54 : decode b_Mo_power 54 = .ok (.iload_n 2, 1) := by decide +kernel
theorem d_Mo_power_55 : decode b_Mo_power 55 = .ok (.iaload, 1) := by decide +kernel
theorem d_Mo_power_56 : decode b_Mo_power 56 = .ok (.ifCond .ne 9, 3) := by decide +kernel
theorem d_Mo_power_59 : decode b_Mo_power 59 = .ok (.aload_n 0, 1) := by decide +kernel
theorem d_Mo_power_60 : decode b_Mo_power 60 = .ok (.iconst 5, 1) := by decide +kernel
theorem d_Mo_power_61 : decode b_Mo_power 61 = .ok (.invokevirtual 106, 3) := by decide +kernel
theorem d_Mo_power_64 : decode b_Mo_power 64 = .ok (.ireturn, 1) := by decide +kernel
theorem d_Mo_power_65 : decode b_Mo_power 65 = .ok (.iload_n 3, 1) := by decide +kernel
theorem d_Mo_power_66 : decode b_Mo_power 66 = .ok (.ifCond .ge 8, 3) := by decide +kernel
theorem d_Mo_power_69 : decode b_Mo_power 69 = .ok (.iload_n 3, 1) := by decide +kernel
theorem d_Mo_power_70 : decode b_Mo_power 70 = .ok (.ineg, 1) := by decide +kernel
theorem d_Mo_power_71 : decode b_Mo_power 71 = .ok (.goto 4, 3) := by decide +kernel
theorem d_Mo_power_74 : decode b_Mo_power 74 = .ok (.iload_n 3, 1) := by decide +kernel
theorem d_Mo_power_75 : decode b_Mo_power 75 = .ok (.istore 4, 2) := by decide +kernel
theorem d_Mo_power_77 : decode b_Mo_power 77 = .ok (.aload_n 0, 1) := by decide +kernel
theorem d_Mo_power_78 : decode b_Mo_power 78 = .ok (.iload_n 2, 1) := by decide +kernel
theorem d_Mo_power_79 : decode b_Mo_power 79 = .ok (.aload_n 0, 1) := by decide +kernel
theorem d_Mo_power_80 : decode b_Mo_power 80 = .ok (.getfield 38, 3) := by decide +kernel
theorem d_Mo_power_83 : decode b_Mo_power 83 = .ok (.aload_n 0, 1) := by decide +kernel
theorem d_Mo_power_84 : decode b_Mo_power 84 = .ok (.getfield 41, 3) := by decide +kernel
theorem d_Mo_power_87 : decode b_Mo_power 87 = .ok (.invokevirtual 119, 3) := by decide +kernel
theorem d_Mo_power_90 : decode b_Mo_power 90 = .ok (.iload_n 3, 1) := by decide +kernel
theorem d_Mo_power_91 : decode b_Mo_power 91 = .ok (.ifCond .ge 14, 3) := by decide +kernel
theorem d_Mo_power_94 : decode b_Mo_power 94 = .ok (.aload_n 0, 1) := by decide +kernel
theorem d_Mo_power_95 : decode b_Mo_power 95 = .ok (.getfield 38, 3) := by decide +kernel
theorem d_Mo_power_98 : decode b_Mo_power 98 = .ok (.aload_n 0, 1) := by decide +kernel
theorem d_Mo_power_99 : decode b_Mo_power 99 = .ok (.getfield 41, 3) := by decide +kernel
theorem d_Mo_power_102 : decode b_Mo_power 102 = .ok (.invokestatic 87, 3) := by decide +kernel
theorem d_Mo_power_105 : decode b_Mo_power 105 = .ok (.aload_n 0, 1) := by decide +kernel
theorem d_Mo_power_106 : decode b_Mo_power 106 = .ok (.getfield 26, 3) := by decide +kernel
theorem d_Mo_power_109 : decode b_Mo_power 109 = .ok (.lconst 1, 1) := by decide +kernel
theorem d_Mo_power_110 : decode b_Mo_power 110 = .ok (.invokestatic 142, 3) := by decide +kernel
theorem d_Mo_power_113 : decode b_Mo_power 113 = .ok (.aload_n 0, 1) := by decide +kernel
theorem d_Mo_power_114 : decode b_Mo_power 114 = .ok (.getfield 29, 3) := by decide +kernel
theorem d_Mo_power_117 : decode b_Mo_power 117 = .ok (.lconst 1, 1) := by decide +kernel
theorem d_Mo_power_118 : decode b_Mo_power 118 = .ok (.invokestatic 142, 3) := by decide +kernel
theorem d_Mo_power_121 : decode b_Mo_power 121 = .ok (.iconst 0, 1) := by decide +kernel
theorem d_Mo_power_122 : decode b_Mo_power 122 = .ok (.istore 5, 2) := by decide +kernel
theorem d_Mo_power_124 : decode b_Mo_power 124 = .ok (.iload 5, 2) := by decide +kernel
theorem d_Mo_power_126 : decode b_Mo_power 126 = .ok (.iload 4, 2) := by decide +kernel
theorem d_Mo_power_128 : decode b_Mo_power 128 = .ok (.if_icmp .ge 87, 3) := by decide +kernel
theorem d_Mo_power_131 : decode b_Mo_power 131 = .ok (.aload_n 0, 1) := by decide +kernel
theorem d_Mo_power_132 : decode b_Mo_power 132 = .ok (.getfield 26, 3) := by decide +kernel
theorem d_Mo_power_135 : decode b_Mo_power 135 = .ok (.invokestatic 65, 3) := by decide +kernel
theorem d_Mo_power_138 : decode b_Mo_power 138 = .ok (.sipush 256, 3) := by decide +kernel
theorem d_Mo_power_141 : decode b_Mo_power 141 = .ok (.if_icmp .gt 74, 3) := by decide +kernel
theorem d_Mo_power_144 : decode b_Mo_power 144 = .ok (.aload_n 0, 1) := by decide +kernel
theorem d_Mo_power_145 : decode b_Mo_power 145 = .ok (.getfield 29, 3) := by decide +kernel
theorem d_Mo_power_148 : decode b_Mo_power 148 = .ok (.invokestatic 65, 3) := by decide +kernel
theorem d_Mo_power_151 : decode b_Mo_power 151 = .ok (.sipush 256, 3) := by decide +kernel
theorem d_Mo_power_154 : decode b_Mo_power 154 = .ok (.if_icmp .gt 61, 3) := by decide +kernel
theorem d_Mo_power_157 : decode b_Mo_power 157 = .ok (.aload_n 0, 1) := by decide +kernel
theorem d_Mo_power_158 : decode b_Mo_power 158 = .ok (.getfield 26, 3) := by decide +kernel
theorem d_Mo_power_161 : decode b_Mo_power 161 = .ok (.aload_n 0, 1) := by decide +kernel
theorem d_Mo_power_162 : decode b_Mo_power 162 = .ok (.getfield 38, 3) := by decide +kernel
theorem d_Mo_power_165 : decode b_Mo_power 165 = .ok (.aload_n 0, 1) := by decide +kernel
theorem d_Mo_power_166 : decode b_Mo_power 166 = .ok (.getfield 32, 3) := by decide +kernel
theorem d_Mo_power_169 : decode b_Mo_power 169 = .ok (.invokestatic 131, 3) := by decide +kernel
theorem d_Mo_power_172 : decode b_Mo_power 172 = .ok (.aload_n 0, 1) := by decide +kernel
theorem d_Mo_power_173 : decode b_Mo_power 173 = .ok (.getfield 32, 3) := by decide +kernel
theorem d_Mo_power_176 : decode b_Mo_power 176 = .ok (.aload_n 0, 1) := by decide +kernel
theorem d_Mo_power_177 : decode b_Mo_power 177 = .ok (.getfield 26, 3) := by decide +kernel
theorem d_Mo_power_180 : decode b_Mo_power 180 = .ok (.invokestatic 81, 3) := by decide +kernel
theorem d_Mo_power_183 : decode b_Mo_power 183 = .ok (.aload_n 0, 1) := by decide +kernel
theorem d_Mo_power_184 : decode b_Mo_power 184 = .ok (.getfield 29, 3) := by decide +kernel
theorem d_Mo_power_187 : decode b_Mo_power 187 = .ok (.aload_n 0, 1) := by decide +kernel
theorem d_Mo_power_188 : decode b_Mo_power 188 = .ok (.getfield 41, 3) := by decide +kernel
theorem d_Mo_power_191 : decode b_Mo_power 191 = .ok (.aload_n 0, 1) := by decide +kernel
theorem d_Mo_power_192 : decode b_Mo_power 192 = .ok (.getfield 32, 3) := by decide +kernel
theorem d_Mo_power_195 : decode b_Mo_power 195 = .ok (.invokestatic 131, 3) := by decide +kernel
theorem d_Mo_power_198 : decode b_Mo_power 198 = .ok (.aload_n 0, 1) := by decide +kernel
theorem d_Mo_power_199 : decode b_Mo_power 199 = .ok (.getfield 32, 3) := by decide +kernel
theorem d_Mo_power_202 : decode b_Mo_power 202 = .ok (.aload_n 0, 1) := by decide +kernel
theorem d_Mo_power_203 : decode b_Mo_power 203 = .ok (.getfield 29, 3) := by decide +kernel
theorem d_Mo_power_206 : decode b_Mo_power 206 = .ok (.invokestatic 81, 3) := by decide +kernel
theorem d_Mo_power_209 : decode b_Mo_power 209 = .ok (.iinc 5 1, 3) := by decide +kernel
theorem d_Mo_power_212 : decode b_Mo_power 212 = .ok (.goto (-88), 3) := by decide +kernel
theorem d_Mo_power_215 : decode b_Mo_power 215 = .ok (.aload_n 0, 1) := by decide +kernel
theorem d_Mo_power_216 : decode b_Mo_power 216 = .ok (.iload 4, 2) := by decide +kernel
theorem d_Mo_power_218 : decode b_Mo_power 218 = .ok (.iconst 2, 1) := by decide +kernel
theorem d_Mo_power_219 : decode b_Mo_power 219 = .ok (.irem, 1) := by decide +kernel
theorem d_Mo_power_220 : decode b_Mo_power 220 = .ok (.iconst 1, 1) := by decide +kernel
theorem d_Mo_power_221 : decode b_Mo_power 221 = .ok (.if_icmp .ne 12, 3) := by decide +kernel
theorem d_Mo_power_224 : decode b_Mo_power 224 = .ok (.aload_n 0, 1) := by decide +kernel
theorem d_Mo_power_225 : decode b_Mo_power 225 = .ok (.getfield 13, 3) := by decide +kernel
theorem d_Mo_power_228 : decode b_Mo_power 228 = .ok (.iload_n 2, 1) := by decide +kernel
theorem d_Mo_power_229 : decode b_Mo_power 229 = .ok (.iaload, 1) := by decide +kernel
theorem d_Mo_power_230 : decode b_Mo_power 230 = .ok (.goto 4, 3) := by decide +kernel
theorem d_Mo_power_233 : decode b_Mo_power 233 = .ok (.iconst 1, 1) := by decide +kernel
theorem d_Mo_power_234 : decode b_Mo_power 234 = .ok (.putfield 99, 3) := by decide +kernel
theorem d_Mo_power_237 : decode b_Mo_power 237 = .ok (.aload_n 0, 1) := by decide +kernel
theorem d_Mo_power_238 : decode b_Mo_power 238 = .ok (.iload_n 1, 1) := by decide +kernel
theorem d_Mo_power_239 : decode b_Mo_power 239 = .ok (.invokevirtual 146, 3) := by decide +kernel
theorem d_Mo_power_242 : decode b_Mo_power 242 = .ok (.ireturn, 1) := by decide +kernel
theorem d_Mo_binomial_0 : decode b_Mo_binomial 0 = .ok (.iload_n 1, 1) := by decide +kernel
theorem d_Mo_binomial_1 : decode b_Mo_binomial 1 = .ok (.invokestatic 138, 3) := by decide +kernel
theorem d_Mo_binomial_4 : decode b_Mo_binomial 4 = .ok (.ifCond .eq 15, 3) := by decide +kernel
theorem d_Mo_binomial_7 : decode b_Mo_binomial 7 = .ok (.iload_n 2, 1) := by decide +kernel
theorem d_Mo_binomial_8 : decode b_Mo_binomial 8 = .ok (.i2l, 1) := by decide +kernel
theorem d_Mo_binomial_9 : decode b_Mo_binomial 9 = .ok (.lconst 0, 1) := by decide +kernel
theorem d_Mo_binomial_10 : decode b_Mo_binomial 10 = .ok (.ldc2_w 173, 3) := by decide +kernel
theorem d_Mo_binomial_13 : decode b_Mo_binomial 13 = .ok (.invokestatic 125, 3) := by decide +kernel
theorem d_Mo_binomial_16 : decode b_Mo_binomial 16 = .ok (.ifCond .ne 6, 3) := by decide +kernel
theorem d_Mo_binomial_19 : decode b_Mo_binomial 19 = .ok (.ldc 141, 2) := by decide +kernel
theorem d_Mo_binomial_21 : decode b_Mo_binomial 21 = .ok (.ireturn, 1) := by decide +kernel
theorem d_Mo_binomial_22 : decode b_Mo_binomial 22 = .ok (.aload_n 0, 1) := by decide +kernel
theorem d_Mo_binomial_23 : decode b_Mo_binomial 23 = .ok (.getfield 26, 3) := by decide +kernel
theorem d_Mo_binomial_26 : decode b_Mo_binomial 26 = .ok (.iload_n 3, 1) := by decide +kernel
theorem d_Mo_binomial_27 : decode b_Mo_binomial 27 = .ok (.i2l, 1) := by decide +kernel
theorem d_Mo_binomial_28 : decode b_Mo_binomial 28 = .ok (.lconst 0, 1) := by decide +kernel
theorem d_Mo_binomial_29 : decode b_Mo_binomial 29 = .ok (.iload_n 2, 1) := by decide +kernel
theorem d_Mo_binomial_30 : decode b_Mo_binomial 30 = .ok (.i2l, 1) := by decide +kernel
theorem d_Mo_binomial_31 : decode b_Mo_binomial 31 = .ok (.invokestatic 125, 3) := by decide +kernel
theorem d_Mo_binomial_34 : decode b_Mo_binomial 34 = .ok (.ifCond .eq 7, 3) := by decide +kernel
theorem d_Mo_binomial_37 : decode b_Mo_binomial 37 = .ok (.lconst 1, 1) := by decide +kernel
theorem d_Mo_binomial_38 : decode b_Mo_binomial 38 = .ok (.goto 4, 3) := by decide +kernel
theorem d_Mo_binomial_41 : decode b_Mo_binomial 41 = .ok (.lconst 0, 1) := by decide +kernel
theorem d_Mo_binomial_42 : decode b_Mo_binomial 42 = .ok (.invokestatic 142, 3) := by decide +kernel
theorem d_Mo_binomial_45 : decode b_Mo_binomial 45 = .ok (.iconst 1, 1) := by decide +kernel
theorem d_Mo_binomial_46 : decode b_Mo_binomial 46 = .ok (.istore 4, 2) := by decide +kernel
theorem d_Mo_binomial_48 : decode b_Mo_binomial 48 = .ok (.iload 4, 2) := by decide +kernel
theorem d_Mo_binomial_50 : decode b_Mo_binomial 50 = .ok (.iload_n 3, 1) := by decide +kernel
theorem d_Mo_binomial_51 : decode b_Mo_binomial 51 = .ok (.if_icmp .gt 82, 3) := by decide +kernel
theorem d_Mo_binomial_54 : decode b_Mo_binomial 54 = .ok (.iload_n 3, 1) := by decide +kernel
theorem d_Mo_binomial_55 : decode b_Mo_binomial 55 = .ok (.i2l, 1) := by decide +kernel
theorem d_Mo_binomial_56 : decode b_Mo_binomial 56 = .ok (.lconst 0, 1) := by decide +kernel
theorem d_Mo_binomial_57 : decode b_Mo_binomial 57 = .ok (.iload_n 2, 1) := by decide +kernel
theorem d_Mo_binomial_58 : decode b_Mo_binomial 58 = .ok (.i2l, 1) := by decide +kernel
theorem d_Mo_binomial_59 : decode b_Mo_binomial 59 = .ok (.invokestatic 125, 3) := by decide +kernel
theorem d_Mo_binomial_62 : decode b_Mo_binomial 62 = .ok (.ifCond .eq 71, 3) := by decide +kernel
theorem d_Mo_binomial_65 : decode b_Mo_binomial 65 = .ok (.aload_n 0, 1) := by decide +kernel
theorem d_Mo_binomial_66 : decode b_Mo_binomial 66 = .ok (.getfield 32, 3) := by decide +kernel
theorem d_Mo_binomial_69 : decode b_Mo_binomial 69 = .ok (.iload_n 2, 1) := by decide +kernel
theorem d_Mo_binomial_70 : decode b_Mo_binomial 70 = .ok (.iload_n 3, 1) := by decide +kernel
theorem d_Mo_binomial_71 : decode b_Mo_binomial 71 = .ok (.isub, 1) := by decide +kernel
theorem d_Mo_binomial_72 : decode b_Mo_binomial 72 = .ok (.iload 4, 2) := by decide +kernel
theorem d_Mo_binomial_74 : decode b_Mo_binomial 74 = .ok (.iadd, 1) := by decide +kernel
theorem d_Mo_binomial_75 : decode b_Mo_binomial 75 = .ok (.i2l, 1) := by decide +kernel
theorem d_Mo_binomial_76 : decode b_Mo_binomial 76 = .ok (.invokestatic 142, 3) := by decide +kernel
theorem d_Mo_binomial_79 : decode b_Mo_binomial 79 = .ok (.aload_n 0, 1) := by decide +kernel
theorem d_Mo_binomial_80 : decode b_Mo_binomial 80 = .ok (.getfield 26, 3) := by decide +kernel
theorem d_Mo_binomial_83 : decode b_Mo_binomial 83 = .ok (.aload_n 0, 1) := by decide +kernel
theorem d_Mo_binomial_84 : decode b_Mo_binomial 84 = .ok (.getfield 32, 3) := by decide +kernel
theorem d_Mo_binomial_87 : decode b_Mo_binomial 87 = .ok (.aload_n 0, 1) := by decide +kernel
theorem d_Mo_binomial_88 : decode b_Mo_binomial 88 = .ok (.getfield 35, 3) := by decide +kernel
theorem d_Mo_binomial_91 : decode b_Mo_binomial 91 = .ok (.invokestatic 131, 3) := by decide +kernel
theorem d_Mo_binomial_94 : decode b_Mo_binomial 94 = .ok (.aload_n 0, 1) := by decide +kernel
theorem d_Mo_binomial_95 : decode b_Mo_binomial 95 = .ok (.getfield 32, 3) := by decide +kernel
theorem d_Mo_binomial_98 : decode b_Mo_binomial 98 = .ok (.iload 4, 2) := by decide +kernel
theorem d_Mo_binomial_100 : decode b_Mo_binomial 100 = .ok (.i2l, 1) := by decide +kernel
theorem d_Mo_binomial_101 : decode b_Mo_binomial 101 = .ok (.invokestatic 142, 3) := by decide +kernel
theorem d_Mo_binomial_104 : decode b_Mo_binomial 104 = .ok (.aload_n 0, 1) := by decide +kernel
theorem d_Mo_binomial_105 : decode b_Mo_binomial 105 = .ok (.aload_n 0, 1) := by decide +kernel
theorem d_Mo_binomial_106 : decode b_Mo_binomial 106 = .ok (.getfield 35, 3) := by decide +kernel
theorem d_Mo_binomial_109 : decode b_Mo_binomial 109 = .ok (.aload_n 0, 1) := by decide +kernel
theorem d_Mo_binomial_110 : decode b_Mo_binomial 110 = .ok (.getfield 32, 3) := by decide +kernel
theorem d_Mo_binomial_113 : decode b_Mo_binomial 113 = .ok (.invokevirtual 96, 3) := by decide +kernel
theorem d_Mo_binomial_116 : decode b_Mo_binomial 116 = .ok (.aload_n 0, 1) := by decide +kernel
theorem d_Mo_binomial_117 : decode b_Mo_binomial 117 = .ok (.getfield 44, 3) := by decide +kernel
theorem d_Mo_binomial_120 : decode b_Mo_binomial 120 = .ok (.aload_n 0, 1) := by decide +kernel
theorem d_Mo_binomial_121 : decode b_Mo_binomial 121 = .ok (.getfield 26, 3) := by decide +kernel
theorem d_Mo_binomial_124 : decode b_Mo_binomial 124 = .ok (.invokestatic 81, 3) := by decide +kernel
theorem d_Mo_binomial_127 : decode b_Mo_binomial 127 = .ok (.iinc 4 1, 3) := by decide +kernel
theorem d_Mo_binomial_130 : decode b_Mo_binomial 130 = .ok (.goto (-82), 3) := by decide +kernel
theorem d_Mo_binomial_133 : decode b_Mo_binomial 133 = .ok (.aload_n 0, 1) := by decide +kernel
theorem d_Mo_binomial_134 : decode b_Mo_binomial 134 = .ok (.getfield 29, 3) := by decide +kernel
theorem d_Mo_binomial_137 : decode b_Mo_binomial 137 = .ok (.lconst 1, 1) := by decide +kernel
theorem d_Mo_binomial_138 : decode b_Mo_binomial 138 = .ok (.invokestatic 142, 3) := by decide +kernel
theorem d_Mo_binomial_141 : decode b_Mo_binomial 141 = .ok (.aload_n 0, 1) := by decide +kernel
theorem d_Mo_binomial_142 : decode b_Mo_binomial 142 = .ok (.iconst 1, 1) := by decide +kernel
theorem d_Mo_binomial_143 : decode b_Mo_binomial 143 = .ok (.putfield 99, 3) := by decide +kernel
theorem d_Mo_binomial_146 : decode b_Mo_binomial 146 = .ok (.aload_n 0, 1) := by decide +kernel
theorem d_Mo_binomial_147 : decode b_Mo_binomial 147 = .ok (.iload_n 1, 1) := by decide +kernel
theorem d_Mo_binomial_148 : decode b_Mo_binomial 148 = .ok (.invokevirtual 146, 3) := by decide +kernel
theorem d_Mo_binomial_151 : decode b_Mo_binomial 151 = .ok (.ireturn, 1) := by decide +kernel
theorem d_Mo_limbsOf_0 : decode b_Mo_limbsOf 0 = .ok (.aload_n 0, 1) := by decide +kernel
theorem d_Mo_limbsOf_1 : decode b_Mo_limbsOf 1 = .ok (.iload_n 1, 1) := by decide +kernel
theorem d_Mo_limbsOf_2 : decode b_Mo_limbsOf 2 = .ok (.aload_n 0, 1) := by decide +kernel
theorem d_Mo_limbsOf_3 : decode b_Mo_limbsOf 3 = .ok (.getfield 32, 3) := by decide +kernel
theorem d_Mo_limbsOf_6 : decode b_Mo_limbsOf 6 = .ok (.aload_n 0, 1) := by decide +kernel
theorem d_Mo_limbsOf_7 : decode b_Mo_limbsOf 7 = .ok (.getfield 35, 3) := by decide +kernel
theorem d_Mo_limbsOf_10 : decode b_Mo_limbsOf 10 = .ok (.invokevirtual 119, 3) := by decide +kernel
theorem d_Mo_limbsOf_13 : decode b_Mo_limbsOf 13 = .ok (.iload_n 2, 1) := by decide +kernel
theorem d_Mo_limbsOf_14 : decode b_Mo_limbsOf 14 = .ok (.ifCond .ne 10, 3) := by decide +kernel
theorem d_Mo_limbsOf_17 : decode b_Mo_limbsOf 17 = .ok (.aload_n 0, 1) := by decide +kernel
theorem d_Mo_limbsOf_18 : decode b_Mo_limbsOf 18 = .ok (.getfield 32, 3) := by decide +kernel
theorem d_Mo_limbsOf_21 : decode b_Mo_limbsOf 21 = .ok (.goto 7, 3) := by decide +kernel
theorem d_Mo_limbsOf_24 : decode b_Mo_limbsOf 24 = .ok (.aload_n 0, 1) := by decide +kernel
theorem d_Mo_limbsOf_25 : decode b_Mo_limbsOf 25 = .ok (.getfield 35, 3) := by decide +kernel
theorem d_Mo_limbsOf_28 : decode b_Mo_limbsOf 28 = .ok (.invokestatic 65, 3) := by decide +kernel
theorem d_Mo_limbsOf_31 : decode b_Mo_limbsOf 31 = .ok (.bipush 31, 2) := by decide +kernel
theorem d_Mo_limbsOf_33 : decode b_Mo_limbsOf 33 = .ok (.iadd, 1) := by decide +kernel
theorem d_Mo_limbsOf_34 : decode b_Mo_limbsOf 34 = .ok (.bipush 32, 2) := by decide +kernel
theorem d_Mo_limbsOf_36 : decode b_Mo_limbsOf 36 = .ok (.idiv, 1) := by decide +kernel
theorem d_Mo_limbsOf_37 : decode b_Mo_limbsOf 37 = .ok (.ireturn, 1) := by decide +kernel
theorem d_Mo_limbs_0 : decode b_Mo_limbs 0 = .ok (.iload_n 1, 1) := by decide +kernel
theorem d_Mo_limbs_1 : decode b_Mo_limbs 1 = .ok (.invokestatic 138, 3) := by decide +kernel
theorem d_Mo_limbs_4 : decode b_Mo_limbs 4 = .ok (.ifCond .eq 13, 3) := by decide +kernel
theorem d_Mo_limbs_7 : decode b_Mo_limbs 7 = .ok (.iload_n 2, 1) := by decide +kernel
theorem d_Mo_limbs_8 : decode b_Mo_limbs 8 = .ok (.i2l, 1) := by decide +kernel
theorem d_Mo_limbs_9 : decode b_Mo_limbs 9 = .ok (.lconst 0, 1) := by decide +kernel
theorem d_Mo_limbs_10 : decode b_Mo_limbs 10 = .ok (.lconst 1, 1) := by decide +kernel
theorem d_Mo_limbs_11 : decode b_Mo_limbs 11 = .ok (.invokestatic 125, 3) := by decide +kernel
theorem d_Mo_limbs_14 : decode b_Mo_limbs 14 = .ok (.ifCond .ne 6, 3) := by decide +kernel
theorem d_Mo_limbs_17 : decode b_Mo_limbs 17 = .ok (.ldc 141, 2) := by decide +kernel
theorem d_Mo_limbs_19 : decode b_Mo_limbs 19 = .ok (.ireturn, 1) := by decide +kernel
theorem d_Mo_limbs_20 : decode b_Mo_limbs 20 = .ok (.aload_n 0, 1) := by decide +kernel
theorem d_Mo_limbs_21 : decode b_Mo_limbs 21 = .ok (.getfield 7, 3) := by decide +kernel
theorem d_Mo_limbs_24 : decode b_Mo_limbs 24 = .ok (.iload_n 1, 1) := by decide +kernel
theorem d_Mo_limbs_25 : decode b_Mo_limbs 25 = .ok (.baload, 1) := by decide +kernel
theorem d_Mo_limbs_26 : decode b_Mo_limbs 26 = .ok (.ifCond .eq 16, 3) := by decide +kernel
theorem d_Mo_limbs_29 : decode b_Mo_limbs 29 = .ok (.aload_n 0, 1) := by decide +kernel
theorem d_Mo_limbs_30 : decode b_Mo_limbs 30 = .ok (.aload_n 0, 1) := by decide +kernel
theorem d_Mo_limbs_31 : decode b_Mo_limbs 31 = .ok (.iload_n 1, 1) := by decide +kernel
theorem d_Mo_limbs_32 : decode b_Mo_limbs 32 = .ok (.iload_n 2, 1) := by decide +kernel
theorem d_Mo_limbs_33 : decode b_Mo_limbs 33 = .ok (.invokevirtual 178, 3) := by decide +kernel
theorem d_Mo_limbs_36 : decode b_Mo_limbs 36 = .ok (.invokevirtual 116, 3) := by decide +kernel
theorem d_Mo_limbs_39 : decode b_Mo_limbs 39 = .ok (.goto 8, 3) := by decide +kernel
theorem d_Mo_limbs_42 : decode b_Mo_limbs 42 = .ok (.aload_n 0, 1) := by decide +kernel
theorem d_Mo_limbs_43 : decode b_Mo_limbs 43 = .ok (.iconst 1, 1) := by decide +kernel
theorem d_Mo_limbs_44 : decode b_Mo_limbs 44 = .ok (.invokevirtual 106, 3) := by decide +kernel
theorem d_Mo_limbs_47 : decode b_Mo_limbs 47 = .ok (.ireturn, 1) := by decide +kernel
theorem d_Mo_limb_0 : decode b_Mo_limb 0 = .ok (.iload_n 1, 1) := by decide +kernel
theorem d_Mo_limb_1 : decode b_Mo_limb 1 = .ok (.invokestatic 138, 3) := by decide +kernel
theorem d_Mo_limb_4 : decode b_Mo_limb 4 = .ok (.ifCond .eq 13, 3) := by decide +kernel
theorem d_Mo_limb_7 : decode b_Mo_limb 7 = .ok (.iload_n 2, 1) := by decide +kernel
theorem d_Mo_limb_8 : decode b_Mo_limb 8 = .ok (.i2l, 1) := by decide +kernel
theorem d_Mo_limb_9 : decode b_Mo_limb 9 = .ok (.lconst 0, 1) := by decide +kernel
theorem d_Mo_limb_10 : decode b_Mo_limb 10 = .ok (.lconst 1, 1) := by decide +kernel
theorem d_Mo_limb_11 : decode b_Mo_limb 11 = .ok (.invokestatic 125, 3) := by decide +kernel
theorem d_Mo_limb_14 : decode b_Mo_limb 14 = .ok (.ifCond .ne 7, 3) := by decide +kernel
theorem d_Mo_limb_17 : decode b_Mo_limb 17 = .ok (.ldc2_w 181, 3) := by decide +kernel
theorem d_Mo_limb_20 : decode b_Mo_limb 20 = .ok (.lreturn, 1) := by decide +kernel
theorem d_Mo_limb_21 : decode b_Mo_limb 21 = .ok (.aload_n 0, 1) := by decide +kernel
theorem d_Mo_limb_22 : decode b_Mo_limb 22 = .ok (.getfield 7, 3) := by decide +kernel
theorem d_Mo_limb_25 : decode b_Mo_limb 25 = .ok (.iload_n 1, 1) := by decide +kernel
theorem d_Mo_limb_26 : decode b_Mo_limb 26 = .ok (.baload, 1) := by decide +kernel
theorem d_Mo_limb_27 : decode b_Mo_limb 27 = .ok (.ifCond .ne 10, 3) := by decide +kernel
theorem d_Mo_limb_30 : decode b_Mo_limb 30 = .ok (.aload_n 0, 1) := by decide +kernel
theorem d_Mo_limb_31 : decode b_Mo_limb 31 = .ok (.iconst 1, 1) := by decide +kernel
theorem d_Mo_limb_32 : decode b_Mo_limb 32 = .ok (.invokevirtual 106, 3) := by decide +kernel
theorem d_Mo_limb_35 : decode b_Mo_limb 35 = .ok (.i2l, 1) := by decide +kernel
theorem d_Mo_limb_36 : decode b_Mo_limb 36 = .ok (.lreturn, 1) := by decide +kernel
theorem d_Mo_limb_37 : decode b_Mo_limb 37 = .ok (.iload_n 3, 1) := by decide +kernel
theorem d_Mo_limb_38 : decode b_Mo_limb 38 = .ok (.i2l, 1) := by decide +kernel
theorem d_Mo_limb_39 : decode b_Mo_limb 39 = .ok (.lconst 0, 1) := by decide +kernel
theorem d_Mo_limb_40 : decode b_Mo_limb 40 = .ok (.aload_n 0, 1) := by decide +kernel
theorem d_Mo_limb_41 : decode b_Mo_limb 41 = .ok (.iload_n 1, 1) := by decide +kernel
theorem d_Mo_limb_42 : decode b_Mo_limb 42 = .ok (.iload_n 2, 1) := by decide +kernel
theorem d_Mo_limb_43 : decode b_Mo_limb 43 = .ok (.invokevirtual 178, 3) := by decide +kernel
theorem d_Mo_limb_46 : decode b_Mo_limb 46 = .ok (.iconst 1, 1) := by decide +kernel
theorem d_Mo_limb_47 : decode b_Mo_limb 47 = .ok (.isub, 1) := by decide +kernel
theorem d_Mo_limb_48 : decode b_Mo_limb 48 = .ok (.i2l, 1) := by decide +kernel
theorem d_Mo_limb_49 : decode b_Mo_limb 49 = .ok (.invokestatic 125, 3) := by decide +kernel
theorem d_Mo_limb_52 : decode b_Mo_limb 52 = .ok (.ifCond .ne 10, 3) := by decide +kernel
theorem d_Mo_limb_55 : decode b_Mo_limb 55 = .ok (.aload_n 0, 1) := by decide +kernel
theorem d_Mo_limb_56 : decode b_Mo_limb 56 = .ok (.iconst 3, 1) := by decide +kernel
theorem d_Mo_limb_57 : decode b_Mo_limb 57 = .ok (.invokevirtual 106, 3) := by decide +kernel
theorem d_Mo_limb_60 : decode b_Mo_limb 60 = .ok (.i2l, 1) := by decide +kernel
theorem d_Mo_limb_61 : decode b_Mo_limb 61 = .ok (.lreturn, 1) := by decide +kernel
theorem d_Mo_limb_62 : decode b_Mo_limb 62 = .ok (.aload_n 0, 1) := by decide +kernel
theorem d_Mo_limb_63 : decode b_Mo_limb 63 = .ok (.iconst 0, 1) := by decide +kernel
theorem d_Mo_limb_64 : decode b_Mo_limb 64 = .ok (.putfield 50, 3) := by decide +kernel
theorem d_Mo_limb_67 : decode b_Mo_limb 67 = .ok (.bipush 16, 2) := by decide +kernel
theorem d_Mo_limb_69 : decode b_Mo_limb 69 = .ok (.iload_n 1, 1) := by decide +kernel
theorem d_Mo_limb_70 : decode b_Mo_limb 70 = .ok (.imul, 1) := by decide +kernel
theorem d_Mo_limb_71 : decode b_Mo_limb 71 = .ok (.iconst 2, 1) := by decide +kernel
theorem d_Mo_limb_72 : decode b_Mo_limb 72 = .ok (.iload_n 3, 1) := by decide +kernel
theorem d_Mo_limb_73 : decode b_Mo_limb 73 = .ok (.imul, 1) := by decide +kernel
theorem d_Mo_limb_74 : decode b_Mo_limb 74 = .ok (.iadd, 1) := by decide +kernel
theorem d_Mo_limb_75 : decode b_Mo_limb 75 = .ok (.istore 4, 2) := by decide +kernel
theorem d_Mo_limb_77 : decode b_Mo_limb 77 = .ok (.iload_n 2, 1) := by decide +kernel
theorem d_Mo_limb_78 : decode b_Mo_limb 78 = .ok (.ifCond .ne 28, 3) := by decide +kernel
theorem d_Mo_limb_81 : decode b_Mo_limb 81 = .ok (.aload_n 0, 1) := by decide +kernel
theorem d_Mo_limb_82 : decode b_Mo_limb 82 = .ok (.getfield 17, 3) := by decide +kernel
theorem d_Mo_limb_85 : decode b_Mo_limb 85 = .ok (.iload 4, 2) := by decide +kernel
theorem d_Mo_limb_87 : decode b_Mo_limb 87 = .ok (.iaload, 1) := by decide +kernel
theorem d_Mo_limb_88 : decode b_Mo_limb 88 = .ok (.i2l, 1) := by decide +kernel
theorem d_Mo_limb_89 : decode b_Mo_limb 89 = .ok (.aload_n 0, 1) := by decide +kernel
theorem d_Mo_limb_90 : decode b_Mo_limb 90 = .ok (.getfield 17, 3) := by decide +kernel
theorem d_Mo_limb_93 : decode b_Mo_limb 93 = .ok (.iload 4, 2) := by decide +kernel
theorem d_Mo_limb_95 : decode b_Mo_limb 95 = .ok (.iconst 1, 1) := by decide +kernel
theorem d_Mo_limb_96 : decode b_Mo_limb 96 = .ok (.iadd, 1) := by decide +kernel
theorem d_Mo_limb_97 : decode b_Mo_limb 97 = .ok (.iaload, 1) := by decide +kernel
theorem d_Mo_limb_98 : decode b_Mo_limb 98 = .ok (.i2l, 1) := by decide +kernel
theorem d_Mo_limb_99 : decode b_Mo_limb 99 = .ok (.bipush 16, 2) := by decide +kernel
theorem d_Mo_limb_101 : decode b_Mo_limb 101 = .ok (.lshl, 1) := by decide +kernel
theorem d_Mo_limb_102 : decode b_Mo_limb 102 = .ok (.lor, 1) := by decide +kernel
theorem d_Mo_limb_103 : decode b_Mo_limb 103 = .ok (.goto 25, 3) := by decide +kernel
theorem d_Mo_limb_106 : decode b_Mo_limb 106 = .ok (.aload_n 0, 1) := by decide +kernel
theorem d_Mo_limb_107 : decode b_Mo_limb 107 = .ok (.getfield 20, 3) := by decide +kernel
theorem d_Mo_limb_110 : decode b_Mo_limb 110 = .ok (.iload 4, 2) := by decide +kernel
theorem d_Mo_limb_112 : decode b_Mo_limb 112 = .ok (.iaload, 1) := by decide +kernel
theorem d_Mo_limb_113 : decode b_Mo_limb 113 = .ok (.i2l, 1) := by decide +kernel
theorem d_Mo_limb_114 : decode b_Mo_limb 114 = .ok (.aload_n 0, 1) := by decide +kernel
theorem d_Mo_limb_115 : decode b_Mo_limb 115 = .ok (.getfield 20, 3) := by decide +kernel
theorem d_Mo_limb_118 : decode b_Mo_limb 118 = .ok (.iload 4, 2) := by decide +kernel
theorem d_Mo_limb_120 : decode b_Mo_limb 120 = .ok (.iconst 1, 1) := by decide +kernel
theorem d_Mo_limb_121 : decode b_Mo_limb 121 = .ok (.iadd, 1) := by decide +kernel
theorem d_Mo_limb_122 : decode b_Mo_limb 122 = .ok (.iaload, 1) := by decide +kernel
theorem d_Mo_limb_123 : decode b_Mo_limb 123 = .ok (.i2l, 1) := by decide +kernel
theorem d_Mo_limb_124 : decode b_Mo_limb 124 = .ok (.bipush 16, 2) := by decide +kernel
theorem d_Mo_limb_126 : decode b_Mo_limb 126 = .ok (.lshl, 1) := by decide +kernel
theorem d_Mo_limb_127 : decode b_Mo_limb 127 = .ok (.lor, 1) := by decide +kernel
theorem d_Mo_limb_128 : decode b_Mo_limb 128 = .ok (.lreturn, 1) := by decide +kernel
theorem bl896 {g : Gh} {a v : Nat} (h : MA g a v) : bl v ≤ 896 := by rw [bl_iff, show 2 ^ 896 = 65536 ^ 56 by rw [H2]]; exact MA_lt h
theorem pow_ge {X k s : Nat} (h : 256 < bl (X ^ k)) (hk : k ≤ s) : ¬ X ^ s < 4294967296 ^ 8 := by
  intro q
  have h1 : ¬ X ^ k < 4294967296 ^ 8 := fun z => by have := bl256.mpr z; omega
  have h2 : 0 < X := by
    rcases Nat.eq_zero_or_pos X with z | z
    · exfalso
      rw [z] at h
      have : bl (0 ^ k) ≤ 1 := by cases k with
        | zero => decide
        | succ k => rw [Nat.zero_pow (by omega)]; decide
      omega
    · exact z
  have := Nat.pow_le_pow_right h2 hk
  omega
theorem mk_pow {s : Int32} {X Y k : Nat} (h : Nat.gcd X Y = 1) : mk s (X ^ k) (Y ^ k) = (if X ^ k = 0 then 0 else s, X ^ k, Y ^ k) := mk_1 (Nat.Coprime.pow k k h)
theorem c_Mo_power (l : Launch) {g : Gh} (nx : Nat) {P : Nat} {S : Sx} (hM : MW g P S) (hO : SOK S) (f a k : Int32) : Ct l m_Mo_power 0 0 [.ref P, .int f, .int a, .int k] g nx (pM g P nx (spPower S f a k)) := by
  obtain ⟨E0, t, ts, hV, hEQ⟩ := hM
  have h0 := hV.1
  obtain ⟨-, ⟨th, h1, h1'⟩, ⟨sn, A, B, h2, h3, h4, b4, b5, b6⟩, ⟨rm, h5, h5'⟩, -⟩ := id hV
  refine Ct.of (by decide) (Nat.le_of_ble_eq_true rfl) (fun E hE hQ => ?_)
  have out : ∀ lv, ¬ (inI f 0 15 ∧ inI a 0 15 ∧ inI k (-300) 300) → zJ E g nx 0 0 28 lv [] := by
    intro lv h
    refine z_ldc hE d_Mo_power_28 cn_Mo_141 ?_
    exact z_iret hE hQ d_Mo_power_30 rfl (by omega) (by omega) (pM_of (if_neg h) hV hEQ gW_r)
  refine z_iload_n hE d_Mo_power_0 rfl ?_
  refine z_callS hE d_Mo_power_1 cl_Mo_138 (c_Mo_isFraction l g nx f) rfl (Nat.le_of_ble_eq_true rfl) ⟨by decide, by decide⟩ ⟨by omega, by omega⟩ (fun r_1 g_1 nx_1 hp_1 => ?_) rfl
  obtain ⟨rfl, rfl, rfl⟩ := hp_1
  try dsimp only [Option.toList, List.nil_append, List.cons_append]
  by_cases hf : inI f 0 15
  case neg =>
    rw [if_neg hf]
    refine z_if_eq (tgt := 28) hE d_Mo_power_4 (by decide) (fun _ => ?_) (fun c_ => absurd c_ (by decide))
    exact out _ (fun q => hf q.1)
  rw [if_pos hf]
  refine z_if_eq (tgt := 28) hE d_Mo_power_4 (by decide) (fun c_ => absurd c_ (by decide)) (fun _ => ?_)
  refine z_iload_n hE d_Mo_power_7 rfl ?_
  refine z_callS hE d_Mo_power_8 cl_Mo_138 (c_Mo_isFraction l g nx a) rfl (Nat.le_of_ble_eq_true rfl) ⟨by decide, by decide⟩ ⟨by omega, by omega⟩ (fun r_8 g_8 nx_8 hp_8 => ?_) rfl
  obtain ⟨rfl, rfl, rfl⟩ := hp_8
  try dsimp only [Option.toList, List.nil_append, List.cons_append]
  by_cases ha : inI a 0 15
  case neg =>
    rw [if_neg ha]
    refine z_if_eq (tgt := 28) hE d_Mo_power_11 (by decide) (fun _ => ?_) (fun c_ => absurd c_ (by decide))
    exact out _ (fun q => ha q.2.1)
  rw [if_pos ha]
  refine z_if_eq (tgt := 28) hE d_Mo_power_11 (by decide) (fun c_ => absurd c_ (by decide)) (fun _ => ?_)
  refine z_iload_n hE d_Mo_power_14 rfl ?_
  refine z_i2l hE d_Mo_power_15 (rfl) ?_
  refine z_ldc2 hE d_Mo_power_16 cn_Mo_169 ?_
  refine z_ldc2 hE d_Mo_power_19 cn_Mo_171 ?_
  refine z_callS hE d_Mo_power_22 cl_Mo_125 (c_Mo_inI l g nx k (-300) 300 (-300) 300 (by decide) (by decide)) rfl (Nat.le_of_ble_eq_true rfl) ⟨by decide, by decide⟩ ⟨by omega, by omega⟩ (fun r_22 g_22 nx_22 hp_22 => ?_) rfl
  obtain ⟨rfl, rfl, rfl⟩ := hp_22
  try dsimp only [Option.toList, List.nil_append, List.cons_append]
  by_cases hk : inI k (-300) 300
  case neg =>
    rw [if_neg hk]
    refine z_if_ne (tgt := 31) hE d_Mo_power_25 (by decide) (fun c_ => absurd c_ (by decide)) (fun _ => ?_)
    exact out _ (fun q => hk q.2.2)
  rw [if_pos hk]
  refine z_if_ne (tgt := 31) hE d_Mo_power_25 (by decide) (fun _ => ?_) (fun c_ => absurd c_ (by decide))
  obtain ⟨ef, zf, hf2⟩ := fx_of hf (by omega) (by omega)
  obtain ⟨ea, za, ha2⟩ := fx_of ha (by omega) (by omega)
  refine z_aload_n hE d_Mo_power_31 rfl ?_
  refine z_get hE d_Mo_power_32 fl_Mo_7 (by assumption) rfl ?_
  refine z_iload_n hE d_Mo_power_35 rfl ?_
  rw [ea]
  refine z_zald hE d_Mo_power_36 (by assumption) (nI_in' (by omega : fx a < 58) (by omega)) ?_
  rw [nI_cl (by omega), h1' (fx a) (by omega), hEQ.1 (fx a) (by omega)]
  obtain ⟨x, hx⟩ | hx : (∃ x, S.1 (fx a) = some x) ∨ S.1 (fx a) = none := by cases S.1 (fx a); exact Or.inr rfl; exact Or.inl ⟨_, rfl⟩
  case inr =>
    rw [hx, show (none : Option Qf).isSome = false from rfl, if_neg (by decide)]
    refine z_if_ne (tgt := 46) hE d_Mo_power_37 (by decide) (fun c_ => absurd c_ (fun z => z rfl)) (fun _ => ?_)
    refine z_aload_n hE d_Mo_power_40 rfl ?_
    refine z_iconst (v := 1) hE d_Mo_power_41 (by decide) ?_
    refine z_callV hE d_Mo_power_42 cl_Mo_106 (c_Mo_fail l nx hV 1) (by assumption) cb_Mo rfl (Nat.le_of_ble_eq_true rfl) ⟨by decide, by decide⟩ ⟨by omega, by omega⟩ (fun r_9 g_9 nx_9 hp_9 => ?_) rfl
    try dsimp only [Option.toList, List.nil_append, List.cons_append]
    obtain ⟨rfl, rfl, V9, G9⟩ := hp_9
    try dsimp only [Option.toList, List.nil_append, List.cons_append]
    refine z_iret hE hQ d_Mo_power_45 rfl (by omega) (by omega) (pM_of (S := sC S 1) ?_ V9 (EQS_c hEQ rfl rfl) (gW_t gW_r (g1_W G9 (by omega) (by omega))))
    unfold spPower; rw [if_pos ⟨hf, ha, hk⟩, hx]; rfl
  rw [hx, show (some x).isSome = true from rfl, if_pos rfl]
  refine z_if_ne (tgt := 46) hE d_Mo_power_37 (by decide) (fun _ => ?_) (fun c_ => absurd c_ (by decide))
  have kx := S_q hO (by omega) hx
  have ex := (hEQ.1 (fx a) (by omega)).trans hx
  have sx := (b6 (fx a) (by omega) x ex).1
  have hspec : spPower S f a k = if k.toInt < 0 ∧ x.1 = 0 then tellS S 5 else mkS S (fx f) (pwQ x k.toInt) := by unfold spPower; rw [if_pos ⟨hf, ha, hk⟩, hx]
  have i00 : (0 : Int32).toInt = 0 := rfl
  have e56 : 65536 ^ 32 * 4 ≤ 65536 ^ 56 := by decide
  have e8 : 4294967296 ^ 8 * 4 ≤ 65536 ^ 56 := by decide
  obtain ⟨s, hs⟩ : ∃ s, k.toInt.natAbs = s := ⟨_, rfl⟩
  have go : ∀ lv, ¬ (k.toInt < 0 ∧ x.1 = 0) → lG lv 0 = some (.ref P) → lG lv 1 = some (.int f) → lG lv 2 = some (.int (nI (fx a))) → lG lv 3 = some (.int k) → zJ E g nx 0 0 65 lv [] := by
    intro lv hz l0 l1 l2 l3
    refine z_sub (lv' := [(0, .ref P), (1, .int f), (2, .int (nI (fx a))), (3, .int k)]) (by simp only [List.map, l0, l1, l2, l3]) ?_
    rw [if_neg hz] at hspec
    obtain ⟨X, hX⟩ : ∃ X, (if k.toInt < 0 then x.2.2 else x.2.1) = X := ⟨_, rfl⟩
    obtain ⟨Y, hY⟩ : ∃ Y, (if k.toInt < 0 then x.2.1 else x.2.2) = Y := ⟨_, rfl⟩
    have hpq : pwQ x k.toInt = (if s % 2 = 0 ∧ (x.1 ≠ 0 ∨ s = 0) then 1 else x.1, X ^ s, Y ^ s) := by rw [← hs, ← hX, ← hY]; rfl
    have hXY : Nat.gcd X Y = 1 ∧ 0 < Y ∧ X < 4294967296 ^ 8 ∧ Y < 4294967296 ^ 8 ∧ (X = 0 ↔ x.1 = 0) := by
      by_cases hn : k.toInt < 0
      · rw [if_pos hn] at hX hY
        rw [← hX, ← hY]
        have h0 : x.1 ≠ 0 := fun q => hz ⟨hn, q⟩
        have := isS_n0 kx.1.1 h0
        refine ⟨(Nat.gcd_comm _ _).trans kx.1.2.1, by omega, kx.2.2, kx.2.1, fun q => absurd q (by have := kx.1.2.2; omega), fun q => absurd q h0⟩
      · rw [if_neg hn] at hX hY
        rw [← hX, ← hY]
        refine ⟨kx.1.2.1, kx.1.2.2, kx.2.1, kx.2.2, fun q => isS_0 kx.1.1 q, fun q => ?_⟩
        rcases kx.1.1 with z | z | z
        · exact z.2
        · rw [z.1] at q; exact absurd q (by decide)
        · rw [z.1] at q; exact absurd q (by decide)
    obtain ⟨c1, c2, c3, c4, c5⟩ := hXY
    -- behind the loop
    have last : ∀ (g' : Gh) (t' : Nat → Nat) (j : Nat), MV g' P E0 S.2.1 S.2.2.2.1 S.2.2.2.2 ts t' → gW g g' P (P + 14) → j ≤ s → t' 6 = X ^ j → t' 7 = Y ^ j → 2 * t' 7 ≤ 65536 ^ 56 → (j = s ∨ 256 < bl (X ^ j) ∨ 256 < bl (Y ^ j)) → ∀ lv, lG lv 0 = some (.ref P) → lG lv 1 = some (.int f) → lG lv 2 = some (.int (nI (fx a))) → lG lv 4 = some (.int (nI s)) → zJ E g' nx 0 0 215 lv [] := by
      intro g' t' j V' W' hj e6 e7 h7 hjs lv l0 l1 l2 l4
      refine z_sub (lv' := [(0, .ref P), (1, .int f), (2, .int (nI (fx a))), (4, .int (nI s))]) (by simp only [List.map, l0, l1, l2, l4]) ?_
      have m' := V'.1
      obtain ⟨-, -, ⟨sn', A', B', k2, -, -, -, -, k6⟩, -⟩ := id V'
      have sx' := (k6 (fx a) (by omega) x ex).1
      have fin : ∀ (z : Int32) lv, z = (if s % 2 = 1 then x.1 else 1) → lG lv 0 = some (.ref P) → lG lv 1 = some (.int f) → zJ E g' nx 0 0 234 lv [.int z, .ref P] := by
        intro z lv hzz l0 l1
        refine z_sub (lv' := [(0, .ref P), (1, .int f)]) (by simp only [List.map, l0, l1]) ?_
        refine z_put hE d_Mo_power_234 fl_Mo_99 ct_Mo ff_Mo_9 (by assumption) rfl rfl (Nat.le_of_ble_eq_true rfl) ?_
        have V3 := MV_put V' S.2.2.2.1 S.2.2.2.2 z
        have m3 := V3.1
        refine z_aload_n hE d_Mo_power_237 rfl ?_
        refine z_iload_n hE d_Mo_power_238 rfl ?_
        rw [ef]
        refine z_callV hE d_Mo_power_239 cl_Mo_146 (c_Mo_made l nx V3 hEQ (by omega : fx f < 16) (by rw [e7]; exact Nat.pow_pos c2) h7) (by assumption) cb_Mo rfl (Nat.le_of_ble_eq_true rfl) ⟨by decide, by decide⟩ ⟨by omega, by omega⟩ (fun r_8 g_8 nx_8 hp_8 => ?_) rfl
        try dsimp only [Option.toList, List.nil_append, List.cons_append]
        refine z_mret hE hQ d_Mo_power_242 rfl (by omega) (by omega) (gW_t W' (gW_S (Nat.le_refl _) (by omega))) ?_ hp_8
        rw [hspec, e6, e7, mk_pow c1, hpq]
        by_cases hjs' : j = s
        · subst hjs'
          congr 2
          by_cases hX0 : X ^ j = 0
          · rw [if_pos hX0]
            have hXz : X = 0 := by
              rcases Nat.eq_zero_or_pos X with q | q
              · exact q
              · exact absurd hX0 (by have := Nat.pow_pos (n := j) q; omega)
            have hj0 : j ≠ 0 := fun q => by rw [q, Nat.pow_zero] at hX0; omega
            have hx0 := c5.mp hXz
            rw [if_neg (fun q => q.2.elim (fun w => w hx0) hj0), hx0]
          · rw [if_neg hX0, hzz]
            by_cases hodd : j % 2 = 1
            · rw [if_pos hodd, if_neg (by omega)]
            · have hor : x.1 ≠ 0 ∨ j = 0 := by
                by_cases hj0 : j = 0
                · exact Or.inr hj0
                · refine Or.inl (fun q => hX0 ?_)
                  rw [c5.mpr q, Nat.zero_pow (by omega)]
              rw [if_neg hodd, if_pos ⟨by omega, hor⟩]
        · have hb : 256 < bl (X ^ j) ∨ 256 < bl (Y ^ j) := hjs.resolve_left hjs'
          have n1 : ¬ QW ((if s % 2 = 0 ∧ (x.1 ≠ 0 ∨ s = 0) then 1 else x.1, X ^ s, Y ^ s) : Qf) := fun q => hb.elim (fun w => pow_ge w hj q.1) (fun w => pow_ge w hj q.2)
          have n2 : ¬ QW ((if X ^ j = 0 then 0 else z, X ^ j, Y ^ j) : Qf) := fun q => hb.elim (fun w => pow_ge w (Nat.le_refl j) q.1) (fun w => pow_ge w (Nat.le_refl j) q.2)
          unfold mkS
          rw [if_neg n1, if_neg n2]
      refine z_aload_n hE d_Mo_power_215 rfl ?_
      refine z_iload hE d_Mo_power_216 rfl ?_
      refine z_iconst (v := nI 2) hE d_Mo_power_218 (by decide) ?_
      refine z_irem (v := nI (s % 2)) hE d_Mo_power_219 (by decide) (pk_rem (by omega) (by omega) (by omega)) ?_
      refine z_iconst (v := nI 1) hE d_Mo_power_220 (by decide) ?_
      by_cases hodd : s % 2 = 1
      · refine z_icmp_ne (tgt := 233) hE d_Mo_power_221 (by decide) (fun c_ => absurd c_ (fun w => w (by rw [hodd]))) (fun _ => ?_)
        refine z_aload_n hE d_Mo_power_224 rfl ?_
        refine z_get hE d_Mo_power_225 fl_Mo_13 (by assumption) rfl ?_
        refine z_iload_n hE d_Mo_power_228 rfl ?_
        refine z_iald hE d_Mo_power_229 (by assumption) (nI_in' (by omega : fx a < 58) (by omega)) ?_
        rw [nI_cl (by omega), sx']
        refine z_goto (tgt := 234) hE d_Mo_power_230 (by decide) ?_
        exact fin x.1 _ (by rw [if_pos hodd]) rfl rfl
      · refine z_icmp_ne (tgt := 233) hE d_Mo_power_221 (by decide) (fun _ => ?_) (fun c_ => absurd c_ (fun w => hodd ((nI_EQ (by omega) (by omega)).mp w)))
        refine z_iconst (v := 1) hE d_Mo_power_233 (by decide) ?_
        exact fin 1 _ (by rw [if_neg hodd]) rfl rfl
    -- with both laid out
    have mid : ∀ (g' : Gh) (t' : Nat → Nat), MV g' P E0 S.2.1 S.2.2.2.1 S.2.2.2.2 ts t' → gW g g' P (P + 14) → t' 10 = X → t' 11 = Y → ∀ lv, lG lv 0 = some (.ref P) → lG lv 1 = some (.int f) → lG lv 2 = some (.int (nI (fx a))) → lG lv 4 = some (.int (nI s)) → zJ E g' nx 0 0 105 lv [] := by
      intro g' t' V' W' e10 e11 lv l0 l1 l2 l4
      refine z_sub (lv' := [(0, .ref P), (1, .int f), (2, .int (nI (fx a))), (4, .int (nI s))]) (by simp only [List.map, l0, l1, l2, l4]) ?_
      have m' := V'.1
      refine z_aload_n hE d_Mo_power_105 rfl ?_
      refine z_get hE d_Mo_power_106 fl_Mo_26 (by assumption) rfl ?_
      refine z_lconst (v := lN 1) hE d_Mo_power_109 (by decide) ?_
      refine z_callS hE d_Mo_power_110 cl_Mo_142 (c_Mo_setLong l nx (MV_m V' 6 (by omega) (by omega)) 1 (by omega)) rfl (Nat.le_of_ble_eq_true rfl) ⟨by decide, by decide⟩ ⟨by omega, by omega⟩ (fun r_1 g_1 nx_1 hp_1 => ?_) rfl
      try dsimp only [Option.toList, List.nil_append, List.cons_append]
      obtain ⟨rfl, rfl, N1, G1⟩ := hp_1
      try dsimp only [Option.toList, List.nil_append, List.cons_append]
      have V1 := MV_up V' (by omega) N1 G1
      have m1 := V1.1
      have W1 : gW g g_1 P (P + 14) := gW_t W' (g1_W G1 (by omega) (by omega))
      refine z_aload_n hE d_Mo_power_113 rfl ?_
      refine z_get hE d_Mo_power_114 fl_Mo_29 (by assumption) rfl ?_
      refine z_lconst (v := lN 1) hE d_Mo_power_117 (by decide) ?_
      refine z_callS hE d_Mo_power_118 cl_Mo_142 (c_Mo_setLong l nx (MV_m V1 7 (by omega) (by omega)) 1 (by omega)) rfl (Nat.le_of_ble_eq_true rfl) ⟨by decide, by decide⟩ ⟨by omega, by omega⟩ (fun r_2 g_2 nx_2 hp_2 => ?_) rfl
      try dsimp only [Option.toList, List.nil_append, List.cons_append]
      obtain ⟨rfl, rfl, N2, G2⟩ := hp_2
      try dsimp only [Option.toList, List.nil_append, List.cons_append]
      have V2 := MV_up V1 (by omega) N2 G2
      have m2 := V2.1
      have W2 : gW g g_2 P (P + 14) := gW_t W1 (g1_W G2 (by omega) (by omega))
      have loop : ∀ (u j : Nat) (g3 : Gh) (t3 : Nat → Nat), j + u = s → MV g3 P E0 S.2.1 S.2.2.2.1 S.2.2.2.2 ts t3 → gW g g3 P (P + 14) → t3 10 = X → t3 11 = Y → t3 6 = X ^ j → t3 7 = Y ^ j → 2 * t3 7 ≤ 65536 ^ 56 → ∀ lv, lG lv 0 = some (.ref P) → lG lv 1 = some (.int f) → lG lv 2 = some (.int (nI (fx a))) → lG lv 4 = some (.int (nI s)) → lG lv 5 = some (.int (nI j)) → zJ E g3 nx 0 0 124 lv [] := by
        intro u
        induction u with
        | zero =>
          intro j g3 t3 hj V3 W3 d10 d11 d6 d7 d7' lv l0 l1 l2 l4 l5
          refine z_sub (lv' := [(0, .ref P), (1, .int f), (2, .int (nI (fx a))), (4, .int (nI s)), (5, .int (nI j))]) (by simp only [List.map, l0, l1, l2, l4, l5]) ?_
          refine z_iload hE d_Mo_power_124 rfl ?_
          refine z_iload hE d_Mo_power_126 rfl ?_
          refine z_icmp_ge (tgt := 215) hE d_Mo_power_128 (by decide) (fun _ => ?_) (fun c_ => absurd c_ (fun w => w ((nI_LE (by omega) (by omega)).mpr (by omega))))
          exact last g3 t3 j V3 W3 (by omega) d6 d7 d7' (Or.inl (by omega)) _ rfl rfl rfl rfl
        | succ u ih =>
          intro j g3 t3 hj V3 W3 d10 d11 d6 d7 d7' lv l0 l1 l2 l4 l5
          refine z_sub (lv' := [(0, .ref P), (1, .int f), (2, .int (nI (fx a))), (4, .int (nI s)), (5, .int (nI j))]) (by simp only [List.map, l0, l1, l2, l4, l5]) ?_
          have m3 := V3.1
          have A6 := MV_m V3 6 (by omega) (by omega)
          have A7 := MV_m V3 7 (by omega) (by omega)
          have A10 := MV_m V3 10 (by omega) (by omega)
          have A11 := MV_m V3 11 (by omega) (by omega)
          rw [d6] at A6
          rw [d7] at A7
          rw [d10] at A10
          rw [d11] at A11
          have z6 := bl896 A6
          have z7 := bl896 A7
          refine z_iload hE d_Mo_power_124 rfl ?_
          refine z_iload hE d_Mo_power_126 rfl ?_
          refine z_icmp_ge (tgt := 215) hE d_Mo_power_128 (by decide) (fun c_ => absurd c_ (fun w => absurd ((nI_LE (by omega) (by omega)).mp w) (by omega))) (fun _ => ?_)
          refine z_aload_n hE d_Mo_power_131 rfl ?_
          refine z_get hE d_Mo_power_132 fl_Mo_26 (by assumption) rfl ?_
          refine z_callS hE d_Mo_power_135 cl_Mo_65 (c_Mo_bitsOf l nx A6) rfl (Nat.le_of_ble_eq_true rfl) ⟨by decide, by decide⟩ ⟨by omega, by omega⟩ (fun r_135 g_135 nx_135 hp_135 => ?_) rfl
          obtain ⟨rfl, rfl, rfl⟩ := hp_135
          try dsimp only [Option.toList, List.nil_append, List.cons_append]
          refine z_sipush (v := nI 256) hE d_Mo_power_138 (by decide) ?_
          by_cases w6 : bl (X ^ j) ≤ 256
          case neg =>
            refine z_icmp_gt (tgt := 215) hE d_Mo_power_141 (by decide) (fun _ => ?_) (fun c_ => absurd c_ (fun w => w ((nI_LT (by omega) (by omega)).mpr (by omega))))
            exact last g3 t3 j V3 W3 (by omega) d6 d7 d7' (Or.inr (Or.inl (by omega))) _ rfl rfl rfl rfl
          refine z_icmp_gt (tgt := 215) hE d_Mo_power_141 (by decide) (fun c_ => absurd c_ (fun w => absurd ((nI_LT (by omega) (by omega)).mp w) (by omega))) (fun _ => ?_)
          refine z_aload_n hE d_Mo_power_144 rfl ?_
          refine z_get hE d_Mo_power_145 fl_Mo_29 (by assumption) rfl ?_
          refine z_callS hE d_Mo_power_148 cl_Mo_65 (c_Mo_bitsOf l nx A7) rfl (Nat.le_of_ble_eq_true rfl) ⟨by decide, by decide⟩ ⟨by omega, by omega⟩ (fun r_148 g_148 nx_148 hp_148 => ?_) rfl
          obtain ⟨rfl, rfl, rfl⟩ := hp_148
          try dsimp only [Option.toList, List.nil_append, List.cons_append]
          refine z_sipush (v := nI 256) hE d_Mo_power_151 (by decide) ?_
          by_cases w7 : bl (Y ^ j) ≤ 256
          case neg =>
            refine z_icmp_gt (tgt := 215) hE d_Mo_power_154 (by decide) (fun _ => ?_) (fun c_ => absurd c_ (fun w => w ((nI_LT (by omega) (by omega)).mpr (by omega))))
            exact last g3 t3 j V3 W3 (by omega) d6 d7 d7' (Or.inr (Or.inr (by omega))) _ rfl rfl rfl rfl
          refine z_icmp_gt (tgt := 215) hE d_Mo_power_154 (by decide) (fun c_ => absurd c_ (fun w => absurd ((nI_LT (by omega) (by omega)).mp w) (by omega))) (fun _ => ?_)
          have p6 := w816 (bl256.mp w6) c3
          have p7 := w816 (bl256.mp w7) c4
          refine z_aload_n hE d_Mo_power_157 rfl ?_
          refine z_get hE d_Mo_power_158 fl_Mo_26 (by assumption) rfl ?_
          refine z_aload_n hE d_Mo_power_161 rfl ?_
          refine z_get hE d_Mo_power_162 fl_Mo_38 (by assumption) rfl ?_
          refine z_aload_n hE d_Mo_power_165 rfl ?_
          refine z_get hE d_Mo_power_166 fl_Mo_32 (by assumption) rfl ?_
          refine z_callS hE d_Mo_power_169 cl_Mo_131 (c_Mo_multiply l nx A6 A10 (MV_m V3 8 (by omega) (by omega)) (by omega) (by omega) (by omega)) rfl (Nat.le_of_ble_eq_true rfl) ⟨by decide, by decide⟩ ⟨by omega, by omega⟩ (fun r_4 g_4 nx_4 hp_4 => ?_) rfl
          try dsimp only [Option.toList, List.nil_append, List.cons_append]
          obtain ⟨rfl, rfl, N4, G4⟩ := hp_4
          try dsimp only [Option.toList, List.nil_append, List.cons_append]
          have V4 := MV_up V3 (by omega) N4 G4
          have m4 := V4.1
          have W4 : gW g g_4 P (P + 14) := gW_t W3 (g1_W G4 (by omega) (by omega))
          refine z_aload_n hE d_Mo_power_172 rfl ?_
          refine z_get hE d_Mo_power_173 fl_Mo_32 (by assumption) rfl ?_
          refine z_aload_n hE d_Mo_power_176 rfl ?_
          refine z_get hE d_Mo_power_177 fl_Mo_26 (by assumption) rfl ?_
          refine z_callS hE d_Mo_power_180 cl_Mo_81 (c_Mo_lay l nx N4 (MV_m V4 6 (by omega) (by omega)) (by omega)) rfl (Nat.le_of_ble_eq_true rfl) ⟨by decide, by decide⟩ ⟨by omega, by omega⟩ (fun r_5 g_5 nx_5 hp_5 => ?_) rfl
          try dsimp only [Option.toList, List.nil_append, List.cons_append]
          obtain ⟨rfl, rfl, N5, G5⟩ := hp_5
          try dsimp only [Option.toList, List.nil_append, List.cons_append]
          have V5 := MV_up V4 (by omega) N5 G5
          have m5 := V5.1
          have W5 : gW g g_5 P (P + 14) := gW_t W4 (g1_W G5 (by omega) (by omega))
          have B7 : MA g_5 (P + 7) (Y ^ j) := MA_o (MA_o A7 G4 (by omega)) G5 (by omega)
          have B11 : MA g_5 (P + 11) Y := MA_o (MA_o A11 G4 (by omega)) G5 (by omega)
          refine z_aload_n hE d_Mo_power_183 rfl ?_
          refine z_get hE d_Mo_power_184 fl_Mo_29 (by assumption) rfl ?_
          refine z_aload_n hE d_Mo_power_187 rfl ?_
          refine z_get hE d_Mo_power_188 fl_Mo_41 (by assumption) rfl ?_
          refine z_aload_n hE d_Mo_power_191 rfl ?_
          refine z_get hE d_Mo_power_192 fl_Mo_32 (by assumption) rfl ?_
          refine z_callS hE d_Mo_power_195 cl_Mo_131 (c_Mo_multiply l nx B7 B11 (MV_m V5 8 (by omega) (by omega)) (by omega) (by omega) (by omega)) rfl (Nat.le_of_ble_eq_true rfl) ⟨by decide, by decide⟩ ⟨by omega, by omega⟩ (fun r_6 g_6 nx_6 hp_6 => ?_) rfl
          try dsimp only [Option.toList, List.nil_append, List.cons_append]
          obtain ⟨rfl, rfl, N6, G6⟩ := hp_6
          try dsimp only [Option.toList, List.nil_append, List.cons_append]
          have V6 := MV_up V5 (by omega) N6 G6
          have m6 := V6.1
          have W6 : gW g g_6 P (P + 14) := gW_t W5 (g1_W G6 (by omega) (by omega))
          refine z_aload_n hE d_Mo_power_198 rfl ?_
          refine z_get hE d_Mo_power_199 fl_Mo_32 (by assumption) rfl ?_
          refine z_aload_n hE d_Mo_power_202 rfl ?_
          refine z_get hE d_Mo_power_203 fl_Mo_29 (by assumption) rfl ?_
          refine z_callS hE d_Mo_power_206 cl_Mo_81 (c_Mo_lay l nx N6 (MV_m V6 7 (by omega) (by omega)) (by omega)) rfl (Nat.le_of_ble_eq_true rfl) ⟨by decide, by decide⟩ ⟨by omega, by omega⟩ (fun r_7 g_7 nx_7 hp_7 => ?_) rfl
          try dsimp only [Option.toList, List.nil_append, List.cons_append]
          obtain ⟨rfl, rfl, N7, G7⟩ := hp_7
          try dsimp only [Option.toList, List.nil_append, List.cons_append]
          have V7 := MV_up V6 (by omega) N7 G7
          have m7 := V7.1
          have W7 : gW g g_7 P (P + 14) := gW_t W6 (g1_W G7 (by omega) (by omega))
          refine z_iinc (v := nI (j + 1)) hE d_Mo_power_209 rfl (nI_1 j) (by decide) ?_
          refine z_goto (tgt := 124) hE d_Mo_power_212 (by decide) ?_
          refine ih (j + 1) _ _ (by omega) V7 W7 d10 d11 ?_ ?_ ?_ _ rfl rfl rfl rfl rfl
          · exact (Nat.pow_succ X j).symm
          · exact (Nat.pow_succ Y j).symm
          · show 2 * (Y ^ j * Y) ≤ _
            omega
      refine z_iconst (v := nI 0) hE d_Mo_power_121 (by decide) ?_
      refine z_istore hE d_Mo_power_122 (by decide) ?_
      exact loop s 0 g_2 _ (by omega) V2 W2 e10 e11 (Nat.pow_zero X).symm (Nat.pow_zero Y).symm (by exact (by decide : 2 * 1 ≤ 65536 ^ 56)) _ rfl rfl rfl rfl rfl
    have tak : ∀ (z : Int32) lv, z = nI s → lG lv 0 = some (.ref P) → lG lv 1 = some (.int f) → lG lv 2 = some (.int (nI (fx a))) → lG lv 3 = some (.int k) → zJ E g nx 0 0 75 lv [.int z] := by
      intro z lv hz2 l0 l1 l2 l3
      subst hz2
      refine z_sub (lv' := [(0, .ref P), (1, .int f), (2, .int (nI (fx a))), (3, .int k)]) (by simp only [List.map, l0, l1, l2, l3]) ?_
      refine z_istore hE d_Mo_power_75 (by decide) ?_
      refine z_aload_n hE d_Mo_power_77 rfl ?_
      refine z_iload_n hE d_Mo_power_78 rfl ?_
      refine z_aload_n hE d_Mo_power_79 rfl ?_
      refine z_get hE d_Mo_power_80 fl_Mo_38 (by assumption) rfl ?_
      refine z_aload_n hE d_Mo_power_83 rfl ?_
      refine z_get hE d_Mo_power_84 fl_Mo_41 (by assumption) rfl ?_
      refine z_callV hE d_Mo_power_87 cl_Mo_119 (c_Mo_take l nx (i := 10) (j := 11) hV (by omega) ex (by omega) (by omega) (by omega) (by omega) (by omega)) (by assumption) cb_Mo rfl (Nat.le_of_ble_eq_true rfl) ⟨by decide, by decide⟩ ⟨by omega, by omega⟩ (fun r_1 g_1 nx_1 hp_1 => ?_) rfl
      try dsimp only [Option.toList, List.nil_append, List.cons_append]
      obtain ⟨rfl, rfl, V1, G1⟩ := hp_1
      try dsimp only [Option.toList, List.nil_append, List.cons_append]
      have m1 := V1.1
      have W1 : gW g g_1 P (P + 14) := gW_t gW_r (g2_W G1 (by omega) (by omega) (by omega) (by omega))
      refine z_iload_n hE d_Mo_power_90 rfl ?_
      by_cases hn : k.toInt < 0
      · rw [if_pos hn] at hX hY
        refine z_if_ge (tgt := 105) hE d_Mo_power_91 (by decide) (fun c_ => absurd c_ (fun w => absurd (i_ge0.mp w) (by omega))) (fun _ => ?_)
        have A10 : MA g_1 (P + 10) x.2.1 := MV_m V1 10 (by omega) (by omega)
        have A11 : MA g_1 (P + 11) x.2.2 := MV_m V1 11 (by omega) (by omega)
        refine z_aload_n hE d_Mo_power_94 rfl ?_
        refine z_get hE d_Mo_power_95 fl_Mo_38 (by assumption) rfl ?_
        refine z_aload_n hE d_Mo_power_98 rfl ?_
        refine z_get hE d_Mo_power_99 fl_Mo_41 (by assumption) rfl ?_
        refine z_callS hE d_Mo_power_102 cl_Mo_87 (c_Mo_exchange l nx A10 A11 (by omega)) rfl (Nat.le_of_ble_eq_true rfl) ⟨by decide, by decide⟩ ⟨by omega, by omega⟩ (fun r_2 g_2 nx_2 hp_2 => ?_) rfl
        try dsimp only [Option.toList, List.nil_append, List.cons_append]
        obtain ⟨rfl, rfl, N2, N2', G2⟩ := hp_2
        try dsimp only [Option.toList, List.nil_append, List.cons_append]
        have V2 := MV_up2 V1 (by omega) (by omega) N2 N2' G2
        have W2 : gW g g_2 P (P + 14) := gW_t W1 (g2_W G2 (by omega) (by omega) (by omega) (by omega))
        exact mid _ _ V2 W2 hX hY _ rfl rfl rfl rfl
      · rw [if_neg hn] at hX hY
        refine z_if_ge (tgt := 105) hE d_Mo_power_91 (by decide) (fun _ => ?_) (fun c_ => absurd c_ (fun w => w (i_ge0.mpr (by omega))))
        exact mid _ _ V1 W1 hX hY _ rfl rfl rfl rfl
    refine z_iload_n hE d_Mo_power_65 rfl ?_
    by_cases hn : k.toInt < 0
    · refine z_if_ge (tgt := 74) hE d_Mo_power_66 (by decide) (fun c_ => absurd c_ (fun w => absurd (i_ge0.mp w) (by omega))) (fun _ => ?_)
      refine z_iload_n hE d_Mo_power_69 rfl ?_
      refine z_ineg (v := nI k.toInt.natAbs) hE d_Mo_power_70 (i_neg rfl (by omega) (by omega)) ?_
      refine z_goto (tgt := 75) hE d_Mo_power_71 (by decide) ?_
      exact tak _ _ (by rw [hs]) rfl rfl rfl rfl
    · refine z_if_ge (tgt := 74) hE d_Mo_power_66 (by decide) (fun _ => ?_) (fun c_ => absurd c_ (fun w => w (i_ge0.mpr (by omega))))
      refine z_iload_n hE d_Mo_power_74 rfl ?_
      exact tak k _ (i_ge (by omega) (by omega)) rfl rfl rfl rfl
  refine z_iload_n hE d_Mo_power_46 rfl ?_
  by_cases hn : k.toInt < 0
  · refine z_if_ge (tgt := 65) hE d_Mo_power_47 (by decide) (fun c_ => absurd c_ (fun w => absurd (i_ge0.mp w) (by omega))) (fun _ => ?_)
    refine z_aload_n hE d_Mo_power_50 rfl ?_
    refine z_get hE d_Mo_power_51 fl_Mo_13 (by assumption) rfl ?_
    refine z_iload_n hE d_Mo_power_54 rfl ?_
    refine z_iald hE d_Mo_power_55 (by assumption) (nI_in' (by omega : fx a < 58) (by omega)) ?_
    rw [nI_cl (by omega), sx]
    by_cases x0 : x.1 = 0
    · refine z_if_ne (tgt := 65) hE d_Mo_power_56 (by decide) (fun c_ => absurd c_ (fun w => w x0)) (fun _ => ?_)
      refine z_aload_n hE d_Mo_power_59 rfl ?_
      refine z_iconst (v := 5) hE d_Mo_power_60 (by decide) ?_
      refine z_callV hE d_Mo_power_61 cl_Mo_106 (c_Mo_fail l nx hV 5) (by assumption) cb_Mo rfl (Nat.le_of_ble_eq_true rfl) ⟨by decide, by decide⟩ ⟨by omega, by omega⟩ (fun r_9 g_9 nx_9 hp_9 => ?_) rfl
      try dsimp only [Option.toList, List.nil_append, List.cons_append]
      obtain ⟨rfl, rfl, V9, G9⟩ := hp_9
      try dsimp only [Option.toList, List.nil_append, List.cons_append]
      refine z_iret hE hQ d_Mo_power_64 rfl (by omega) (by omega) (pM_of (S := sC S 5) ?_ V9 (EQS_c hEQ rfl rfl) (gW_t gW_r (g1_W G9 (by omega) (by omega))))
      rw [hspec, if_pos ⟨hn, x0⟩]; rfl
    · refine z_if_ne (tgt := 65) hE d_Mo_power_56 (by decide) (fun _ => ?_) (fun c_ => absurd c_ (x0))
      exact go _ (fun z => x0 z.2) rfl rfl (by rw [← ea]; rfl) rfl
  · refine z_if_ge (tgt := 65) hE d_Mo_power_47 (by decide) (fun _ => ?_) (fun c_ => absurd c_ (fun w => w (i_ge0.mpr (by omega))))
    exact go _ (fun z => hn z.1) rfl rfl (by rw [← ea]; rfl) rfl
theorem i2l_neg (x : Int32) : (x.toInt64).toInt = x.toInt := Int32.toInt_toInt64 x
theorem c_Mo_binomial (l : Launch) {g : Gh} (nx : Nat) {P : Nat} {S : Sx} (hM : MW g P S) (hO : SOK S) (f n k : Int32) : Ct l m_Mo_binomial 0 0 [.ref P, .int f, .int n, .int k] g nx (pM g P nx (spBinomial S f n k)) := by
  obtain ⟨E0, t, ts, hV, hEQ⟩ := hM
  have h0 := hV.1
  obtain ⟨-, ⟨th, h1, h1'⟩, ⟨sn, A, B, h2, h3, h4, b4, b5, b6⟩, ⟨rm, h5, h5'⟩, -⟩ := id hV
  refine Ct.of (by decide) (Nat.le_of_ble_eq_true rfl) (fun E hE hQ => ?_)
  have out : ∀ lv, ¬ (inI f 0 15 ∧ inI n 0 250) → zJ E g nx 0 0 19 lv [] := by
    intro lv h
    refine z_ldc hE d_Mo_binomial_19 cn_Mo_141 ?_
    exact z_iret hE hQ d_Mo_binomial_21 rfl (by omega) (by omega) (pM_of (if_neg h) hV hEQ gW_r)
  refine z_iload_n hE d_Mo_binomial_0 rfl ?_
  refine z_callS hE d_Mo_binomial_1 cl_Mo_138 (c_Mo_isFraction l g nx f) rfl (Nat.le_of_ble_eq_true rfl) ⟨by decide, by decide⟩ ⟨by omega, by omega⟩ (fun r_1 g_1 nx_1 hp_1 => ?_) rfl
  obtain ⟨rfl, rfl, rfl⟩ := hp_1
  try dsimp only [Option.toList, List.nil_append, List.cons_append]
  by_cases hf : inI f 0 15
  case neg =>
    rw [if_neg hf]
    refine z_if_eq (tgt := 19) hE d_Mo_binomial_4 (by decide) (fun _ => ?_) (fun c_ => absurd c_ (by decide))
    exact out _ (fun q => hf q.1)
  rw [if_pos hf]
  refine z_if_eq (tgt := 19) hE d_Mo_binomial_4 (by decide) (fun c_ => absurd c_ (by decide)) (fun _ => ?_)
  refine z_iload_n hE d_Mo_binomial_7 rfl ?_
  refine z_i2l hE d_Mo_binomial_8 (rfl) ?_
  refine z_lconst (v := 0) hE d_Mo_binomial_9 (by decide) ?_
  refine z_ldc2 hE d_Mo_binomial_10 cn_Mo_173 ?_
  refine z_callS hE d_Mo_binomial_13 cl_Mo_125 (c_Mo_inI l g nx n 0 250 0 250 (by decide) (by decide)) rfl (Nat.le_of_ble_eq_true rfl) ⟨by decide, by decide⟩ ⟨by omega, by omega⟩ (fun r_13 g_13 nx_13 hp_13 => ?_) rfl
  obtain ⟨rfl, rfl, rfl⟩ := hp_13
  try dsimp only [Option.toList, List.nil_append, List.cons_append]
  by_cases hn : inI n 0 250
  case neg =>
    rw [if_neg hn]
    refine z_if_ne (tgt := 22) hE d_Mo_binomial_16 (by decide) (fun c_ => absurd c_ (by decide)) (fun _ => ?_)
    exact out _ (fun q => hn q.2)
  rw [if_pos hn]
  refine z_if_ne (tgt := 22) hE d_Mo_binomial_16 (by decide) (fun _ => ?_) (fun c_ => absurd c_ (by decide))
  obtain ⟨ef, zf, hf2⟩ := fx_of hf (by omega) (by omega)
  obtain ⟨en, zn, hn2⟩ := fx_of hn (by omega) (by omega)
  have hspec : spBinomial S f n k = mkS S (fx f) (if 0 ≤ k.toInt ∧ k.toInt ≤ n.toInt then ((1 : Int32), ch (fx n) (fx k), 1) else (0, 0, 1)) := by unfold spBinomial; rw [if_pos ⟨hf, hn⟩]
  have cin : ∀ g', Ct l m_Mo_in 0 0 [.long k.toInt64, .long 0, .long n.toInt64] g' nx (pP (some (.int (if inI k 0 n.toInt then 1 else 0))) g' nx) := fun g' => c_Mo_inI l g' nx k 0 n.toInt64 0 n.toInt (by decide) (i2l_neg n)
  have e56 : 2 ^ 250 * 1000 ≤ 65536 ^ 56 := by decide
  -- behind the loop
  have last : ∀ (g' : Gh) (t' : Nat → Nat), MV g' P E0 S.2.1 S.2.2.2.1 S.2.2.2.2 ts t' → gW g g' P (P + 14) → t' 6 = (if inI k 0 n.toInt then ch (fx n) (fx k) else 0) → ∀ lv, lG lv 0 = some (.ref P) → lG lv 1 = some (.int f) → zJ E g' nx 0 0 133 lv [] := by
    intro g' t' V' W' e6 lv l0 l1
    refine z_sub (lv' := [(0, .ref P), (1, .int f)]) (by simp only [List.map, l0, l1]) ?_
    have m' := V'.1
    refine z_aload_n hE d_Mo_binomial_133 rfl ?_
    refine z_get hE d_Mo_binomial_134 fl_Mo_29 (by assumption) rfl ?_
    refine z_lconst (v := lN 1) hE d_Mo_binomial_137 (by decide) ?_
    refine z_callS hE d_Mo_binomial_138 cl_Mo_142 (c_Mo_setLong l nx (MV_m V' 7 (by omega) (by omega)) 1 (by omega)) rfl (Nat.le_of_ble_eq_true rfl) ⟨by decide, by decide⟩ ⟨by omega, by omega⟩ (fun r_1 g_1 nx_1 hp_1 => ?_) rfl
    try dsimp only [Option.toList, List.nil_append, List.cons_append]
    obtain ⟨rfl, rfl, N1, G1⟩ := hp_1
    try dsimp only [Option.toList, List.nil_append, List.cons_append]
    have V1 := MV_up V' (by omega) N1 G1
    have m1 := V1.1
    have W1 : gW g g_1 P (P + 14) := gW_t W' (g1_W G1 (by omega) (by omega))
    refine z_aload_n hE d_Mo_binomial_141 rfl ?_
    refine z_iconst (v := 1) hE d_Mo_binomial_142 (by decide) ?_
    refine z_put hE d_Mo_binomial_143 fl_Mo_99 ct_Mo ff_Mo_9 (by assumption) rfl rfl (Nat.le_of_ble_eq_true rfl) ?_
    have V2 := MV_put V1 S.2.2.2.1 S.2.2.2.2 1
    have m2 := V2.1
    refine z_aload_n hE d_Mo_binomial_146 rfl ?_
    refine z_iload_n hE d_Mo_binomial_147 rfl ?_
    rw [ef]
    refine z_callV hE d_Mo_binomial_148 cl_Mo_146 (c_Mo_made l nx V2 hEQ (by omega : fx f < 16) (by exact Nat.zero_lt_one) (by exact (by decide : 2 * 1 ≤ 65536 ^ 56))) (by assumption) cb_Mo rfl (Nat.le_of_ble_eq_true rfl) ⟨by decide, by decide⟩ ⟨by omega, by omega⟩ (fun r_8 g_8 nx_8 hp_8 => ?_) rfl
    try dsimp only [Option.toList, List.nil_append, List.cons_append]
    refine z_mret hE hQ d_Mo_binomial_151 rfl (by omega) (by omega) (gW_t W1 (gW_S (Nat.le_refl _) (by omega))) ?_ hp_8
    rw [hspec]
    refine congrArg (mkS S (fx f)) ?_
    show _ = mk 1 (t' 6) 1
    rw [e6, mk_1 (Nat.gcd_one_right _)]
    by_cases h : inI k 0 n.toInt
    · have hc : 0 < ch (fx n) (fx k) := ch_pos (by have := h.1; have := h.2; unfold fx; omega)
      rw [if_pos h, if_pos h, if_neg (by omega)]
    · rw [if_neg h, if_neg h, if_pos rfl]
  have go : ∀ (z : Nat) lv, z = (if inI k 0 n.toInt then 1 else 0) → lG lv 0 = some (.ref P) → lG lv 1 = some (.int f) → lG lv 2 = some (.int n) → lG lv 3 = some (.int k) → zJ E g nx 0 0 42 lv [.long (lN z), .ref (P + 6)] := by
    intro z lv hz l0 l1 l2 l3
    refine z_sub (lv' := [(0, .ref P), (1, .int f), (2, .int n), (3, .int k)]) (by simp only [List.map, l0, l1, l2, l3]) ?_
    refine z_callS hE d_Mo_binomial_42 cl_Mo_142 (c_Mo_setLong l nx (MV_m hV 6 (by omega) (by omega)) z (by rw [hz]; split <;> omega)) rfl (Nat.le_of_ble_eq_true rfl) ⟨by decide, by decide⟩ ⟨by omega, by omega⟩ (fun r_1 g_1 nx_1 hp_1 => ?_) rfl
    try dsimp only [Option.toList, List.nil_append, List.cons_append]
    obtain ⟨rfl, rfl, N1, G1⟩ := hp_1
    try dsimp only [Option.toList, List.nil_append, List.cons_append]
    have V1 := MV_up hV (by omega) N1 G1
    have m1 := V1.1
    have W1 : gW g g_1 P (P + 14) := gW_t gW_r (g1_W G1 (by omega) (by omega))
    refine z_iconst (v := nI 1) hE d_Mo_binomial_45 (by decide) ?_
    refine z_istore hE d_Mo_binomial_46 (by decide) ?_
    by_cases h : inI k 0 n.toInt
    case neg =>
      refine z_iload hE d_Mo_binomial_48 rfl ?_
      refine z_iload_n hE d_Mo_binomial_50 rfl ?_
      by_cases h1 : (1 : Int) ≤ k.toInt
      · refine z_icmp_gt (tgt := 133) hE d_Mo_binomial_51 (by decide) (fun c_ => absurd c_ (fun w => by rw [Int32.lt_iff_toInt_lt] at w; have : (nI 1).toInt = 1 := nI_ti (by omega); omega)) (fun _ => ?_)
        refine z_iload_n hE d_Mo_binomial_54 rfl ?_
        refine z_i2l hE d_Mo_binomial_55 (rfl) ?_
        refine z_lconst (v := 0) hE d_Mo_binomial_56 (by decide) ?_
        refine z_iload_n hE d_Mo_binomial_57 rfl ?_
        refine z_i2l hE d_Mo_binomial_58 (rfl) ?_
        refine z_callS hE d_Mo_binomial_59 cl_Mo_125 (cin g_1) rfl (Nat.le_of_ble_eq_true rfl) ⟨by decide, by decide⟩ ⟨by omega, by omega⟩ (fun r_59 g_59 nx_59 hp_59 => ?_) rfl
        obtain ⟨rfl, rfl, rfl⟩ := hp_59
        try dsimp only [Option.toList, List.nil_append, List.cons_append]
        rw [if_neg h]
        refine z_if_eq (tgt := 133) hE d_Mo_binomial_62 (by decide) (fun _ => ?_) (fun c_ => absurd c_ (by decide))
        exact last _ _ V1 W1 (by rw [if_neg h]; show z = 0; rw [hz, if_neg h]) _ rfl rfl
      · refine z_icmp_gt (tgt := 133) hE d_Mo_binomial_51 (by decide) (fun _ => ?_) (fun c_ => absurd c_ (fun w => w (by rw [Int32.lt_iff_toInt_lt]; have : (nI 1).toInt = 1 := nI_ti (by omega); omega)))
        exact last _ _ V1 W1 (by rw [if_neg h]; show z = 0; rw [hz, if_neg h]) _ rfl rfl
    obtain ⟨ek, zk, hk2⟩ := fx_of (a := 0) (b := 250) (x := k) ⟨h.1, by have := h.2; omega⟩ (by omega) (by omega)
    have hkn : fx k ≤ fx n := by have := h.2; omega
    obtain ⟨m, hm⟩ : ∃ m, fx n = m + fx k := ⟨fx n - fx k, by omega⟩
    have loop : ∀ (u i : Nat) (g3 : Gh) (t3 : Nat → Nat), i + u = fx k → MV g3 P E0 S.2.1 S.2.2.2.1 S.2.2.2.2 ts t3 → gW g g3 P (P + 14) → t3 6 = ch (m + i) i → ∀ lv, lG lv 0 = some (.ref P) → lG lv 1 = some (.int f) → lG lv 2 = some (.int n) → lG lv 3 = some (.int k) → lG lv 4 = some (.int (nI (i + 1))) → zJ E g3 nx 0 0 48 lv [] := by
      intro u
      induction u with
      | zero =>
        intro i g3 t3 hi V3 W3 d6 lv l0 l1 l2 l3 l4
        refine z_sub (lv' := [(0, .ref P), (1, .int f), (2, .int n), (3, .int k), (4, .int (nI (i + 1)))]) (by simp only [List.map, l0, l1, l2, l3, l4]) ?_
        refine z_iload hE d_Mo_binomial_48 rfl ?_
        refine z_iload_n hE d_Mo_binomial_50 rfl ?_
        refine z_icmp_gt (tgt := 133) hE d_Mo_binomial_51 (by decide) (fun _ => ?_) (fun c_ => absurd c_ (fun w => w (by rw [ek, nI_LT (by omega) (by omega)]; omega)))
        refine last _ _ V3 W3 ?_ _ rfl rfl
        rw [if_pos h, d6, hm, show i = fx k by omega]
      | succ u ih =>
        intro i g3 t3 hi V3 W3 d6 lv l0 l1 l2 l3 l4
        refine z_sub (lv' := [(0, .ref P), (1, .int f), (2, .int n), (3, .int k), (4, .int (nI (i + 1)))]) (by simp only [List.map, l0, l1, l2, l3, l4]) ?_
        have m3 := V3.1
        have A6 := MV_m V3 6 (by omega) (by omega)
        rw [d6] at A6
        have hc : ch (m + i) i ≤ 2 ^ 250 := Nat.le_trans (ch_le _ _) (Nat.pow_le_pow_right (by decide) (by omega))
        have hpr : ch (m + i) i * (m + (i + 1)) ≤ 2 ^ 250 * 251 := Nat.mul_le_mul hc (by omega)
        refine z_iload hE d_Mo_binomial_48 rfl ?_
        refine z_iload_n hE d_Mo_binomial_50 rfl ?_
        refine z_icmp_gt (tgt := 133) hE d_Mo_binomial_51 (by decide) (fun c_ => absurd c_ (fun w => by rw [ek, nI_LT (by omega) (by omega)] at w; omega)) (fun _ => ?_)
        refine z_iload_n hE d_Mo_binomial_54 rfl ?_
        refine z_i2l hE d_Mo_binomial_55 (rfl) ?_
        refine z_lconst (v := 0) hE d_Mo_binomial_56 (by decide) ?_
        refine z_iload_n hE d_Mo_binomial_57 rfl ?_
        refine z_i2l hE d_Mo_binomial_58 (rfl) ?_
        refine z_callS hE d_Mo_binomial_59 cl_Mo_125 (cin g3) rfl (Nat.le_of_ble_eq_true rfl) ⟨by decide, by decide⟩ ⟨by omega, by omega⟩ (fun r_59 g_59 nx_59 hp_59 => ?_) rfl
        obtain ⟨rfl, rfl, rfl⟩ := hp_59
        try dsimp only [Option.toList, List.nil_append, List.cons_append]
        rw [if_pos h]
        refine z_if_eq (tgt := 133) hE d_Mo_binomial_62 (by decide) (fun c_ => absurd c_ (by decide)) (fun _ => ?_)
        refine z_aload_n hE d_Mo_binomial_65 rfl ?_
        refine z_get hE d_Mo_binomial_66 fl_Mo_32 (by assumption) rfl ?_
        refine z_iload_n hE d_Mo_binomial_69 rfl ?_
        refine z_iload_n hE d_Mo_binomial_70 rfl ?_
        refine z_isub (v := nI m) hE d_Mo_binomial_71 (by rw [en, ek, pk_sub hkn]; congr 1; omega) ?_
        refine z_iload hE d_Mo_binomial_72 rfl ?_
        refine z_iadd (v := nI (m + (i + 1))) hE d_Mo_binomial_74 (nI_add _ _) ?_
        refine z_i2l (v := lN (m + (i + 1))) hE d_Mo_binomial_75 (nI_l (by omega)) ?_
        refine z_callS hE d_Mo_binomial_76 cl_Mo_142 (c_Mo_setLong l nx (MV_m V3 8 (by omega) (by omega)) (m + (i + 1)) (by omega)) rfl (Nat.le_of_ble_eq_true rfl) ⟨by decide, by decide⟩ ⟨by omega, by omega⟩ (fun r_4 g_4 nx_4 hp_4 => ?_) rfl
        try dsimp only [Option.toList, List.nil_append, List.cons_append]
        obtain ⟨rfl, rfl, N4, G4⟩ := hp_4
        try dsimp only [Option.toList, List.nil_append, List.cons_append]
        have V4 := MV_up V3 (by omega) N4 G4
        have m4 := V4.1
        have W4 : gW g g_4 P (P + 14) := gW_t W3 (g1_W G4 (by omega) (by omega))
        have A6' := MA_o A6 G4 (by omega)
        refine z_aload_n hE d_Mo_binomial_79 rfl ?_
        refine z_get hE d_Mo_binomial_80 fl_Mo_26 (by assumption) rfl ?_
        refine z_aload_n hE d_Mo_binomial_83 rfl ?_
        refine z_get hE d_Mo_binomial_84 fl_Mo_32 (by assumption) rfl ?_
        refine z_aload_n hE d_Mo_binomial_87 rfl ?_
        refine z_get hE d_Mo_binomial_88 fl_Mo_35 (by assumption) rfl ?_
        refine z_callS hE d_Mo_binomial_91 cl_Mo_131 (c_Mo_multiply l nx A6' N4 (MV_m V4 9 (by omega) (by omega)) (by omega) (by omega) (by omega)) rfl (Nat.le_of_ble_eq_true rfl) ⟨by decide, by decide⟩ ⟨by omega, by omega⟩ (fun r_5 g_5 nx_5 hp_5 => ?_) rfl
        try dsimp only [Option.toList, List.nil_append, List.cons_append]
        obtain ⟨rfl, rfl, N5, G5⟩ := hp_5
        try dsimp only [Option.toList, List.nil_append, List.cons_append]
        have V5 := MV_up V4 (by omega) N5 G5
        have m5 := V5.1
        have W5 : gW g g_5 P (P + 14) := gW_t W4 (g1_W G5 (by omega) (by omega))
        refine z_aload_n hE d_Mo_binomial_94 rfl ?_
        refine z_get hE d_Mo_binomial_95 fl_Mo_32 (by assumption) rfl ?_
        refine z_iload hE d_Mo_binomial_98 rfl ?_
        refine z_i2l (v := lN (i + 1)) hE d_Mo_binomial_100 (nI_l (by omega)) ?_
        refine z_callS hE d_Mo_binomial_101 cl_Mo_142 (c_Mo_setLong l nx (MV_m V5 8 (by omega) (by omega)) (i + 1) (by omega)) rfl (Nat.le_of_ble_eq_true rfl) ⟨by decide, by decide⟩ ⟨by omega, by omega⟩ (fun r_6 g_6 nx_6 hp_6 => ?_) rfl
        try dsimp only [Option.toList, List.nil_append, List.cons_append]
        obtain ⟨rfl, rfl, N6, G6⟩ := hp_6
        try dsimp only [Option.toList, List.nil_append, List.cons_append]
        have V6 := MV_up V5 (by omega) N6 G6
        have m6 := V6.1
        have W6 : gW g g_6 P (P + 14) := gW_t W5 (g1_W G6 (by omega) (by omega))
        refine z_aload_n hE d_Mo_binomial_104 rfl ?_
        refine z_aload_n hE d_Mo_binomial_105 rfl ?_
        refine z_get hE d_Mo_binomial_106 fl_Mo_35 (by assumption) rfl ?_
        refine z_aload_n hE d_Mo_binomial_109 rfl ?_
        refine z_get hE d_Mo_binomial_110 fl_Mo_32 (by assumption) rfl ?_
        refine z_callV hE d_Mo_binomial_113 cl_Mo_96 (c_Mo_divide l nx (i := 9) (j := 8) V6 (by omega) (by omega) (by omega) (by omega) (by exact Nat.succ_pos i) (by exact Nat.le_trans (Nat.mul_le_mul_left 2 (show i + 1 ≤ 251 by omega)) (by decide))) (by assumption) cb_Mo rfl (Nat.le_of_ble_eq_true rfl) ⟨by decide, by decide⟩ ⟨by omega, by omega⟩ (fun r_7 g_7 nx_7 hp_7 => ?_) rfl
        try dsimp only [Option.toList, List.nil_append, List.cons_append]
        obtain ⟨rfl, rfl, V7, G7⟩ := hp_7
        try dsimp only [Option.toList, List.nil_append, List.cons_append]
        have m7 := V7.1
        have W7 : gW g g_7 P (P + 14) := gW_t W6 (g2_W G7 (by omega) (by omega) (by omega) (by omega))
        have N7 : MA g_7 (P + 12) (ch (m + i) i * (m + (i + 1)) / (i + 1)) := MV_m V7 12 (by omega) (by omega)
        rw [ch_step] at N7
        refine z_aload_n hE d_Mo_binomial_116 rfl ?_
        refine z_get hE d_Mo_binomial_117 fl_Mo_44 (by assumption) rfl ?_
        refine z_aload_n hE d_Mo_binomial_120 rfl ?_
        refine z_get hE d_Mo_binomial_121 fl_Mo_26 (by assumption) rfl ?_
        refine z_callS hE d_Mo_binomial_124 cl_Mo_81 (c_Mo_lay l nx N7 (MV_m V7 6 (by omega) (by omega)) (by omega)) rfl (Nat.le_of_ble_eq_true rfl) ⟨by decide, by decide⟩ ⟨by omega, by omega⟩ (fun r_8 g_8 nx_8 hp_8 => ?_) rfl
        try dsimp only [Option.toList, List.nil_append, List.cons_append]
        obtain ⟨rfl, rfl, N8, G8⟩ := hp_8
        try dsimp only [Option.toList, List.nil_append, List.cons_append]
        have V8 := MV_up V7 (by omega) N8 G8
        have m8 := V8.1
        have W8 : gW g g_8 P (P + 14) := gW_t W7 (g1_W G8 (by omega) (by omega))
        refine z_iinc (v := nI (i + 1 + 1)) hE d_Mo_binomial_127 rfl (nI_1 _) (by decide) ?_
        refine z_goto (tgt := 48) hE d_Mo_binomial_130 (by decide) ?_
        exact ih (i + 1) _ _ (by omega) V8 W8 rfl _ rfl rfl rfl rfl rfl
    refine loop (fx k) 0 g_1 _ (by omega) V1 W1 ?_ _ rfl rfl rfl rfl rfl
    show z = ch (m + 0) 0
    rw [hz, if_pos h, ch_n0]
  refine z_aload_n hE d_Mo_binomial_22 rfl ?_
  refine z_get hE d_Mo_binomial_23 fl_Mo_26 (by assumption) rfl ?_
  refine z_iload_n hE d_Mo_binomial_26 rfl ?_
  refine z_i2l hE d_Mo_binomial_27 (rfl) ?_
  refine z_lconst (v := 0) hE d_Mo_binomial_28 (by decide) ?_
  refine z_iload_n hE d_Mo_binomial_29 rfl ?_
  refine z_i2l hE d_Mo_binomial_30 (rfl) ?_
  refine z_callS hE d_Mo_binomial_31 cl_Mo_125 (cin g) rfl (Nat.le_of_ble_eq_true rfl) ⟨by decide, by decide⟩ ⟨by omega, by omega⟩ (fun r_31 g_31 nx_31 hp_31 => ?_) rfl
  obtain ⟨rfl, rfl, rfl⟩ := hp_31
  try dsimp only [Option.toList, List.nil_append, List.cons_append]
  by_cases h : inI k 0 n.toInt
  · rw [if_pos h]
    refine z_if_eq (tgt := 41) hE d_Mo_binomial_34 (by decide) (fun c_ => absurd c_ (by decide)) (fun _ => ?_)
    refine z_lconst (v := lN 1) hE d_Mo_binomial_37 (by decide) ?_
    refine z_goto (tgt := 42) hE d_Mo_binomial_38 (by decide) ?_
    exact go 1 _ (by rw [if_pos h]) rfl rfl rfl rfl
  · rw [if_neg h]
    refine z_if_eq (tgt := 41) hE d_Mo_binomial_34 (by decide) (fun _ => ?_) (fun c_ => absurd c_ (by decide))
    refine z_lconst (v := lN 0) hE d_Mo_binomial_41 (by decide) ?_
    exact go 0 _ (by rw [if_neg h]) rfl rfl rfl rfl
theorem c_Mo_limbsOf (l : Launch) {g : Gh} (nx : Nat) {f p : Nat} {q : Qf} {P : Nat} {E0 : Nat → Option Qf} {pl : Nat → Int32} {c n ts : Int32} {t : Nat → Nat} (hV : MV g P E0 pl c n ts t) (hf : f < 58) (hq : E0 f = some q) (hp : p ≤ 1) : Ct l m_Mo_limbsOf 0 0 [.ref P, .int (nI f), .int (nI p)] g nx (fun r g' nx' => r = some (.int (nI (lmQ (ptQ q p)))) ∧ nx = nx' ∧ MV g' P E0 pl c n ts (upN (upN t 8 q.2.1) 9 q.2.2) ∧ g2 g g' (P + 8) (P + 9)) := by
  have h0 := hV.1
  refine Ct.of (by decide) (Nat.le_of_ble_eq_true rfl) (fun E hE hQ => ?_)
  refine z_aload_n hE d_Mo_limbsOf_0 rfl ?_
  refine z_iload_n hE d_Mo_limbsOf_1 rfl ?_
  refine z_aload_n hE d_Mo_limbsOf_2 rfl ?_
  refine z_get hE d_Mo_limbsOf_3 fl_Mo_32 (by assumption) rfl ?_
  refine z_aload_n hE d_Mo_limbsOf_6 rfl ?_
  refine z_get hE d_Mo_limbsOf_7 fl_Mo_35 (by assumption) rfl ?_
  refine z_callV hE d_Mo_limbsOf_10 cl_Mo_119 (c_Mo_take l nx (i := 8) (j := 9) hV hf hq (by omega) (by omega) (by omega) (by omega) (by omega)) (by assumption) cb_Mo rfl (Nat.le_of_ble_eq_true rfl) ⟨by decide, by decide⟩ ⟨by omega, by omega⟩ (fun r_1 g_1 nx_1 hp_1 => ?_) rfl
  try dsimp only [Option.toList, List.nil_append, List.cons_append]
  obtain ⟨rfl, rfl, V1, G1⟩ := hp_1
  try dsimp only [Option.toList, List.nil_append, List.cons_append]
  have m1 := V1.1
  have N8 : MA g_1 (P + 8) q.2.1 := MV_m V1 8 (by omega) (by omega)
  have N9 : MA g_1 (P + 9) q.2.2 := MV_m V1 9 (by omega) (by omega)
  have fin : ∀ (b v : Nat) lv, MA g_1 b v → v = ptQ q p → zJ E g_1 nx 0 0 28 lv [.ref b] := by
    intro b v lv hM hv
    have h9 := bl896 hM
    refine z_callS hE d_Mo_limbsOf_28 cl_Mo_65 (c_Mo_bitsOf l nx hM) rfl (Nat.le_of_ble_eq_true rfl) ⟨by decide, by decide⟩ ⟨by omega, by omega⟩ (fun r_28 g_28 nx_28 hp_28 => ?_) rfl
    obtain ⟨rfl, rfl, rfl⟩ := hp_28
    try dsimp only [Option.toList, List.nil_append, List.cons_append]
    refine z_bipush (v := nI 31) hE d_Mo_limbsOf_31 (by decide) ?_
    refine z_iadd (v := nI (bl v + 31)) hE d_Mo_limbsOf_33 (nI_add _ _) ?_
    refine z_bipush (v := nI 32) hE d_Mo_limbsOf_34 (by decide) ?_
    refine z_idiv (v := nI ((bl v + 31) / 32)) hE d_Mo_limbsOf_36 (by decide) (pk_div (by omega) (by omega) (by omega)) ?_
    exact z_iret hE hQ d_Mo_limbsOf_37 rfl (by omega) (by omega) ⟨by rw [hv]; rfl, rfl, V1, G1⟩
  refine z_iload_n hE d_Mo_limbsOf_13 rfl ?_
  by_cases h : p = 0
  · refine z_if_ne (tgt := 24) hE d_Mo_limbsOf_14 (by decide) (fun c_ => absurd c_ (fun w => w (by rw [h]; rfl))) (fun _ => ?_)
    refine z_aload_n hE d_Mo_limbsOf_17 rfl ?_
    refine z_get hE d_Mo_limbsOf_18 fl_Mo_32 (by assumption) rfl ?_
    refine z_goto (tgt := 28) hE d_Mo_limbsOf_21 (by decide) ?_
    exact fin _ _ _ N8 (by unfold ptQ; rw [if_pos h])
  · refine z_if_ne (tgt := 24) hE d_Mo_limbsOf_14 (by decide) (fun _ => ?_) (fun c_ => absurd c_ (fun w => h ((nI_EQ (b := 0) (by omega) (by omega)).mp w)))
    refine z_aload_n hE d_Mo_limbsOf_24 rfl ?_
    refine z_get hE d_Mo_limbsOf_25 fl_Mo_35 (by assumption) rfl ?_
    exact fin _ _ _ N9 (by unfold ptQ; rw [if_neg h])
theorem c_Mo_limbs (l : Launch) {g : Gh} (nx : Nat) {P : Nat} {S : Sx} (hM : MW g P S) (hO : SOK S) (a p : Int32) : Ct l m_Mo_limbs 0 0 [.ref P, .int a, .int p] g nx (pM g P nx (spLimbs S a p)) := by
  obtain ⟨E0, t, ts, hV, hEQ⟩ := hM
  have h0 := hV.1
  obtain ⟨-, ⟨th, h1, h1'⟩, ⟨sn, A, B, h2, h3, h4, b4, b5, b6⟩, ⟨rm, h5, h5'⟩, -⟩ := id hV
  refine Ct.of (by decide) (Nat.le_of_ble_eq_true rfl) (fun E hE hQ => ?_)
  have out : ∀ lv, ¬ (inI a 0 15 ∧ inI p 0 1) → zJ E g nx 0 0 17 lv [] := by
    intro lv h
    refine z_ldc hE d_Mo_limbs_17 cn_Mo_141 ?_
    exact z_iret hE hQ d_Mo_limbs_19 rfl (by omega) (by omega) (pM_of (if_neg h) hV hEQ gW_r)
  refine z_iload_n hE d_Mo_limbs_0 rfl ?_
  refine z_callS hE d_Mo_limbs_1 cl_Mo_138 (c_Mo_isFraction l g nx a) rfl (Nat.le_of_ble_eq_true rfl) ⟨by decide, by decide⟩ ⟨by omega, by omega⟩ (fun r_1 g_1 nx_1 hp_1 => ?_) rfl
  obtain ⟨rfl, rfl, rfl⟩ := hp_1
  try dsimp only [Option.toList, List.nil_append, List.cons_append]
  by_cases ha : inI a 0 15
  case neg =>
    rw [if_neg ha]
    refine z_if_eq (tgt := 17) hE d_Mo_limbs_4 (by decide) (fun _ => ?_) (fun c_ => absurd c_ (by decide))
    exact out _ (fun q => ha q.1)
  rw [if_pos ha]
  refine z_if_eq (tgt := 17) hE d_Mo_limbs_4 (by decide) (fun c_ => absurd c_ (by decide)) (fun _ => ?_)
  refine z_iload_n hE d_Mo_limbs_7 rfl ?_
  refine z_i2l hE d_Mo_limbs_8 (rfl) ?_
  refine z_lconst (v := 0) hE d_Mo_limbs_9 (by decide) ?_
  refine z_lconst (v := 1) hE d_Mo_limbs_10 (by decide) ?_
  refine z_callS hE d_Mo_limbs_11 cl_Mo_125 (c_Mo_inI l g nx p 0 1 0 1 (by decide) (by decide)) rfl (Nat.le_of_ble_eq_true rfl) ⟨by decide, by decide⟩ ⟨by omega, by omega⟩ (fun r_11 g_11 nx_11 hp_11 => ?_) rfl
  obtain ⟨rfl, rfl, rfl⟩ := hp_11
  try dsimp only [Option.toList, List.nil_append, List.cons_append]
  by_cases hp : inI p 0 1
  case neg =>
    rw [if_neg hp]
    refine z_if_ne (tgt := 20) hE d_Mo_limbs_14 (by decide) (fun c_ => absurd c_ (by decide)) (fun _ => ?_)
    exact out _ (fun q => hp q.2)
  rw [if_pos hp]
  refine z_if_ne (tgt := 20) hE d_Mo_limbs_14 (by decide) (fun _ => ?_) (fun c_ => absurd c_ (by decide))
  obtain ⟨ea, za, ha2⟩ := fx_of ha (by omega) (by omega)
  obtain ⟨ep, zp, hp2⟩ := fx_of hp (by omega) (by omega)
  refine z_aload_n hE d_Mo_limbs_20 rfl ?_
  refine z_get hE d_Mo_limbs_21 fl_Mo_7 (by assumption) rfl ?_
  refine z_iload_n hE d_Mo_limbs_24 rfl ?_
  rw [ea]
  refine z_zald hE d_Mo_limbs_25 (by assumption) (nI_in' (by omega : fx a < 58) (by omega)) ?_
  rw [nI_cl (by omega), h1' (fx a) (by omega), hEQ.1 (fx a) (by omega)]
  obtain ⟨x, hx⟩ | hx : (∃ x, S.1 (fx a) = some x) ∨ S.1 (fx a) = none := by cases S.1 (fx a); exact Or.inr rfl; exact Or.inl ⟨_, rfl⟩
  case inr =>
    rw [hx, show (none : Option Qf).isSome = false from rfl, if_neg (by decide)]
    refine z_if_eq (tgt := 42) hE d_Mo_limbs_26 (by decide) (fun _ => ?_) (fun c_ => absurd c_ (fun z => z rfl))
    refine z_aload_n hE d_Mo_limbs_42 rfl ?_
    refine z_iconst (v := 1) hE d_Mo_limbs_43 (by decide) ?_
    refine z_callV hE d_Mo_limbs_44 cl_Mo_106 (c_Mo_fail l nx hV 1) (by assumption) cb_Mo rfl (Nat.le_of_ble_eq_true rfl) ⟨by decide, by decide⟩ ⟨by omega, by omega⟩ (fun r_9 g_9 nx_9 hp_9 => ?_) rfl
    try dsimp only [Option.toList, List.nil_append, List.cons_append]
    obtain ⟨rfl, rfl, V9, G9⟩ := hp_9
    try dsimp only [Option.toList, List.nil_append, List.cons_append]
    refine z_iret hE hQ d_Mo_limbs_47 rfl (by omega) (by omega) (pM_of (S := sC S 1) ?_ V9 (EQS_c hEQ rfl rfl) (gW_t gW_r (g1_W G9 (by omega) (by omega))))
    unfold spLimbs; rw [if_pos ⟨ha, hp⟩, hx]; rfl
  rw [hx, show (some x).isSome = true from rfl, if_pos rfl]
  refine z_if_eq (tgt := 42) hE d_Mo_limbs_26 (by decide) (fun c_ => absurd c_ (by decide)) (fun _ => ?_)
  have kx := S_q hO (by omega) hx
  have ex := (hEQ.1 (fx a) (by omega)).trans hx
  have sx := (b6 (fx a) (by omega) x ex).1
  refine z_aload_n hE d_Mo_limbs_29 rfl ?_
  refine z_aload_n hE d_Mo_limbs_30 rfl ?_
  refine z_iload_n hE d_Mo_limbs_31 rfl ?_
  refine z_iload_n hE d_Mo_limbs_32 rfl ?_
  rw [ep]
  refine z_callV hE d_Mo_limbs_33 cl_Mo_178 (c_Mo_limbsOf l nx (f := fx a) (p := fx p) hV (by omega) ex (by omega)) (by assumption) cb_Mo rfl (Nat.le_of_ble_eq_true rfl) ⟨by decide, by decide⟩ ⟨by omega, by omega⟩ (fun r_1 g_1 nx_1 hp_1 => ?_) rfl
  try dsimp only [Option.toList, List.nil_append, List.cons_append]
  obtain ⟨rfl, rfl, V1, G1⟩ := hp_1
  try dsimp only [Option.toList, List.nil_append, List.cons_append]
  have m1 := V1.1
  have W1 : gW g g_1 P (P + 14) := gW_t gW_r (g2_W G1 (by omega) (by omega) (by omega) (by omega))
  refine z_callV hE d_Mo_limbs_36 cl_Mo_116 (c_Mo_done l nx V1 (nI (lmQ (ptQ x (fx p))))) (by assumption) cb_Mo rfl (Nat.le_of_ble_eq_true rfl) ⟨by decide, by decide⟩ ⟨by omega, by omega⟩ (fun r_9 g_9 nx_9 hp_9 => ?_) rfl
  try dsimp only [Option.toList, List.nil_append, List.cons_append]
  obtain ⟨rfl, rfl, V9, G9⟩ := hp_9
  try dsimp only [Option.toList, List.nil_append, List.cons_append]
  refine z_goto (tgt := 47) hE d_Mo_limbs_39 (by decide) ?_
  refine z_iret hE hQ d_Mo_limbs_47 rfl (by omega) (by omega) (pM_of (S := sC S 0) ?_ V9 (EQS_c hEQ rfl rfl) (gW_t W1 (g1_W G9 (by omega) (by omega))))
  unfold spLimbs; rw [if_pos ⟨ha, hp⟩, hx]; rfl
theorem limb_w {D : Nat → Nat} (hD : ∀ j, D j < 65536) {v k : Nat} (hv : w16 D 16 = v) (hk : k < 8) : v / 4294967296 ^ k % 4294967296 = D (2 * k) + D (2 * k + 1) * 65536 := by
  have e1 : 4294967296 ^ k = 65536 ^ (2 * k) := by rw [Nat.pow_mul]
  have h1 := w16_dig hD (2 * k) 16 (by omega)
  have h2 := w16_dig hD (2 * k + 1) 16 (by omega)
  rw [hv] at h1 h2
  rw [Nat.pow_succ, ← Nat.div_div_eq_div_mul] at h2
  rw [e1, show (4294967296 : Nat) = 65536 * 65536 from rfl, Nat.mod_mul, h1, h2, Nat.mul_comm 65536]
theorem lmQ_8 {v : Nat} (h : v < 4294967296 ^ 8) : lmQ v ≤ 8 := by
  have := bl256.mpr h
  unfold lmQ
  omega
theorem l_or16 {a b : Nat} (ha : a < 65536) (hb : b < 65536) : lN a ||| lN (b * 65536) = lN (a + b * 65536) := by
  rw [wb_or (by omega) (by omega)]
  congr 1
  have := Nat.shiftLeft_add_eq_or_of_lt (i := 16) (b := a) ha b
  rw [Nat.shiftLeft_eq, show (2 : Nat) ^ 16 = 65536 from rfl] at this
  rw [Nat.or_comm, ← this, Nat.add_comm]
theorem c_Mo_limb (l : Launch) {g : Gh} (nx : Nat) {P : Nat} {S : Sx} (hM : MW g P S) (hO : SOK S) (a p k : Int32) : Ct l m_Mo_limb 0 0 [.ref P, .int a, .int p, .int k] g nx (pM g P nx (spLimb S a p k)) := by
  obtain ⟨E0, t, ts, hV, hEQ⟩ := hM
  have h0 := hV.1
  obtain ⟨-, ⟨th, h1, h1'⟩, ⟨sn, A, B, h2, h3, h4, b4, b5, b6⟩, ⟨rm, h5, h5'⟩, -⟩ := id hV
  refine Ct.of (by decide) (Nat.le_of_ble_eq_true rfl) (fun E hE hQ => ?_)
  have out : ∀ lv, ¬ (inI a 0 15 ∧ inI p 0 1) → zJ E g nx 0 0 17 lv [] := by
    intro lv h
    refine z_ldc2 hE d_Mo_limb_17 cn_Mo_181 ?_
    exact z_lret hE hQ d_Mo_limb_20 rfl (by omega) (by omega) (pM_of (if_neg h) hV hEQ gW_r)
  refine z_iload_n hE d_Mo_limb_0 rfl ?_
  refine z_callS hE d_Mo_limb_1 cl_Mo_138 (c_Mo_isFraction l g nx a) rfl (Nat.le_of_ble_eq_true rfl) ⟨by decide, by decide⟩ ⟨by omega, by omega⟩ (fun r_1 g_1 nx_1 hp_1 => ?_) rfl
  obtain ⟨rfl, rfl, rfl⟩ := hp_1
  try dsimp only [Option.toList, List.nil_append, List.cons_append]
  by_cases ha : inI a 0 15
  case neg =>
    rw [if_neg ha]
    refine z_if_eq (tgt := 17) hE d_Mo_limb_4 (by decide) (fun _ => ?_) (fun c_ => absurd c_ (by decide))
    exact out _ (fun q => ha q.1)
  rw [if_pos ha]
  refine z_if_eq (tgt := 17) hE d_Mo_limb_4 (by decide) (fun c_ => absurd c_ (by decide)) (fun _ => ?_)
  refine z_iload_n hE d_Mo_limb_7 rfl ?_
  refine z_i2l hE d_Mo_limb_8 (rfl) ?_
  refine z_lconst (v := 0) hE d_Mo_limb_9 (by decide) ?_
  refine z_lconst (v := 1) hE d_Mo_limb_10 (by decide) ?_
  refine z_callS hE d_Mo_limb_11 cl_Mo_125 (c_Mo_inI l g nx p 0 1 0 1 (by decide) (by decide)) rfl (Nat.le_of_ble_eq_true rfl) ⟨by decide, by decide⟩ ⟨by omega, by omega⟩ (fun r_11 g_11 nx_11 hp_11 => ?_) rfl
  obtain ⟨rfl, rfl, rfl⟩ := hp_11
  try dsimp only [Option.toList, List.nil_append, List.cons_append]
  by_cases hp : inI p 0 1
  case neg =>
    rw [if_neg hp]
    refine z_if_ne (tgt := 21) hE d_Mo_limb_14 (by decide) (fun c_ => absurd c_ (by decide)) (fun _ => ?_)
    exact out _ (fun q => hp q.2)
  rw [if_pos hp]
  refine z_if_ne (tgt := 21) hE d_Mo_limb_14 (by decide) (fun _ => ?_) (fun c_ => absurd c_ (by decide))
  obtain ⟨ea, za, ha2⟩ := fx_of ha (by omega) (by omega)
  obtain ⟨ep, zp, hp2⟩ := fx_of hp (by omega) (by omega)
  refine z_aload_n hE d_Mo_limb_21 rfl ?_
  refine z_get hE d_Mo_limb_22 fl_Mo_7 (by assumption) rfl ?_
  refine z_iload_n hE d_Mo_limb_25 rfl ?_
  rw [ea]
  refine z_zald hE d_Mo_limb_26 (by assumption) (nI_in' (by omega : fx a < 58) (by omega)) ?_
  rw [nI_cl (by omega), h1' (fx a) (by omega), hEQ.1 (fx a) (by omega)]
  obtain ⟨x, hx⟩ | hx : (∃ x, S.1 (fx a) = some x) ∨ S.1 (fx a) = none := by cases S.1 (fx a); exact Or.inr rfl; exact Or.inl ⟨_, rfl⟩
  case inr =>
    rw [hx, show (none : Option Qf).isSome = false from rfl, if_neg (by decide)]
    refine z_if_ne (tgt := 37) hE d_Mo_limb_27 (by decide) (fun c_ => absurd c_ (fun z => z rfl)) (fun _ => ?_)
    refine z_aload_n hE d_Mo_limb_30 rfl ?_
    refine z_iconst (v := 1) hE d_Mo_limb_31 (by decide) ?_
    refine z_callV hE d_Mo_limb_32 cl_Mo_106 (c_Mo_fail l nx hV 1) (by assumption) cb_Mo rfl (Nat.le_of_ble_eq_true rfl) ⟨by decide, by decide⟩ ⟨by omega, by omega⟩ (fun r_9 g_9 nx_9 hp_9 => ?_) rfl
    try dsimp only [Option.toList, List.nil_append, List.cons_append]
    obtain ⟨rfl, rfl, V9, G9⟩ := hp_9
    try dsimp only [Option.toList, List.nil_append, List.cons_append]
    refine z_i2l hE d_Mo_limb_35 (rfl) ?_
    refine z_lret hE hQ d_Mo_limb_36 rfl (by omega) (by omega) (pM_of (S := sC S 1) ?_ V9 (EQS_c hEQ rfl rfl) (gW_t gW_r (g1_W G9 (by omega) (by omega))))
    unfold spLimb; rw [if_pos ⟨ha, hp⟩, hx]; rfl
  rw [hx, show (some x).isSome = true from rfl, if_pos rfl]
  refine z_if_ne (tgt := 37) hE d_Mo_limb_27 (by decide) (fun _ => ?_) (fun c_ => absurd c_ (by decide))
  have kx := S_q hO (by omega) hx
  have ex := (hEQ.1 (fx a) (by omega)).trans hx
  have sx := (b6 (fx a) (by omega) x ex).1
  have hspec : spLimb S a p k = if 0 ≤ k.toInt ∧ k.toInt < lmQ (ptQ x (fx p)) then (.long (lN (ptQ x (fx p) / 4294967296 ^ fx k % 4294967296)), sC S 0) else tellL S 3 := by unfold spLimb; rw [if_pos ⟨ha, hp⟩, hx]
  have hl8 : lmQ (ptQ x (fx p)) ≤ 8 := by
    unfold ptQ
    by_cases h : fx p = 0
    · rw [if_pos h]; exact lmQ_8 kx.2.1
    · rw [if_neg h]; exact lmQ_8 kx.2.2
  refine z_iload_n hE d_Mo_limb_37 rfl ?_
  refine z_i2l hE d_Mo_limb_38 (rfl) ?_
  refine z_lconst (v := 0) hE d_Mo_limb_39 (by decide) ?_
  refine z_aload_n hE d_Mo_limb_40 rfl ?_
  refine z_iload_n hE d_Mo_limb_41 rfl ?_
  refine z_iload_n hE d_Mo_limb_42 rfl ?_
  rw [ep]
  refine z_callV hE d_Mo_limb_43 cl_Mo_178 (c_Mo_limbsOf l nx (f := fx a) (p := fx p) hV (by omega) ex (by omega)) (by assumption) cb_Mo rfl (Nat.le_of_ble_eq_true rfl) ⟨by decide, by decide⟩ ⟨by omega, by omega⟩ (fun r_1 g_1 nx_1 hp_1 => ?_) rfl
  try dsimp only [Option.toList, List.nil_append, List.cons_append]
  obtain ⟨rfl, rfl, V1, G1⟩ := hp_1
  try dsimp only [Option.toList, List.nil_append, List.cons_append]
  have m1 := V1.1
  have W1 : gW g g_1 P (P + 14) := gW_t gW_r (g2_W G1 (by omega) (by omega) (by omega) (by omega))
  refine z_iconst (v := nI 1) hE d_Mo_limb_46 (by decide) ?_
  refine z_isub hE d_Mo_limb_47 (rfl) ?_
  refine z_i2l hE d_Mo_limb_48 (rfl) ?_
  have him : (nI (lmQ (ptQ x (fx p))) - nI 1).toInt64.toInt = (lmQ (ptQ x (fx p)) : Int) - 1 := by
    rw [Int32.toInt_toInt64]; exact pk_sub_toInt (by omega) (by omega)
  refine z_callS hE d_Mo_limb_49 cl_Mo_125 (c_Mo_inI l g_1 nx k 0 (nI (lmQ (ptQ x (fx p))) - nI 1).toInt64 0 ((lmQ (ptQ x (fx p)) : Int) - 1) (by decide) him) rfl (Nat.le_of_ble_eq_true rfl) ⟨by decide, by decide⟩ ⟨by omega, by omega⟩ (fun r_49 g_49 nx_49 hp_49 => ?_) rfl
  obtain ⟨rfl, rfl, rfl⟩ := hp_49
  try dsimp only [Option.toList, List.nil_append, List.cons_append]
  by_cases hk : inI k 0 ((lmQ (ptQ x (fx p)) : Int) - 1)
  case neg =>
    rw [if_neg hk]
    refine z_if_ne (tgt := 62) hE d_Mo_limb_52 (by decide) (fun c_ => absurd c_ (by decide)) (fun _ => ?_)
    refine z_aload_n hE d_Mo_limb_55 rfl ?_
    refine z_iconst (v := 3) hE d_Mo_limb_56 (by decide) ?_
    refine z_callV hE d_Mo_limb_57 cl_Mo_106 (c_Mo_fail l nx V1 3) (by assumption) cb_Mo rfl (Nat.le_of_ble_eq_true rfl) ⟨by decide, by decide⟩ ⟨by omega, by omega⟩ (fun r_9 g_9 nx_9 hp_9 => ?_) rfl
    try dsimp only [Option.toList, List.nil_append, List.cons_append]
    obtain ⟨rfl, rfl, V9, G9⟩ := hp_9
    try dsimp only [Option.toList, List.nil_append, List.cons_append]
    refine z_i2l hE d_Mo_limb_60 (rfl) ?_
    refine z_lret hE hQ d_Mo_limb_61 rfl (by omega) (by omega) (pM_of (S := sC S 3) ?_ V9 (EQS_c hEQ rfl rfl) (gW_t W1 (g1_W G9 (by omega) (by omega))))
    rw [hspec, if_neg (fun q => hk ⟨q.1, by omega⟩)]; rfl
  rw [if_pos hk]
  rw [if_pos ⟨hk.1, by have := hk.2; omega⟩] at hspec
  refine z_if_ne (tgt := 62) hE d_Mo_limb_52 (by decide) (fun _ => ?_) (fun c_ => absurd c_ (by decide))
  obtain ⟨ek, zk, hk2⟩ := fx_of (x := k) (a := 0) (b := 7) ⟨hk.1, by have := hk.2; omega⟩ (by omega) (by omega)
  have V2 := MV_put V1 0 S.2.2.2.2 ts
  have m2 := V2.1
  obtain ⟨-, -, ⟨sn2, A2, B2, k2, k3, k4, k5, k6, k7⟩, -⟩ := id V2
  obtain ⟨-, qa, qb⟩ := k7 (fx a) (by omega) x ex
  have W2 : gW g (gS g_1 P (oM P 0 S.2.2.2.2 ts)) P (P + 14) := gW_t W1 (gW_S (Nat.le_refl _) (by omega))
  have fin : ∀ (z : Int64) lv, z = lN (ptQ x (fx p) / 4294967296 ^ fx k % 4294967296) → zJ E (gS g_1 P (oM P 0 S.2.2.2.2 ts)) nx 0 0 128 lv [.long z] := by
    intro z lv hz
    refine z_lret hE hQ d_Mo_limb_128 rfl (by omega) (by omega) (pM_of (S := sC S 0) (by rw [hspec, hz]) V2 (EQS_c hEQ rfl rfl) W2)
  refine z_aload_n hE d_Mo_limb_62 rfl ?_
  refine z_iconst (v := 0) hE d_Mo_limb_63 (by decide) ?_
  refine z_put hE d_Mo_limb_64 fl_Mo_50 ct_Mo ff_Mo_5 (by assumption) rfl rfl (Nat.le_of_ble_eq_true rfl) ?_
  refine z_bipush (v := nI 16) hE d_Mo_limb_67 (by decide) ?_
  refine z_iload_n hE d_Mo_limb_69 rfl ?_
  refine z_imul (v := nI (16 * fx a)) hE d_Mo_limb_70 (pk_mul 16 _) ?_
  refine z_iconst (v := nI 2) hE d_Mo_limb_71 (by decide) ?_
  refine z_iload_n hE d_Mo_limb_72 rfl ?_
  rw [ek]
  refine z_imul (v := nI (2 * fx k)) hE d_Mo_limb_73 (pk_mul 2 _) ?_
  refine z_iadd (v := nI (16 * fx a + 2 * fx k)) hE d_Mo_limb_74 (nI_add _ _) ?_
  refine z_istore hE d_Mo_limb_75 (by decide) ?_
  refine z_iload_n hE d_Mo_limb_77 rfl ?_
  by_cases h : fx p = 0
  · have hpt : ptQ x (fx p) = x.2.1 := by unfold ptQ; rw [if_pos h]
    rw [h]
    refine z_if_ne (tgt := 106) hE d_Mo_limb_78 (by decide) (fun c_ => absurd c_ (fun w => w rfl)) (fun _ => ?_)
    refine z_aload_n hE d_Mo_limb_81 rfl ?_
    refine z_get hE d_Mo_limb_82 fl_Mo_17 (by assumption) rfl ?_
    refine z_iload hE d_Mo_limb_85 rfl ?_
    refine z_iald hE d_Mo_limb_87 (by assumption) (nI_in' (by omega : 16 * fx a + 2 * fx k < 928) (by omega)) ?_
    rw [nI_cl (by omega)]
    refine z_i2l (v := lN (A2 (16 * fx a + 2 * fx k))) hE d_Mo_limb_88 (nI_l (by have := k5 (16 * fx a + 2 * fx k); omega)) ?_
    refine z_aload_n hE d_Mo_limb_89 rfl ?_
    refine z_get hE d_Mo_limb_90 fl_Mo_17 (by assumption) rfl ?_
    refine z_iload hE d_Mo_limb_93 rfl ?_
    refine z_iconst (v := nI 1) hE d_Mo_limb_95 (by decide) ?_
    refine z_iadd (v := nI (16 * fx a + 2 * fx k + 1)) hE d_Mo_limb_96 (nI_add _ _) ?_
    refine z_iald hE d_Mo_limb_97 (by assumption) (nI_in' (by omega : 16 * fx a + 2 * fx k + 1 < 928) (by omega)) ?_
    rw [nI_cl (by omega)]
    refine z_i2l (v := lN (A2 (16 * fx a + 2 * fx k + 1))) hE d_Mo_limb_98 (nI_l (by have := k5 (16 * fx a + 2 * fx k + 1); omega)) ?_
    refine z_bipush (v := nI 16) hE d_Mo_limb_99 (by decide) ?_
    refine z_lshl (v := lN (A2 (16 * fx a + 2 * fx k + 1) * 65536)) hE d_Mo_limb_101 (wb_shl (k := 16) _ (by decide)) ?_
    refine z_lor (v := lN (A2 (16 * fx a + 2 * fx k) + A2 (16 * fx a + 2 * fx k + 1) * 65536)) hE d_Mo_limb_102 (l_or16 (k5 _) (k5 _)) ?_
    refine z_goto (tgt := 128) hE d_Mo_limb_103 (by decide) ?_
    refine fin _ _ ?_
    rw [hpt, limb_w (D := fun i => A2 (16 * fx a + i)) (fun j => k5 _) qa (by omega)]; rfl
  · have hpt : ptQ x (fx p) = x.2.2 := by unfold ptQ; rw [if_neg h]
    refine z_if_ne (tgt := 106) hE d_Mo_limb_78 (by decide) (fun _ => ?_) (fun c_ => absurd c_ (fun w => h ((nI_EQ (b := 0) (by omega) (by omega)).mp w)))
    refine z_aload_n hE d_Mo_limb_106 rfl ?_
    refine z_get hE d_Mo_limb_107 fl_Mo_20 (by assumption) rfl ?_
    refine z_iload hE d_Mo_limb_110 rfl ?_
    refine z_iald hE d_Mo_limb_112 (by assumption) (nI_in' (by omega : 16 * fx a + 2 * fx k < 928) (by omega)) ?_
    rw [nI_cl (by omega)]
    refine z_i2l (v := lN (B2 (16 * fx a + 2 * fx k))) hE d_Mo_limb_113 (nI_l (by have := k6 (16 * fx a + 2 * fx k); omega)) ?_
    refine z_aload_n hE d_Mo_limb_114 rfl ?_
    refine z_get hE d_Mo_limb_115 fl_Mo_20 (by assumption) rfl ?_
    refine z_iload hE d_Mo_limb_118 rfl ?_
    refine z_iconst (v := nI 1) hE d_Mo_limb_120 (by decide) ?_
    refine z_iadd (v := nI (16 * fx a + 2 * fx k + 1)) hE d_Mo_limb_121 (nI_add _ _) ?_
    refine z_iald hE d_Mo_limb_122 (by assumption) (nI_in' (by omega : 16 * fx a + 2 * fx k + 1 < 928) (by omega)) ?_
    rw [nI_cl (by omega)]
    refine z_i2l (v := lN (B2 (16 * fx a + 2 * fx k + 1))) hE d_Mo_limb_123 (nI_l (by have := k6 (16 * fx a + 2 * fx k + 1); omega)) ?_
    refine z_bipush (v := nI 16) hE d_Mo_limb_124 (by decide) ?_
    refine z_lshl (v := lN (B2 (16 * fx a + 2 * fx k + 1) * 65536)) hE d_Mo_limb_126 (wb_shl (k := 16) _ (by decide)) ?_
    refine z_lor (v := lN (B2 (16 * fx a + 2 * fx k) + B2 (16 * fx a + 2 * fx k + 1) * 65536)) hE d_Mo_limb_127 (l_or16 (k6 _) (k6 _)) ?_
    refine fin _ _ ?_
    rw [hpt, limb_w (D := fun i => B2 (16 * fx a + i)) (fun j => k6 _) qb (by omega)]; rfl

