/-! the reference: doubles -/
theorem d_Mo_shiftBoth_0 : decode b_Mo_shiftBoth 0 = .ok (.iload_n 1, 1) := by decide +kernel
theorem d_Mo_shiftBoth_1 : decode b_Mo_shiftBoth 1 = .ok (.ifCond .le 14, 3) := by decide +kernel
theorem d_Mo_shiftBoth_4 : decode b_Mo_shiftBoth 4 = .ok (.aload_n 0, 1) := by decide +kernel
theorem d_Mo_shiftBoth_5 : decode b_Mo_shiftBoth 5 = .ok (.getfield 29, 3) := by decide +kernel
theorem d_Mo_shiftBoth_8 : decode b_Mo_shiftBoth 8 = .ok (.iload_n 1, 1) := by decide +kernel
theorem d_Mo_shiftBoth_9 : decode b_Mo_shiftBoth 9 = .ok (.invokestatic 90, 3) := by decide +kernel
theorem d_Mo_shiftBoth_12 : decode b_Mo_shiftBoth 12 = .ok (.goto 12, 3) := by decide +kernel
theorem d_Mo_shiftBoth_15 : decode b_Mo_shiftBoth 15 = .ok (.aload_n 0, 1) := by decide +kernel
theorem d_Mo_shiftBoth_16 : decode b_Mo_shiftBoth 16 = .ok (.getfield 26, 3) := by decide +kernel
theorem d_Mo_shiftBoth_19 : decode b_Mo_shiftBoth 19 = .ok (.iload_n 1, 1) := by decide +kernel
theorem d_Mo_shiftBoth_20 : decode b_Mo_shiftBoth 20 = .ok (.ineg, 1) := by decide +kernel
theorem d_Mo_shiftBoth_21 : decode b_Mo_shiftBoth 21 = .ok (.invokestatic 90, 3) := by decide +kernel
theorem d_Mo_shiftBoth_24 : decode b_Mo_shiftBoth 24 = .ok (.return_, 1) := by decide +kernel
theorem d_Mo_real_0 : decode b_Mo_real 0 = .ok (.iload_n 1, 1) := by decide +kernel
theorem d_Mo_real_1 : decode b_Mo_real 1 = .ok (.invokestatic 138, 3) := by decide +kernel
theorem d_Mo_real_4 : decode b_Mo_real 4 = .ok (.ifCond .eq 13, 3) := by decide +kernel
theorem d_Mo_real_7 : decode b_Mo_real 7 = .ok (.iload_n 2, 1) := by decide +kernel
theorem d_Mo_real_8 : decode b_Mo_real 8 = .ok (.i2l, 1) := by decide +kernel
theorem d_Mo_real_9 : decode b_Mo_real 9 = .ok (.lconst 0, 1) := by decide +kernel
theorem d_Mo_real_10 : decode b_Mo_real 10 = .ok (.lconst 1, 1) := by decide +kernel
theorem d_Mo_real_11 : decode b_Mo_real 11 = .ok (.invokestatic 125, 3) := by decide +kernel
theorem d_Mo_real_14 : decode b_Mo_real 14 = .ok (.ifCond .ne 7, 3) := by decide +kernel
theorem d_Mo_real_17 : decode b_Mo_real 17 = .ok (.ldc2_w 181, 3) := by decide +kernel
theorem d_Mo_real_20 : decode b_Mo_real 20 = .ok (.lreturn, 1) := by decide +kernel
theorem d_Mo_real_21 : decode b_Mo_real 21 = .ok (.aload_n 0, 1) := by decide +kernel
theorem d_Mo_real_22 : decode b_Mo_real 22 = .ok (.getfield 7, 3) := by decide +kernel
theorem d_Mo_real_25 : decode b_Mo_real 25 = .ok (.iload_n 1, 1) := by decide +kernel
theorem d_Mo_real_26 : decode b_Mo_real 26 = .ok (.baload, 1) := by decide +kernel
theorem d_Mo_real_27 : decode b_Mo_real 27 = .ok (.ifCond .ne 10, 3) := by decide +kernel
theorem d_Mo_real_30 : decode b_Mo_real 30 = .ok (.aload_n 0, 1) := by decide +kernel
theorem d_Mo_real_31 : decode b_Mo_real 31 = .ok (.iconst 1, 1) := by decide +kernel
theorem d_Mo_real_32 : decode b_Mo_real 32 = .ok (.invokevirtual 106, 3) := by decide +kernel
theorem d_Mo_real_35 : decode b_Mo_real 35 = .ok (.i2l, 1) := by decide +kernel
theorem d_Mo_real_36 : decode b_Mo_real 36 = .ok (.lreturn, 1) := by decide +kernel
theorem d_Mo_real_37 : decode b_Mo_real 37 = .ok (.aload_n 0, 1) := by decide +kernel
theorem d_Mo_real_38 : decode b_Mo_real 38 = .ok (.iconst 0, 1) := by decide +kernel
theorem d_Mo_real_39 : decode b_Mo_real 39 = .ok (.putfield 50, 3) := by decide +kernel
theorem d_Mo_real_42 : decode b_Mo_real 42 = .ok (.aload_n 0, 1) := by decide +kernel
theorem d_Mo_real_43 : decode b_Mo_real 43 = .ok (.getfield 13, 3) := by decide +kernel
theorem d_Mo_real_46 : decode b_Mo_real 46 = .ok (.iload_n 1, 1) := by decide +kernel
theorem d_Mo_real_47 : decode b_Mo_real 47 = .ok (.iaload, 1) := by decide +kernel
theorem d_Mo_real_48 : decode b_Mo_real 48 = .ok (.ifCond .ne 5, 3) := by decide +kernel
theorem d_Mo_real_51 : decode b_Mo_real 51 = .ok (.lconst 0, 1) := by decide +kernel
theorem d_Mo_real_52 : decode b_Mo_real 52 = .ok (.lreturn, 1) := by decide +kernel
theorem d_Mo_real_53 : decode b_Mo_real 53 = .ok (.aload_n 0, 1) := by decide +kernel
theorem d_Mo_real_54 : decode b_Mo_real 54 = .ok (.iload_n 1, 1) := by decide +kernel
theorem d_Mo_real_55 : decode b_Mo_real 55 = .ok (.aload_n 0, 1) := by decide +kernel
theorem d_Mo_real_56 : decode b_Mo_real 56 = .ok (.getfield 26, 3) := by decide +kernel
theorem d_Mo_real_59 : decode b_Mo_real 59 = .ok (.aload_n 0, 1) := by decide +kernel
theorem d_Mo_real_60 : decode b_Mo_real 60 = .ok (.getfield 29, 3) := by decide +kernel
theorem d_Mo_real_63 : decode b_Mo_real 63 = .ok (.invokevirtual 119, 3) := by decide +kernel
theorem d_Mo_real_66 : decode b_Mo_real 66 = .ok (.aload_n 0, 1) := by decide +kernel
theorem d_Mo_real_67 : decode b_Mo_real 67 = .ok (.getfield 26, 3) := by decide +kernel
theorem d_Mo_real_70 : decode b_Mo_real 70 = .ok (.invokestatic 65, 3) := by decide +kernel
theorem d_Mo_real_73 : decode b_Mo_real 73 = .ok (.aload_n 0, 1) := by decide +kernel
theorem d_Mo_real_74 : decode b_Mo_real 74 = .ok (.getfield 29, 3) := by decide +kernel
theorem d_Mo_real_77 : decode b_Mo_real 77 = .ok (.invokestatic 65, 3) := by decide +kernel
theorem d_Mo_real_80 : decode b_Mo_real 80 = .ok (.isub, 1) := by decide +kernel
theorem d_Mo_real_81 : decode b_Mo_real 81 = .ok (.istore_n 3, 1) := by decide +kernel
theorem d_Mo_real_82 : decode b_Mo_real 82 = .ok (.aload_n 0, 1) := by decide +kernel
theorem d_Mo_real_83 : decode b_Mo_real 83 = .ok (.iload_n 3, 1) := by decide +kernel
theorem d_Mo_real_84 : decode b_Mo_real 84 = .ok (.invokevirtual 197, 3) := by decide +kernel
theorem d_Mo_real_87 : decode b_Mo_real 87 = .ok (.iload_n 3, 1) := by decide +kernel
theorem d_Mo_real_88 : decode b_Mo_real 88 = .ok (.aload_n 0, 1) := by decide +kernel
theorem d_Mo_real_89 : decode b_Mo_real 89 = .ok (.getfield 26, 3) := by decide +kernel
theorem d_Mo_real_92 : decode b_Mo_real 92 = .ok (.aload_n 0, 1) := by decide +kernel
theorem d_Mo_real_93 : decode b_Mo_real 93 = .ok (.getfield 29, 3) := by decide +kernel
theorem d_Mo_real_96 : decode b_Mo_real 96 = .ok (.invokestatic 69, 3) := by decide +kernel
theorem d_Mo_real_99 : decode b_Mo_real 99 = .ok (.ifCond .ge 7, 3) := by decide +kernel
theorem d_Mo_real_102 : decode b_Mo_real 102 = .ok (.iconst 1, 1) := by decide +kernel
theorem d_Mo_real_103 : decode b_Mo_real 103 = .ok (.goto 4, 3) := by decide +kernel
theorem d_Mo_real_106 : decode b_Mo_real 106 = .ok (.iconst 0, 1) := by decide +kernel
theorem d_Mo_real_107 : decode b_Mo_real 107 = .ok (.isub, 1) := by decide +kernel
theorem d_Mo_real_108 : decode b_Mo_real 108 = .ok (.istore_n 3, 1) := by decide +kernel
theorem d_Mo_real_109 : decode b_Mo_real 109 = .ok (.aload_n 0, 1) := by decide +kernel
theorem d_Mo_real_110 : decode b_Mo_real 110 = .ok (.iload_n 1, 1) := by decide +kernel
theorem d_Mo_real_111 : decode b_Mo_real 111 = .ok (.aload_n 0, 1) := by decide +kernel
theorem d_Mo_real_112 : decode b_Mo_real 112 = .ok (.getfield 26, 3) := by decide +kernel
theorem d_Mo_real_115 : decode b_Mo_real 115 = .ok (.aload_n 0, 1) := by decide +kernel
theorem d_Mo_real_116 : decode b_Mo_real 116 = .ok (.getfield 29, 3) := by decide +kernel
theorem d_Mo_real_119 : decode b_Mo_real 119 = .ok (.invokevirtual 119, 3) := by decide +kernel
theorem d_Mo_real_122 : decode b_Mo_real 122 = .ok (.aload_n 0, 1) := by decide +kernel
theorem d_Mo_real_123 : decode b_Mo_real 123 = .ok (.iload_n 3, 1) := by decide +kernel
theorem d_Mo_real_124 : decode b_Mo_real 124 = .ok (.bipush 52, 2) := by decide +kernel
theorem d_Mo_real_126 : decode b_Mo_real 126 = .ok (.isub, 1) := by decide +kernel
theorem d_Mo_real_127 : decode b_Mo_real 127 = .ok (.invokevirtual 197, 3) := by decide +kernel
theorem d_Mo_real_130 : decode b_Mo_real 130 = .ok (.aload_n 0, 1) := by decide +kernel
theorem d_Mo_real_131 : decode b_Mo_real 131 = .ok (.aload_n 0, 1) := by decide +kernel
theorem d_Mo_real_132 : decode b_Mo_real 132 = .ok (.getfield 26, 3) := by decide +kernel
theorem d_Mo_real_135 : decode b_Mo_real 135 = .ok (.aload_n 0, 1) := by decide +kernel
theorem d_Mo_real_136 : decode b_Mo_real 136 = .ok (.getfield 29, 3) := by decide +kernel
theorem d_Mo_real_139 : decode b_Mo_real 139 = .ok (.invokevirtual 96, 3) := by decide +kernel
theorem d_Mo_real_142 : decode b_Mo_real 142 = .ok (.lconst 0, 1) := by decide +kernel
theorem d_Mo_real_143 : decode b_Mo_real 143 = .ok (.lstore 4, 2) := by decide +kernel
theorem d_Mo_real_145 : decode b_Mo_real 145 = .ok (.iconst 3, 1) := by decide +kernel
theorem d_Mo_real_146 : decode b_Mo_real 146 = .ok (.istore 6, 2) := by decide +kernel
theorem d_Mo_real_148 : decode b_Mo_real 148 = .ok (.iload 6, 2) := by decide +kernel
theorem d_Mo_real_150 : decode b_Mo_real 150 = .ok (.ifCond .lt 25, 3) := by decide +kernel
theorem d_Mo_real_153 : decode b_Mo_real 153 = .ok (.lload 4, 2) := by decide +kernel
theorem d_Mo_real_155 : decode b_Mo_real 155 = .ok (.bipush 16, 2) := by decide +kernel
theorem d_Mo_real_157 : decode b_Mo_real 157 = .ok (.lshl, 1) := by decide +kernel
theorem d_Mo_real_158 : decode b_Mo_real 158 = .ok (.aload_n 0, 1) := by decide +kernel
theorem d_Mo_real_159 : decode b_Mo_real 159 = .ok (.getfield 44, 3) := by decide +kernel
theorem d_Mo_real_162 : decode b_Mo_real 162 = .ok (.iload 6, 2) := by decide +kernel
theorem d_Mo_real_164 : decode b_Mo_real 164 = .ok (.iaload, 1) := by decide +kernel
theorem d_Mo_real_165 : decode b_Mo_real 165 = .ok (.i2l, 1) := by decide +kernel
theorem d_Mo_real_166 : decode b_Mo_real 166 = .ok (.lor, 1) := by decide +kernel
theorem d_Mo_real_167 : decode b_Mo_real 167 = .ok (.lstore 4, 2) := by decide +kernel
theorem d_Mo_real_169 : decode b_Mo_real 169 = .ok (.iinc 6 (-1), 3) := by decide +kernel
theorem d_Mo_real_172 : decode b_Mo_real 172 = .ok (.goto (-24), 3) := by decide +kernel
theorem d_Mo_real_175 : decode b_Mo_real 175 = .ok (.aload_n 0, 1) := by decide +kernel
theorem d_Mo_real_176 : decode b_Mo_real 176 = .ok (.getfield 47, 3) := by decide +kernel
theorem d_Mo_real_179 : decode b_Mo_real 179 = .ok (.invokestatic 77, 3) := by decide +kernel
theorem d_Mo_real_182 : decode b_Mo_real 182 = .ok (.ifCond .ne 34, 3) := by decide +kernel
theorem d_Mo_real_185 : decode b_Mo_real 185 = .ok (.iload_n 2, 1) := by decide +kernel
theorem d_Mo_real_186 : decode b_Mo_real 186 = .ok (.iconst 1, 1) := by decide +kernel
theorem d_Mo_real_187 : decode b_Mo_real 187 = .ok (.if_icmp .ne 7, 3) := by decide +kernel
theorem d_Mo_real_190 : decode b_Mo_real 190 = .ok (.iconst 1, 1) := by decide +kernel
theorem d_Mo_real_191 : decode b_Mo_real 191 = .ok (.goto 4, 3) := by decide +kernel
theorem d_Mo_real_194 : decode b_Mo_real 194 = .ok (.iconst 0, 1) := by decide +kernel
theorem d_Mo_real_195 : decode b_Mo_real 195 = .ok (.aload_n 0, 1) := by decide +kernel
theorem d_Mo_real_196 : decode b_Mo_real 196 = .ok (.getfield 13, 3) := by decide +kernel
theorem d_Mo_real_199 : decode b_Mo_real 199 = .ok (.iload_n 1, 1) := by decide +kernel
theorem d_Mo_real_200 : decode b_Mo_real 200 = .ok (.iaload, 1) := by decide +kernel
theorem d_Mo_real_201 : decode b_Mo_real 201 = .ok (.ifCond .le 7, 3) := by decide +kernel
theorem d_Mo_real_204 : decode b_Mo_real 204 = .ok (.iconst 1, 1) := by decide +kernel
theorem d_Mo_real_205 : decode b_Mo_real 205 = .ok (.goto 4, 3) := by decide +kernel
theorem d_Mo_real_208 : decode b_Mo_real 208 = .ok (.iconst 0, 1) := by decide +kernel
theorem d_Mo_real_209 : decode b_Mo_real 209 = .ok (.if_icmp .ne 7, 3) := by decide +kernel
theorem d_Mo_real_212 : decode b_Mo_real 212 = .ok (.iconst 1, 1) := by decide +kernel
theorem d_Mo_real_213 : decode b_Mo_real 213 = .ok (.goto 4, 3) := by decide +kernel
theorem d_Mo_real_216 : decode b_Mo_real 216 = .ok (.iconst 0, 1) := by decide +kernel
theorem d_Mo_real_217 : decode b_Mo_real 217 = .ok (.istore 6, 2) := by decide +kernel
theorem d_Mo_real_219 : decode b_Mo_real 219 = .ok (.iload_n 3, 1) := by decide +kernel
theorem d_Mo_real_220 : decode b_Mo_real 220 = .ok (.i2l, 1) := by decide +kernel
theorem d_Mo_real_221 : decode b_Mo_real 221 = .ok (.ldc2_w 201, 3) := by decide +kernel
theorem d_Mo_real_224 : decode b_Mo_real 224 = .ok (.ladd, 1) := by decide +kernel
theorem d_Mo_real_225 : decode b_Mo_real 225 = .ok (.bipush 52, 2) := by decide +kernel
theorem d_Mo_real_227 : decode b_Mo_real 227 = .ok (.lshl, 1) := by decide +kernel
theorem d_Mo_real_228 : decode b_Mo_real 228 = .ok (.lload 4, 2) := by decide +kernel
theorem d_Mo_real_230 : decode b_Mo_real 230 = .ok (.ldc2_w 203, 3) := by decide +kernel
theorem d_Mo_real_233 : decode b_Mo_real 233 = .ok (.lsub, 1) := by decide +kernel
theorem d_Mo_real_234 : decode b_Mo_real 234 = .ok (.ladd, 1) := by decide +kernel
theorem d_Mo_real_235 : decode b_Mo_real 235 = .ok (.iload 6, 2) := by decide +kernel
theorem d_Mo_real_237 : decode b_Mo_real 237 = .ok (.ifCond .eq 7, 3) := by decide +kernel
theorem d_Mo_real_240 : decode b_Mo_real 240 = .ok (.lconst 1, 1) := by decide +kernel
theorem d_Mo_real_241 : decode b_Mo_real 241 = .ok (.goto 4, 3) := by decide +kernel
theorem d_Mo_real_244 : decode b_Mo_real 244 = .ok (.lconst 0, 1) := by decide +kernel
theorem d_Mo_real_245 : decode b_Mo_real 245 = .ok (.ladd, 1) := by decide +kernel
theorem d_Mo_real_246 : decode b_Mo_real 246 = .ok (.lstore 7, 2) := by decide +kernel
theorem d_Mo_real_248 : decode b_Mo_real 248 = .ok (.aload_n 0, 1) := by decide +kernel
theorem d_Mo_real_249 : decode b_Mo_real 249 = .ok (.getfield 13, 3) := by decide +kernel
theorem d_Mo_real_252 : decode b_Mo_real 252 = .ok (.iload_n 1, 1) := by decide +kernel
theorem d_Mo_real_253 : decode b_Mo_real 253 = .ok (.iaload, 1) := by decide +kernel
theorem d_Mo_real_254 : decode b_Mo_real 254 = .ok (.ifCond .le 8, 3) := by decide +kernel
theorem d_Mo_real_257 : decode b_Mo_real 257 = .ok (.lload 7, 2) := by decide +kernel
theorem d_Mo_real_259 : decode b_Mo_real 259 = .ok (.goto 9, 3) := by decide +kernel
theorem d_Mo_real_262 : decode b_Mo_real 262 = .ok (.lload 7, 2) := by decide +kernel
theorem d_Mo_real_264 : decode b_Mo_real 264 = .ok (.ldc2_w 183, 3) := by decide +kernel
theorem d_Mo_real_267 : decode b_Mo_real 267 = .ok (.lor, 1) := by decide +kernel
theorem d_Mo_real_268 : decode b_Mo_real 268 = .ok (.lreturn, 1) := by decide +kernel
theorem d_Mo_from_0 : decode b_Mo_from 0 = .ok (.iload_n 1, 1) := by decide +kernel
theorem d_Mo_from_1 : decode b_Mo_from 1 = .ok (.invokestatic 138, 3) := by decide +kernel
theorem d_Mo_from_4 : decode b_Mo_from 4 = .ok (.ifCond .ne 6, 3) := by decide +kernel
theorem d_Mo_from_7 : decode b_Mo_from 7 = .ok (.ldc 141, 2) := by decide +kernel
theorem d_Mo_from_9 : decode b_Mo_from 9 = .ok (.ireturn, 1) := by decide +kernel
theorem d_Mo_from_10 : decode b_Mo_from 10 = .ok (.lload_n 2, 1) := by decide +kernel
theorem d_Mo_from_11 : decode b_Mo_from 11 = .ok (.bipush 52, 2) := by decide +kernel
theorem d_Mo_from_13 : decode b_Mo_from 13 = .ok (.lshr, 1) := by decide +kernel
theorem d_Mo_from_14 : decode b_Mo_from 14 = .ok (.ldc2_w 205, 3) := by decide +kernel
theorem d_Mo_from_17 : decode b_Mo_from 17 = .ok (.land, 1) := by decide +kernel
theorem d_Mo_from_18 : decode b_Mo_from 18 = .ok (.l2i, 1) := by decide +kernel
theorem d_Mo_from_19 : decode b_Mo_from 19 = .ok (.istore 4, 2) := by decide +kernel
theorem d_Mo_from_21 : decode b_Mo_from 21 = .ok (.lload_n 2, 1) := by decide +kernel
theorem d_Mo_from_22 : decode b_Mo_from 22 = .ok (.ldc2_w 207, 3) := by decide +kernel
theorem d_Mo_from_25 : decode b_Mo_from 25 = .ok (.land, 1) := by decide +kernel
theorem d_Mo_from_26 : decode b_Mo_from 26 = .ok (.lstore 5, 2) := by decide +kernel
theorem d_Mo_from_28 : decode b_Mo_from 28 = .ok (.iload 4, 2) := by decide +kernel
theorem d_Mo_from_30 : decode b_Mo_from 30 = .ok (.sipush 2047, 3) := by decide +kernel
theorem d_Mo_from_33 : decode b_Mo_from 33 = .ok (.if_icmp .ne 10, 3) := by decide +kernel
theorem d_Mo_from_36 : decode b_Mo_from 36 = .ok (.aload_n 0, 1) := by decide +kernel
theorem d_Mo_from_37 : decode b_Mo_from 37 = .ok (.bipush 7, 2) := by decide +kernel
theorem d_Mo_from_39 : decode b_Mo_from 39 = .ok (.invokevirtual 106, 3) := by decide +kernel
theorem d_Mo_from_42 : decode b_Mo_from 42 = .ok (.ireturn, 1) := by decide +kernel
theorem d_Mo_from_43 : decode b_Mo_from 43 = .ok (.iload 4, 2) := by decide +kernel
theorem d_Mo_from_45 : decode b_Mo_from 45 = .ok (.ifCond .ne 9, 3) := by decide +kernel
theorem d_Mo_from_48 : decode b_Mo_from 48 = .ok (.sipush (-1074), 3) := by decide +kernel
theorem d_Mo_from_51 : decode b_Mo_from 51 = .ok (.goto 9, 3) := by decide +kernel
theorem d_Mo_from_54 : decode b_Mo_from 54 = .ok (.iload 4, 2) := by decide +kernel
theorem d_Mo_from_56 : decode b_Mo_from 56 = .ok (.sipush 1075, 3) := by decide +kernel
theorem d_Mo_from_59 : decode b_Mo_from 59 = .ok (.isub, 1) := by decide +kernel
theorem d_Mo_from_60 : decode b_Mo_from 60 = .ok (.istore 7, 2) := by decide +kernel
theorem d_Mo_from_62 : decode b_Mo_from 62 = .ok (.lload 5, 2) := by decide +kernel
theorem d_Mo_from_64 : decode b_Mo_from 64 = .ok (.iload 4, 2) := by decide +kernel
theorem d_Mo_from_66 : decode b_Mo_from 66 = .ok (.ifCond .ne 7, 3) := by decide +kernel
theorem d_Mo_from_69 : decode b_Mo_from 69 = .ok (.lconst 0, 1) := by decide +kernel
theorem d_Mo_from_70 : decode b_Mo_from 70 = .ok (.goto 6, 3) := by decide +kernel
theorem d_Mo_from_73 : decode b_Mo_from 73 = .ok (.ldc2_w 203, 3) := by decide +kernel
theorem d_Mo_from_76 : decode b_Mo_from 76 = .ok (.ladd, 1) := by decide +kernel
theorem d_Mo_from_77 : decode b_Mo_from 77 = .ok (.lstore 5, 2) := by decide +kernel
theorem d_Mo_from_79 : decode b_Mo_from 79 = .ok (.lload 5, 2) := by decide +kernel
theorem d_Mo_from_81 : decode b_Mo_from 81 = .ok (.lconst 0, 1) := by decide +kernel
theorem d_Mo_from_82 : decode b_Mo_from 82 = .ok (.lcmp, 1) := by decide +kernel
theorem d_Mo_from_83 : decode b_Mo_from 83 = .ok (.ifCond .eq 29, 3) := by decide +kernel
theorem d_Mo_from_86 : decode b_Mo_from 86 = .ok (.lload 5, 2) := by decide +kernel
theorem d_Mo_from_88 : decode b_Mo_from 88 = .ok (.lconst 1, 1) := by decide +kernel
theorem d_Mo_from_89 : decode b_Mo_from 89 = .ok (.land, 1) := by decide +kernel
theorem d_Mo_from_90 : decode b_Mo_from 90 = .ok (.lconst 0, 1) := by decide +kernel
theorem d_Mo_from_91 : decode b_Mo_from 91 = .ok (.lcmp, 1) := by decide +kernel
theorem d_Mo_from_92 : decode b_Mo_from 92 = .ok (.ifCond .ne 20, 3) := by decide +kernel
theorem d_Mo_from_95 : decode b_Mo_from 95 = .ok (.iload 7, 2) := by decide +kernel
theorem d_Mo_from_97 : decode b_Mo_from 97 = .ok (.ifCond .ge 15, 3) := by decide +kernel
theorem d_Mo_from_100 : decode b_Mo_from 100 = .ok (.lload 5, 2) := by decide +kernel
theorem d_Mo_from_102 : decode b_Mo_from 102 = .ok (.iconst 1, 1) := by decide +kernel
theorem d_Mo_from_103 : decode b_Mo_from 103 = .ok (.lshr, 1) := by decide +kernel
theorem d_Mo_from_104 : decode b_Mo_from 104 = .ok (.lstore 5, 2) := by decide +kernel
theorem d_Mo_from_106 : decode b_Mo_from 106 = .ok (.iinc 7 1, 3) := by decide +kernel
theorem d_Mo_from_109 : decode b_Mo_from 109 = .ok (.goto (-30), 3) := by decide +kernel
theorem d_Mo_from_112 : decode b_Mo_from 112 = .ok (.lload 5, 2) := by decide +kernel
theorem d_Mo_from_114 : decode b_Mo_from 114 = .ok (.lconst 0, 1) := by decide +kernel
theorem d_Mo_from_115 : decode b_Mo_from 115 = .ok (.lcmp, 1) := by decide +kernel
theorem d_Mo_from_116 : decode b_Mo_from 116 = .ok (.ifCond .ne 7, 3) := by decide +kernel
theorem d_Mo_from_119 : decode b_Mo_from 119 = .ok (.iconst 0, 1) := by decide +kernel
theorem d_Mo_from_120 : decode b_Mo_from 120 = .ok (.goto 5, 3) := by decide +kernel
theorem d_Mo_from_123 : decode b_Mo_from 123 = .ok (.iload 7, 2) := by decide +kernel
theorem d_Mo_from_125 : decode b_Mo_from 125 = .ok (.istore 7, 2) := by decide +kernel
theorem d_Mo_from_127 : decode b_Mo_from 127 = .ok (.aload_n 0, 1) := by decide +kernel
theorem d_Mo_from_128 : decode b_Mo_from 128 = .ok (.getfield 26, 3) := by decide +kernel
theorem d_Mo_from_131 : decode b_Mo_from 131 = .ok (.lload 5, 2) := by decide +kernel
theorem d_Mo_from_133 : decode b_Mo_from 133 = .ok (.invokestatic 142, 3) := by decide +kernel
theorem d_Mo_from_136 : decode b_Mo_from 136 = .ok (.aload_n 0, 1) := by decide +kernel
theorem d_Mo_from_137 : decode b_Mo_from 137 = .ok (.getfield 29, 3) := by decide +kernel
theorem d_Mo_from_140 : decode b_Mo_from 140 = .ok (.lconst 1, 1) := by decide +kernel
theorem d_Mo_from_141 : decode b_Mo_from 141 = .ok (.invokestatic 142, 3) := by decide +kernel
theorem d_Mo_from_144 : decode b_Mo_from 144 = .ok (.iload 7, 2) := by decide +kernel
theorem d_Mo_from_146 : decode b_Mo_from 146 = .ok (.sipush (-255), 3) := by decide +kernel
theorem d_Mo_from_149 : decode b_Mo_from 149 = .ok (.if_icmp .lt 19, 3) := by decide +kernel
theorem d_Mo_from_152 : decode b_Mo_from 152 = .ok (.aload_n 0, 1) := by decide +kernel
theorem d_Mo_from_153 : decode b_Mo_from 153 = .ok (.getfield 26, 3) := by decide +kernel
theorem d_Mo_from_156 : decode b_Mo_from 156 = .ok (.invokestatic 65, 3) := by decide +kernel
theorem d_Mo_from_159 : decode b_Mo_from 159 = .ok (.iload 7, 2) := by decide +kernel
theorem d_Mo_from_161 : decode b_Mo_from 161 = .ok (.iadd, 1) := by decide +kernel
theorem d_Mo_from_162 : decode b_Mo_from 162 = .ok (.sipush 256, 3) := by decide +kernel
theorem d_Mo_from_165 : decode b_Mo_from 165 = .ok (.if_icmp .le 10, 3) := by decide +kernel
theorem d_Mo_from_168 : decode b_Mo_from 168 = .ok (.aload_n 0, 1) := by decide +kernel
theorem d_Mo_from_169 : decode b_Mo_from 169 = .ok (.bipush 6, 2) := by decide +kernel
theorem d_Mo_from_171 : decode b_Mo_from 171 = .ok (.invokevirtual 106, 3) := by decide +kernel
theorem d_Mo_from_174 : decode b_Mo_from 174 = .ok (.ireturn, 1) := by decide +kernel
theorem d_Mo_from_175 : decode b_Mo_from 175 = .ok (.aload_n 0, 1) := by decide +kernel
theorem d_Mo_from_176 : decode b_Mo_from 176 = .ok (.iload 7, 2) := by decide +kernel
theorem d_Mo_from_178 : decode b_Mo_from 178 = .ok (.ineg, 1) := by decide +kernel
theorem d_Mo_from_179 : decode b_Mo_from 179 = .ok (.invokevirtual 197, 3) := by decide +kernel
theorem d_Mo_from_182 : decode b_Mo_from 182 = .ok (.aload_n 0, 1) := by decide +kernel
theorem d_Mo_from_183 : decode b_Mo_from 183 = .ok (.lload_n 2, 1) := by decide +kernel
theorem d_Mo_from_184 : decode b_Mo_from 184 = .ok (.lconst 0, 1) := by decide +kernel
theorem d_Mo_from_185 : decode b_Mo_from 185 = .ok (.lcmp, 1) := by decide +kernel
theorem d_Mo_from_186 : decode b_Mo_from 186 = .ok (.ifCond .ge 7, 3) := by decide +kernel
theorem d_Mo_from_189 : decode b_Mo_from 189 = .ok (.iconst (-1), 1) := by decide +kernel
theorem d_Mo_from_190 : decode b_Mo_from 190 = .ok (.goto 4, 3) := by decide +kernel
theorem d_Mo_from_193 : decode b_Mo_from 193 = .ok (.iconst 1, 1) := by decide +kernel
theorem d_Mo_from_194 : decode b_Mo_from 194 = .ok (.putfield 99, 3) := by decide +kernel
theorem d_Mo_from_197 : decode b_Mo_from 197 = .ok (.aload_n 0, 1) := by decide +kernel
theorem d_Mo_from_198 : decode b_Mo_from 198 = .ok (.iload_n 1, 1) := by decide +kernel
theorem d_Mo_from_199 : decode b_Mo_from 199 = .ok (.invokevirtual 146, 3) := by decide +kernel
theorem d_Mo_from_202 : decode b_Mo_from 202 = .ok (.ireturn, 1) := by decide +kernel
theorem c_Mo_shiftBoth (l : Launch) {g : Gh} (nx : Nat) {P : Nat} {E0 : Nat → Option Qf} {pl : Nat → Int32} {c n ts : Int32} {t : Nat → Nat} (hV : MV g P E0 pl c n ts t) (x : Int32) (hx : -10000 ≤ x.toInt ∧ x.toInt ≤ 10000) (h6 : t 6 * 2 ^ (-x.toInt).toNat < 65536 ^ 56) (h7 : t 7 * 2 ^ x.toInt.toNat < 65536 ^ 56) : Ct l m_Mo_shiftBoth 0 0 [.ref P, .int x] g nx (fun r g' nx' => r = none ∧ nx = nx' ∧ MV g' P E0 pl c n ts (upN (upN t 6 (t 6 * 2 ^ (-x.toInt).toNat)) 7 (t 7 * 2 ^ x.toInt.toNat)) ∧ g2 g g' (P + 6) (P + 7)) := by
  have h0 := hV.1
  have M6 := MV_m hV 6 (by omega) (by omega)
  have M7 := MV_m hV 7 (by omega) (by omega)
  refine Ct.of (by decide) (Nat.le_of_ble_eq_true rfl) (fun E hE hQ => ?_)
  refine z_iload_n hE d_Mo_shiftBoth_0 rfl ?_
  by_cases h : x.toInt ≤ 0
  · refine z_if_le (tgt := 15) hE d_Mo_shiftBoth_1 (by decide) (fun _ => ?_) (fun c_ => absurd c_ (fun w => w (by rw [Int32.le_iff_toInt_le]; exact h)))
    have ez : x.toInt.toNat = 0 := by omega
    rw [ez, Nat.pow_zero, Nat.mul_one] at hQ
    refine z_aload_n hE d_Mo_shiftBoth_15 rfl ?_
    refine z_get hE d_Mo_shiftBoth_16 fl_Mo_26 (by assumption) rfl ?_
    refine z_iload_n hE d_Mo_shiftBoth_19 rfl ?_
    refine z_ineg (v := nI (-x.toInt).toNat) hE d_Mo_shiftBoth_20 (i_ge (by rw [i_negI (by omega) (by omega)]; omega) (by omega)) ?_
    refine z_callS hE d_Mo_shiftBoth_21 cl_Mo_90 (c_Mo_shifted l nx M6 (n := (-x.toInt).toNat) (by omega) h6) rfl (Nat.le_of_ble_eq_true rfl) ⟨by decide, by decide⟩ ⟨by omega, by omega⟩ (fun r_1 g_1 nx_1 hp_1 => ?_) rfl
    try dsimp only [Option.toList, List.nil_append, List.cons_append]
    obtain ⟨rfl, rfl, N1, G1⟩ := hp_1
    try dsimp only [Option.toList, List.nil_append, List.cons_append]
    exact z_vret hE hQ d_Mo_shiftBoth_24 rfl (by omega) (by omega) ⟨rfl, rfl, MV_up2 hV (by omega) (by omega) N1 (MA_o M7 G1 (by omega)) (fun q z1 _ => G1 q z1), fun q z1 _ => G1 q z1⟩
  · refine z_if_le (tgt := 15) hE d_Mo_shiftBoth_1 (by decide) (fun c_ => absurd c_ (fun w => h (by rw [Int32.le_iff_toInt_le] at w; exact w))) (fun _ => ?_)
    have ez : (-x.toInt).toNat = 0 := by omega
    rw [ez, Nat.pow_zero, Nat.mul_one] at hQ
    have ex : x = nI x.toInt.toNat := i_ge (by omega) (by omega)
    refine z_aload_n hE d_Mo_shiftBoth_4 rfl ?_
    refine z_get hE d_Mo_shiftBoth_5 fl_Mo_29 (by assumption) rfl ?_
    refine z_iload_n hE d_Mo_shiftBoth_8 rfl ?_
    rw [ex]
    refine z_callS hE d_Mo_shiftBoth_9 cl_Mo_90 (c_Mo_shifted l nx M7 (n := x.toInt.toNat) (by omega) h7) rfl (Nat.le_of_ble_eq_true rfl) ⟨by decide, by decide⟩ ⟨by omega, by omega⟩ (fun r_1 g_1 nx_1 hp_1 => ?_) rfl
    try dsimp only [Option.toList, List.nil_append, List.cons_append]
    obtain ⟨rfl, rfl, N1, G1⟩ := hp_1
    try dsimp only [Option.toList, List.nil_append, List.cons_append]
    refine z_goto (tgt := 24) hE d_Mo_shiftBoth_12 (by decide) ?_
    exact z_vret hE hQ d_Mo_shiftBoth_24 rfl (by omega) (by omega) ⟨rfl, rfl, MV_up2 hV (by omega) (by omega) (MA_o M6 G1 (by omega)) N1 (fun q _ z2 => G1 q z2), fun q _ z2 => G1 q z2⟩
/-! a double's bits the reference's way -/
theorem sh_cmp {a b A B C D : Nat} (h : A + C = 53 + B + D) : a * 2 ^ A < 9007199254740992 * (b * 2 ^ B) ↔ a * 2 ^ D < b * 2 ^ C := by
  have hC := p2_pos C
  have hB := p2_pos (53 + B)
  have e1 : a * 2 ^ A * 2 ^ C = a * 2 ^ D * 2 ^ (53 + B) := by
    rw [Nat.mul_assoc, ← Nat.pow_add, Nat.mul_assoc, ← Nat.pow_add]; congr 2; omega
  have e2 : 9007199254740992 * (b * 2 ^ B) * 2 ^ C = b * 2 ^ C * 2 ^ (53 + B) := by
    rw [Nat.pow_add 2 53 B, show (2 : Nat) ^ 53 = 9007199254740992 from rfl]
    simp only [Nat.mul_assoc, Nat.mul_comm, Nat.mul_left_comm]
  rw [← Nat.mul_lt_mul_right hC, e1, e2, Nat.mul_lt_mul_right hB]
theorem dv_half {X Y X' Y' : Nat} (h : (X = 2 * X' ∧ Y = Y') ∨ (X = X' ∧ Y' = 2 * Y)) (hY : 0 < Y) : X' / Y' = X / Y / 2 ∧ (X' % Y' = 0 ↔ X % Y = 0 ∧ X / Y % 2 = 0) := by
  have e : X' / Y' = X / Y / 2 ∧ (Y' ∣ X' ↔ 2 * Y ∣ X) := by
    rcases h with ⟨rfl, rfl⟩ | ⟨rfl, rfl⟩
    · refine ⟨?_, ?_⟩
      · rw [Nat.div_div_eq_div_mul, Nat.mul_comm Y 2, Nat.mul_div_mul_left _ _ (by decide)]
      · constructor
        · intro z; exact Nat.mul_dvd_mul_left 2 z
        · intro z; exact Nat.dvd_of_mul_dvd_mul_left (by decide) z
    · refine ⟨?_, Iff.rfl⟩
      rw [Nat.div_div_eq_div_mul, Nat.mul_comm Y 2]
  refine ⟨e.1, ?_⟩
  rw [← Nat.dvd_iff_mod_eq_zero, e.2]
  constructor
  · rintro ⟨k, hk⟩
    have hX : X = Y * (2 * k) := by rw [hk, Nat.mul_comm 2 Y, Nat.mul_assoc]
    rw [hX, Nat.mul_mod_right, Nat.mul_div_cancel_left _ hY]
    exact ⟨rfl, by omega⟩
  · rintro ⟨h1, h2⟩
    have h3 := Nat.div_add_mod X Y
    rw [h1, Nat.add_zero] at h3
    refine ⟨X / Y / 2, ?_⟩
    have h4 : X / Y = 2 * (X / Y / 2) := by omega
    rw [Nat.mul_comm 2 Y, Nat.mul_assoc, ← h4]
    exact h3.symm
/-- the exponent, the mantissa and what is left -/
theorem real_eq {a b : Nat} (ha : a ≠ 0) (hb : b ≠ 0) {e0 e : Int} (h0 : e0 = (bl a : Int) - bl b) (he : e = if a * 2 ^ (-e0).toNat < b * 2 ^ e0.toNat then e0 - 1 else e0) :
    a * 2 ^ (-(e - 52)).toNat / (b * 2 ^ (e - 52).toNat) = dM a b ∧ (1075 - dW a b) = e + 1023 ∧ (a * 2 ^ (-(e - 52)).toNat % (b * 2 ^ (e - 52).toNat) = 0 ↔ dI a b = 1) := by
  have hT : dT a b = 53 - e0 := by unfold dT; omega
  have hY : 0 < dY a b := Nat.mul_pos (Nat.pos_of_ne_zero hb) (p2_pos _)
  have hcmp : dq a b < 9007199254740992 ↔ a * 2 ^ (-e0).toNat < b * 2 ^ e0.toNat := by
    unfold dq
    rw [Nat.div_lt_iff_lt_mul hY]
    unfold dX dY
    rw [hT]
    exact sh_cmp (by omega)
  have hI : dI a b = 1 ↔ (dX a b % dY a b = 0 ∧ (9007199254740992 ≤ dq a b → dq a b % 2 = 0)) := by
    unfold dI
    split
    · rename_i z; exact ⟨fun _ => z, fun _ => rfl⟩
    · rename_i z; exact ⟨fun w => absurd w (by decide), fun w => absurd w z⟩
  by_cases hc : a * 2 ^ (-e0).toNat < b * 2 ^ e0.toNat
  · rw [if_pos hc] at he
    have hq := hcmp.mpr hc
    have e1 : (-(e - 52)).toNat = (dT a b).toNat := by rw [hT]; omega
    have e2 : (e - 52).toNat = (-dT a b).toNat := by rw [hT]; omega
    rw [e1, e2, hI]
    refine ⟨?_, ?_, ?_⟩
    · unfold dM; rw [if_neg (by omega)]; rfl
    · unfold dW; rw [if_neg (by omega)]; omega
    · constructor
      · intro z; exact ⟨z, fun w => by omega⟩
      · intro z; exact z.1
  · rw [if_neg hc] at he
    have hq : 9007199254740992 ≤ dq a b := by
      rcases Nat.lt_or_ge (dq a b) 9007199254740992 with z | z
      · exact absurd (hcmp.mp z) hc
      · exact z
    have hh : (dX a b = 2 * (a * 2 ^ (-(e - 52)).toNat) ∧ dY a b = b * 2 ^ (e - 52).toNat) ∨ (dX a b = a * 2 ^ (-(e - 52)).toNat ∧ b * 2 ^ (e - 52).toNat = 2 * dY a b) := by
      unfold dX dY
      rw [hT]
      by_cases hk : 1 ≤ 53 - e0
      · refine Or.inl ⟨?_, ?_⟩
        · rw [show (53 - e0).toNat = (-(e - 52)).toNat + 1 by omega, Nat.pow_succ]
          simp only [Nat.mul_comm, Nat.mul_left_comm]
        · congr 2; omega
      · refine Or.inr ⟨?_, ?_⟩
        · congr 2; omega
        · rw [show (e - 52).toNat = (-(53 - e0)).toNat + 1 by omega, Nat.pow_succ]
          simp only [Nat.mul_comm, Nat.mul_left_comm]
    obtain ⟨d1, d2⟩ := dv_half hh hY
    rw [hI]
    refine ⟨?_, ?_, ?_⟩
    · rw [d1]; unfold dM; rw [if_pos hq]; rfl
    · unfold dW; rw [if_pos hq]; omega
    · rw [d2]
      constructor
      · intro z; exact ⟨z.1, fun _ => z.2⟩
      · intro z; exact ⟨z.1, z.2 hq⟩
theorem lN_subR {a b : Nat} (h : b ≤ a) : lN a - lN b = lN (a - b) := by
  have e : lN a = lN (a - b) + lN b := by rw [lN_add]; congr 1; omega
  rw [e, Int64.add_sub_cancel]
theorem dM_b {a b : Nat} (ha : a ≠ 0) (hb : b ≠ 0) : 4503599627370496 ≤ dM a b ∧ dM a b < 9007199254740992 := by
  have := dq_b ha hb
  unfold dM
  split <;> omega
theorem bl_le256 {v : Nat} (h : v < 4294967296 ^ 8) : bl v ≤ 256 := bl256.mpr h
theorem sh_lt {v k : Nat} (h : v < 4294967296 ^ 8) (hk : k ≤ 600) : v * 2 ^ k < 65536 ^ 56 := by
  have h1 := Nat.mul_lt_mul_of_pos_right h (p2_pos k)
  have h2 : 4294967296 ^ 8 * 2 ^ k ≤ 4294967296 ^ 8 * 2 ^ 600 := Nat.mul_le_mul_left _ (Nat.pow_le_pow_right (by decide) hk)
  have h3 : 4294967296 ^ 8 * 2 ^ 600 ≤ 65536 ^ 56 := by decide +kernel
  omega
theorem sh_lt2 {v k : Nat} (h : v < 4294967296 ^ 8) (hk : k ≤ 600) : 2 * (v * 2 ^ k) ≤ 65536 ^ 56 := by
  have h1 := sh_lt (k := k + 1) h
  by_cases h2 : k + 1 ≤ 600
  · have := h1 h2
    rw [Nat.pow_succ] at this
    have e : v * (2 ^ k * 2) = 2 * (v * 2 ^ k) := by rw [← Nat.mul_assoc, Nat.mul_comm]
    omega
  · have e : k = 600 := by omega
    rw [e]
    have h4 : 2 * (4294967296 ^ 8 * 2 ^ 600) ≤ 65536 ^ 56 := by decide +kernel
    have h5 := Nat.mul_le_mul_right (2 ^ 600) (Nat.le_of_lt h)
    omega
theorem c_Mo_real (l : Launch) {g : Gh} (nx : Nat) {P : Nat} {S : Sx} (hM : MW g P S) (hO : SOK S) (a e : Int32) : Ct l m_Mo_real 0 0 [.ref P, .int a, .int e] g nx (pM g P nx (spReal S a e)) := by
  obtain ⟨E0, t, ts, hV, hEQ⟩ := hM
  have h0 := hV.1
  obtain ⟨-, ⟨th, h1, h1'⟩, ⟨sn, A, B, h2, h3, h4, b4, b5, b6⟩, ⟨rm, h5, h5'⟩, -⟩ := id hV
  refine Ct.of (by decide) (Nat.le_of_ble_eq_true rfl) (fun E hE hQ => ?_)
  have out : ∀ lv, ¬ (inI a 0 15 ∧ inI e 0 1) → zJ E g nx 0 0 17 lv [] := by
    intro lv h
    refine z_ldc2 hE d_Mo_real_17 cn_Mo_181 ?_
    exact z_lret hE hQ d_Mo_real_20 rfl (by omega) (by omega) (pM_of (if_neg h) hV hEQ gW_r)
  refine z_iload_n hE d_Mo_real_0 rfl ?_
  refine z_callS hE d_Mo_real_1 cl_Mo_138 (c_Mo_isFraction l g nx a) rfl (Nat.le_of_ble_eq_true rfl) ⟨by decide, by decide⟩ ⟨by omega, by omega⟩ (fun r_1 g_1 nx_1 hp_1 => ?_) rfl
  obtain ⟨rfl, rfl, rfl⟩ := hp_1
  try dsimp only [Option.toList, List.nil_append, List.cons_append]
  by_cases ha : inI a 0 15
  case neg =>
    rw [if_neg ha]
    refine z_if_eq (tgt := 17) hE d_Mo_real_4 (by decide) (fun _ => ?_) (fun c_ => absurd c_ (by decide))
    exact out _ (fun q => ha q.1)
  rw [if_pos ha]
  refine z_if_eq (tgt := 17) hE d_Mo_real_4 (by decide) (fun c_ => absurd c_ (by decide)) (fun _ => ?_)
  refine z_iload_n hE d_Mo_real_7 rfl ?_
  refine z_i2l hE d_Mo_real_8 (rfl) ?_
  refine z_lconst (v := 0) hE d_Mo_real_9 (by decide) ?_
  refine z_lconst (v := 1) hE d_Mo_real_10 (by decide) ?_
  refine z_callS hE d_Mo_real_11 cl_Mo_125 (c_Mo_inI l g nx e 0 1 0 1 (by decide) (by decide)) rfl (Nat.le_of_ble_eq_true rfl) ⟨by decide, by decide⟩ ⟨by omega, by omega⟩ (fun r_11 g_11 nx_11 hp_11 => ?_) rfl
  obtain ⟨rfl, rfl, rfl⟩ := hp_11
  try dsimp only [Option.toList, List.nil_append, List.cons_append]
  by_cases he : inI e 0 1
  case neg =>
    rw [if_neg he]
    refine z_if_ne (tgt := 21) hE d_Mo_real_14 (by decide) (fun c_ => absurd c_ (by decide)) (fun _ => ?_)
    exact out _ (fun q => he q.2)
  rw [if_pos he]
  refine z_if_ne (tgt := 21) hE d_Mo_real_14 (by decide) (fun _ => ?_) (fun c_ => absurd c_ (by decide))
  obtain ⟨ea, za, ha2⟩ := fx_of ha (by omega) (by omega)
  obtain ⟨EEE, ze, he2⟩ := fx_of he (by omega) (by omega)
  refine z_aload_n hE d_Mo_real_21 rfl ?_
  refine z_get hE d_Mo_real_22 fl_Mo_7 (by assumption) rfl ?_
  refine z_iload_n hE d_Mo_real_25 rfl ?_
  rw [ea]
  refine z_zald hE d_Mo_real_26 (by assumption) (nI_in' (by omega : fx a < 58) (by omega)) ?_
  rw [nI_cl (by omega), h1' (fx a) (by omega), hEQ.1 (fx a) (by omega)]
  obtain ⟨x, hx⟩ | hx : (∃ x, S.1 (fx a) = some x) ∨ S.1 (fx a) = none := by cases S.1 (fx a); exact Or.inr rfl; exact Or.inl ⟨_, rfl⟩
  case inr =>
    rw [hx, show (none : Option Qf).isSome = false from rfl, if_neg (by decide)]
    refine z_if_ne (tgt := 37) hE d_Mo_real_27 (by decide) (fun c_ => absurd c_ (fun z => z rfl)) (fun _ => ?_)
    refine z_aload_n hE d_Mo_real_30 rfl ?_
    refine z_iconst (v := 1) hE d_Mo_real_31 (by decide) ?_
    refine z_callV hE d_Mo_real_32 cl_Mo_106 (c_Mo_fail l nx hV 1) (by assumption) cb_Mo rfl (Nat.le_of_ble_eq_true rfl) ⟨by decide, by decide⟩ ⟨by omega, by omega⟩ (fun r_9 g_9 nx_9 hp_9 => ?_) rfl
    try dsimp only [Option.toList, List.nil_append, List.cons_append]
    obtain ⟨rfl, rfl, V9, G9⟩ := hp_9
    try dsimp only [Option.toList, List.nil_append, List.cons_append]
    refine z_i2l hE d_Mo_real_35 (rfl) ?_
    refine z_lret hE hQ d_Mo_real_36 rfl (by omega) (by omega) (pM_of (S := sC S 1) ?_ V9 (EQS_c hEQ rfl rfl) (gW_t gW_r (g1_W G9 (by omega) (by omega))))
    unfold spReal; rw [if_pos ⟨ha, he⟩, hx]; rfl
  rw [hx, show (some x).isSome = true from rfl, if_pos rfl]
  refine z_if_ne (tgt := 37) hE d_Mo_real_27 (by decide) (fun _ => ?_) (fun c_ => absurd c_ (by decide))
  have kx := S_q hO (by omega) hx
  have ex := (hEQ.1 (fx a) (by omega)).trans hx
  have sx := (b6 (fx a) (by omega) x ex).1
  have hspec : spReal S a e = (.long (dbl x.1 x.2.1 x.2.2 (fx e)), sC S 0) := by unfold spReal; rw [if_pos ⟨ha, he⟩, hx]
  refine z_aload_n hE d_Mo_real_37 rfl ?_
  refine z_iconst (v := 0) hE d_Mo_real_38 (by decide) ?_
  refine z_put hE d_Mo_real_39 fl_Mo_50 ct_Mo ff_Mo_5 (by assumption) rfl rfl (Nat.le_of_ble_eq_true rfl) ?_
  have V1 := MV_put hV 0 S.2.2.2.2 ts
  obtain ⟨ga, hga⟩ : ∃ ga, ga = gS g P (oM P 0 S.2.2.2.2 ts) := ⟨_, rfl⟩
  have W1 : gW g (gS g P (oM P 0 S.2.2.2.2 ts)) P (P + 14) := gW_S (Nat.le_refl _) (by omega)
  show zJ E (gS g P (oM P 0 S.2.2.2.2 ts)) nx 0 0 42 _ []
  rw [← hga] at V1 W1 ⊢
  have m1 := V1.1
  obtain ⟨-, -, ⟨sn1, A1, B1, k2, -, -, -, -, k6⟩, -⟩ := id V1
  have sx1 := (k6 (fx a) (by omega) x ex).1
  have b1 := bl_le256 kx.2.1
  have b2 := bl_le256 kx.2.2
  refine z_aload_n hE d_Mo_real_42 rfl ?_
  refine z_get hE d_Mo_real_43 fl_Mo_13 (by assumption) rfl ?_
  refine z_iload_n hE d_Mo_real_46 rfl ?_
  refine z_iald hE d_Mo_real_47 (by assumption) (nI_in' (by omega : fx a < 58) (by omega)) ?_
  rw [nI_cl (by omega), sx1]
  by_cases x0 : x.1 = 0
  case pos =>
    refine z_if_ne (tgt := 53) hE d_Mo_real_48 (by decide) (fun c_ => absurd c_ (fun w => w x0)) (fun _ => ?_)
    refine z_lconst (v := (0 : Int64)) hE d_Mo_real_51 (by decide) ?_
    exact z_lret hE hQ d_Mo_real_52 rfl (by omega) (by omega) (pM_of (S := sC S 0) (by rw [hspec]; unfold dbl; rw [if_pos x0]) V1 (EQS_c hEQ rfl rfl) W1)
  refine z_if_ne (tgt := 53) hE d_Mo_real_48 (by decide) (fun _ => ?_) (fun c_ => absurd c_ (x0))
  have hxa := isS_n0 kx.1.1 x0
  have hxb : x.2.2 ≠ 0 := by have := kx.1.2.2; omega
  refine z_aload_n hE d_Mo_real_53 rfl ?_
  refine z_iload_n hE d_Mo_real_54 rfl ?_
  refine z_aload_n hE d_Mo_real_55 rfl ?_
  refine z_get hE d_Mo_real_56 fl_Mo_26 (by assumption) rfl ?_
  refine z_aload_n hE d_Mo_real_59 rfl ?_
  refine z_get hE d_Mo_real_60 fl_Mo_29 (by assumption) rfl ?_
  refine z_callV hE d_Mo_real_63 cl_Mo_119 (c_Mo_take l nx (i := 6) (j := 7) V1 (by omega) ex (by omega) (by omega) (by omega) (by omega) (by omega)) (by assumption) cb_Mo rfl (Nat.le_of_ble_eq_true rfl) ⟨by decide, by decide⟩ ⟨by omega, by omega⟩ (fun r_2 g_2 nx_2 hp_2 => ?_) rfl
  try dsimp only [Option.toList, List.nil_append, List.cons_append]
  obtain ⟨rfl, rfl, V2, G2⟩ := hp_2
  try dsimp only [Option.toList, List.nil_append, List.cons_append]
  have m2 := V2.1
  have W2 : gW g g_2 P (P + 14) := gW_t W1 (g2_W G2 (by omega) (by omega) (by omega) (by omega))
  have A6 : MA g_2 (P + 6) x.2.1 := MV_m V2 6 (by omega) (by omega)
  have A7 : MA g_2 (P + 7) x.2.2 := MV_m V2 7 (by omega) (by omega)
  refine z_aload_n hE d_Mo_real_66 rfl ?_
  refine z_get hE d_Mo_real_67 fl_Mo_26 (by assumption) rfl ?_
  refine z_callS hE d_Mo_real_70 cl_Mo_65 (c_Mo_bitsOf l nx A6) rfl (Nat.le_of_ble_eq_true rfl) ⟨by decide, by decide⟩ ⟨by omega, by omega⟩ (fun r_70 g_70 nx_70 hp_70 => ?_) rfl
  obtain ⟨rfl, rfl, rfl⟩ := hp_70
  try dsimp only [Option.toList, List.nil_append, List.cons_append]
  refine z_aload_n hE d_Mo_real_73 rfl ?_
  refine z_get hE d_Mo_real_74 fl_Mo_29 (by assumption) rfl ?_
  refine z_callS hE d_Mo_real_77 cl_Mo_65 (c_Mo_bitsOf l nx A7) rfl (Nat.le_of_ble_eq_true rfl) ⟨by decide, by decide⟩ ⟨by omega, by omega⟩ (fun r_77 g_77 nx_77 hp_77 => ?_) rfl
  obtain ⟨rfl, rfl, rfl⟩ := hp_77
  try dsimp only [Option.toList, List.nil_append, List.cons_append]
  refine z_isub hE d_Mo_real_80 (rfl) ?_
  obtain ⟨z0, hz0⟩ : ∃ z0, nI (bl x.2.1) - nI (bl x.2.2) = z0 := ⟨_, rfl⟩
  have ez0 : z0.toInt = (bl x.2.1 : Int) - bl x.2.2 := by rw [← hz0]; exact pk_sub_toInt (by omega) (by omega)
  rw [hz0]
  refine z_istore_n hE d_Mo_real_81 rfl (by decide) ?_
  refine z_aload_n hE d_Mo_real_82 rfl ?_
  refine z_iload_n hE d_Mo_real_83 rfl ?_
  refine z_callV hE d_Mo_real_84 cl_Mo_197 (c_Mo_shiftBoth l nx V2 z0 (by omega) (by show x.2.1 * _ < _; exact sh_lt kx.2.1 (by omega)) (by show x.2.2 * _ < _; exact sh_lt kx.2.2 (by omega))) (by assumption) cb_Mo rfl (Nat.le_of_ble_eq_true rfl) ⟨by decide, by decide⟩ ⟨by omega, by omega⟩ (fun r_3 g_3 nx_3 hp_3 => ?_) rfl
  try dsimp only [Option.toList, List.nil_append, List.cons_append]
  obtain ⟨rfl, rfl, V3, G3⟩ := hp_3
  try dsimp only [Option.toList, List.nil_append, List.cons_append]
  have m3 := V3.1
  have W3 : gW g g_3 P (P + 14) := gW_t W2 (g2_W G3 (by omega) (by omega) (by omega) (by omega))
  have B6 : MA g_3 (P + 6) (x.2.1 * 2 ^ (-z0.toInt).toNat) := MV_m V3 6 (by omega) (by omega)
  have B7 : MA g_3 (P + 7) (x.2.2 * 2 ^ z0.toInt.toNat) := MV_m V3 7 (by omega) (by omega)
  obtain ⟨t3, ht3⟩ : ∃ t3, MV g_3 P E0 S.2.1 0 S.2.2.2.2 ts t3 := ⟨_, V3⟩
  clear V3
  refine z_iload_n hE d_Mo_real_87 rfl ?_
  refine z_aload_n hE d_Mo_real_88 rfl ?_
  refine z_get hE d_Mo_real_89 fl_Mo_26 (by assumption) rfl ?_
  refine z_aload_n hE d_Mo_real_92 rfl ?_
  refine z_get hE d_Mo_real_93 fl_Mo_29 (by assumption) rfl ?_
  refine z_callS hE d_Mo_real_96 cl_Mo_69 (c_Mo_compared l nx B6 B7) rfl (Nat.le_of_ble_eq_true rfl) ⟨by decide, by decide⟩ ⟨by omega, by omega⟩ (fun r_96 g_96 nx_96 hp_96 => ?_) rfl
  obtain ⟨rfl, rfl, rfl⟩ := hp_96
  try dsimp only [Option.toList, List.nil_append, List.cons_append]
  obtain ⟨ee, hee⟩ : ∃ ee : Int, ee = (if x.2.1 * 2 ^ (-z0.toInt).toNat < x.2.2 * 2 ^ z0.toInt.toNat then z0.toInt - 1 else z0.toInt) := ⟨_, rfl⟩
  obtain ⟨r1, r2, r3⟩ := real_eq hxa hxb ez0 hee
  have hMb := dM_b hxa hxb
  have after : ∀ (z : Int32) lv, z.toInt = ee → lG lv 0 = some (.ref P) → lG lv 1 = some (.int (nI (fx a))) → lG lv 2 = some (.int (nI (fx e))) → zJ E g_3 nx 0 0 108 lv [.int z] := by
    intro z lv hz l0 l1 l2
    refine z_sub (lv' := [(0, .ref P), (1, .int (nI (fx a))), (2, .int (nI (fx e)))]) (by simp only [List.map, l0, l1, l2]) ?_
    have bee : -260 ≤ ee ∧ ee ≤ 260 := by rw [hee]; split <;> omega
    refine z_istore_n hE d_Mo_real_108 rfl (by decide) ?_
    refine z_aload_n hE d_Mo_real_109 rfl ?_
    refine z_iload_n hE d_Mo_real_110 rfl ?_
    refine z_aload_n hE d_Mo_real_111 rfl ?_
    refine z_get hE d_Mo_real_112 fl_Mo_26 (by assumption) rfl ?_
    refine z_aload_n hE d_Mo_real_115 rfl ?_
    refine z_get hE d_Mo_real_116 fl_Mo_29 (by assumption) rfl ?_
    refine z_callV hE d_Mo_real_119 cl_Mo_119 (c_Mo_take l nx (i := 6) (j := 7) ht3 (by omega) ex (by omega) (by omega) (by omega) (by omega) (by omega)) (by assumption) cb_Mo rfl (Nat.le_of_ble_eq_true rfl) ⟨by decide, by decide⟩ ⟨by omega, by omega⟩ (fun r_4 g_4 nx_4 hp_4 => ?_) rfl
    try dsimp only [Option.toList, List.nil_append, List.cons_append]
    obtain ⟨rfl, rfl, V4, G4⟩ := hp_4
    try dsimp only [Option.toList, List.nil_append, List.cons_append]
    have m4 := V4.1
    have W4 : gW g g_4 P (P + 14) := gW_t W3 (g2_W G4 (by omega) (by omega) (by omega) (by omega))
    refine z_aload_n hE d_Mo_real_122 rfl ?_
    refine z_iload_n hE d_Mo_real_123 rfl ?_
    refine z_bipush (v := nI 52) hE d_Mo_real_124 (by decide) ?_
    refine z_isub hE d_Mo_real_126 (rfl) ?_
    have ez : (z - nI 52).toInt = ee - 52 := by
      rw [Int32.toInt_sub, hz, nI_ti (by omega)]; exact Int.bmod_eq_of_le (by omega) (by omega)
    refine z_callV hE d_Mo_real_127 cl_Mo_197 (c_Mo_shiftBoth l nx V4 (z - nI 52) (by omega) (by rw [ez]; show x.2.1 * _ < _; exact sh_lt kx.2.1 (by omega)) (by rw [ez]; show x.2.2 * _ < _; exact sh_lt kx.2.2 (by omega))) (by assumption) cb_Mo rfl (Nat.le_of_ble_eq_true rfl) ⟨by decide, by decide⟩ ⟨by omega, by omega⟩ (fun r_5 g_5 nx_5 hp_5 => ?_) rfl
    try dsimp only [Option.toList, List.nil_append, List.cons_append]
    obtain ⟨rfl, rfl, V5, G5⟩ := hp_5
    try dsimp only [Option.toList, List.nil_append, List.cons_append]
    have m5 := V5.1
    have W5 : gW g g_5 P (P + 14) := gW_t W4 (g2_W G5 (by omega) (by omega) (by omega) (by omega))
    rw [ez] at V5
    obtain ⟨t5, ht5⟩ : ∃ t5, t5 = upN (upN (upN (upN t3 6 x.2.1) 7 x.2.2) 6 (x.2.1 * 2 ^ (-(ee - 52)).toNat)) 7 (x.2.2 * 2 ^ (ee - 52).toNat) := ⟨_, rfl⟩
    have V5 : MV g_5 P E0 S.2.1 0 S.2.2.2.2 ts t5 := by rw [ht5]; exact V5
    have q6 : t5 6 = x.2.1 * 2 ^ (-(ee - 52)).toNat := by rw [ht5]; rfl
    have q7 : t5 7 = x.2.2 * 2 ^ (ee - 52).toNat := by rw [ht5]; rfl
    refine z_aload_n hE d_Mo_real_130 rfl ?_
    refine z_aload_n hE d_Mo_real_131 rfl ?_
    refine z_get hE d_Mo_real_132 fl_Mo_26 (by assumption) rfl ?_
    refine z_aload_n hE d_Mo_real_135 rfl ?_
    refine z_get hE d_Mo_real_136 fl_Mo_29 (by assumption) rfl ?_
    refine z_callV hE d_Mo_real_139 cl_Mo_96 (c_Mo_divide l nx (i := 6) (j := 7) V5 (by omega) (by omega) (by omega) (by omega) (by rw [q7]; exact Nat.mul_pos kx.1.2.2 (p2_pos _)) (by rw [q7]; exact sh_lt2 kx.2.2 (by omega))) (by assumption) cb_Mo rfl (Nat.le_of_ble_eq_true rfl) ⟨by decide, by decide⟩ ⟨by omega, by omega⟩ (fun r_6 g_6 nx_6 hp_6 => ?_) rfl
    try dsimp only [Option.toList, List.nil_append, List.cons_append]
    obtain ⟨rfl, rfl, V6, G6⟩ := hp_6
    try dsimp only [Option.toList, List.nil_append, List.cons_append]
    have m6 := V6.1
    have W6 : gW g g_6 P (P + 14) := gW_t W5 (g2_W G6 (by omega) (by omega) (by omega) (by omega))
    rw [q6, q7, r1] at V6
    obtain ⟨RR, hRR⟩ : ∃ RR, x.2.1 * 2 ^ (-(ee - 52)).toNat % (x.2.2 * 2 ^ (ee - 52).toNat) = RR := ⟨_, rfl⟩
    rw [hRR] at V6 r3
    have C12 : MA g_6 (P + 12) (dM x.2.1 x.2.2) := MV_m V6 12 (by omega) (by omega)
    have C13 : MA g_6 (P + 13) RR := MV_m V6 13 (by omega) (by omega)
    obtain ⟨d, hd, hdQ⟩ := id C12
    have hd1 := hd.1
    obtain ⟨-, -, ⟨sn6, A6', B6', j2, -, -, -, -, j6⟩, -⟩ := id V6
    have sx6 := (j6 (fx a) (by omega) x ex).1
    have hw4 : w16 d 4 = dM x.2.1 x.2.2 := by
      have h := w16_mod (d := d) hd.2 (n := 4) (m := 52)
      rw [show 4 + 52 = 56 from rfl, hdQ, show (65536 : Nat) ^ 4 = 18446744073709551616 by decide, Nat.mod_eq_of_lt (by omega)] at h
      exact h.symm
    -- the bits
    have bits : ∀ (u : Nat) lv, u = dU x.1 x.2.1 x.2.2 (fx e) → lG lv 0 = some (.ref P) → lG lv 1 = some (.int (nI (fx a))) → lG lv 3 = some (.int z) → lG lv 4 = some (.long (lN (dM x.2.1 x.2.2))) → lG lv 6 = some (.int (nI u)) → zJ E g_6 nx 0 0 219 lv [] := by
      intro u lv hu l0 l1 l3 l4 l6
      refine z_sub (lv' := [(0, .ref P), (1, .int (nI (fx a))), (3, .int z), (4, .long (lN (dM x.2.1 x.2.2))), (6, .int (nI u))]) (by simp only [List.map, l0, l1, l3, l4, l6]) ?_
      have hu1 : u ≤ 1 := by rw [hu]; unfold dU; split <;> omega
      have ezl : z.toInt64 + 1023 = lN (1075 - dW x.2.1 x.2.2).toNat := by
        rw [r2, ← Int64.toInt_inj, Int64.toInt_add, Int32.toInt_toInt64, hz, show (1023 : Int64).toInt = 1023 by decide, lN_toInt (by omega)]
        rw [Int.bmod_eq_of_le (by omega) (by omega)]; omega
      have fin : ∀ lv, lG lv 0 = some (.ref P) → lG lv 1 = some (.int (nI (fx a))) → zJ E g_6 nx 0 0 245 lv [.long (lN u), .long (lN (dB x.2.1 x.2.2))] := by
        intro lv l0 l1
        refine z_sub (lv' := [(0, .ref P), (1, .int (nI (fx a)))]) (by simp only [List.map, l0, l1]) ?_
        refine z_ladd (v := lN (dB x.2.1 x.2.2 + u)) hE d_Mo_real_245 (lN_add _ _) ?_
        refine z_lstore hE d_Mo_real_246 (by decide) ?_
        refine z_aload_n hE d_Mo_real_248 rfl ?_
        refine z_get hE d_Mo_real_249 fl_Mo_13 (by assumption) rfl ?_
        refine z_iload_n hE d_Mo_real_252 rfl ?_
        refine z_iald hE d_Mo_real_253 (by assumption) (nI_in' (by omega : fx a < 58) (by omega)) ?_
        rw [nI_cl (by omega), sx6]
        by_cases hpos : 0 < x.1
        · refine z_if_le (tgt := 262) hE d_Mo_real_254 (by decide) (fun c_ => absurd c_ (fun w => i32_lt0.mpr hpos w)) (fun _ => ?_)
          refine z_lload hE d_Mo_real_257 rfl ?_
          refine z_goto (tgt := 268) hE d_Mo_real_259 (by decide) ?_
          refine z_lret hE hQ d_Mo_real_268 rfl (by omega) (by omega) (pM_of (S := sC S 0) ?_ V6 (EQS_c hEQ rfl rfl) W6)
          rw [hspec, hu]; unfold dbl
          rw [if_neg x0, if_neg (fun w => by rw [Int32.lt_iff_toInt_lt] at w hpos; omega)]
        · refine z_if_le (tgt := 262) hE d_Mo_real_254 (by decide) (fun _ => ?_) (fun c_ => absurd c_ (fun w => hpos (i32_lt0.mp w)))
          refine z_lload hE d_Mo_real_262 rfl ?_
          refine z_ldc2 hE d_Mo_real_264 cn_Mo_183 ?_
          refine z_lor hE d_Mo_real_267 (rfl) ?_
          have hneg : x.1 < 0 := by
            rcases kx.1.1 with z | z | z
            · exact absurd z.1 x0
            · rw [z.1] at hpos; exact absurd (by decide) hpos
            · rw [z.1]; decide
          refine z_lret hE hQ d_Mo_real_268 rfl (by omega) (by omega) (pM_of (S := sC S 0) ?_ V6 (EQS_c hEQ rfl rfl) W6)
          rw [hspec, hu]; unfold dbl
          rw [if_neg x0, if_pos hneg]
      refine z_iload_n hE d_Mo_real_219 rfl ?_
      refine z_i2l hE d_Mo_real_220 (rfl) ?_
      refine z_ldc2 hE d_Mo_real_221 cn_Mo_201 ?_
      refine z_ladd (v := lN (1075 - dW x.2.1 x.2.2).toNat) hE d_Mo_real_224 (ezl) ?_
      refine z_bipush (v := nI 52) hE d_Mo_real_225 (by decide) ?_
      refine z_lshl (v := lN ((1075 - dW x.2.1 x.2.2).toNat * 4503599627370496)) hE d_Mo_real_227 (wb_shl (k := 52) _ (by decide)) ?_
      refine z_lload hE d_Mo_real_228 rfl ?_
      refine z_ldc2 hE d_Mo_real_230 cn_Mo_203 ?_
      refine z_lsub (v := lN (dM x.2.1 x.2.2 - 4503599627370496)) hE d_Mo_real_233 (lN_subR hMb.1) ?_
      refine z_ladd (v := lN (dB x.2.1 x.2.2)) hE d_Mo_real_234 (lN_add _ _) ?_
      refine z_iload hE d_Mo_real_235 rfl ?_
      rcases (by omega : u = 0 ∨ u = 1) with q | q
      · subst q
        refine z_if_eq (tgt := 244) hE d_Mo_real_237 (by decide) (fun _ => ?_) (fun c_ => absurd c_ (fun w => w rfl))
        refine z_lconst (v := lN 0) hE d_Mo_real_244 (by decide) ?_
        exact fin _ rfl rfl
      · subst q
        refine z_if_eq (tgt := 244) hE d_Mo_real_237 (by decide) (fun c_ => absurd c_ (by decide)) (fun _ => ?_)
        refine z_lconst (v := lN 1) hE d_Mo_real_240 (by decide) ?_
        refine z_goto (tgt := 245) hE d_Mo_real_241 (by decide) ?_
        exact fin _ rfl rfl
    -- is it up
    have isup : ∀ lv, lG lv 0 = some (.ref P) → lG lv 1 = some (.int (nI (fx a))) → lG lv 2 = some (.int (nI (fx e))) → lG lv 3 = some (.int z) → lG lv 4 = some (.long (lN (dM x.2.1 x.2.2))) → zJ E g_6 nx 0 0 175 lv [] := by
      intro lv l0 l1 l2 l3 l4
      refine z_sub (lv' := [(0, .ref P), (1, .int (nI (fx a))), (2, .int (nI (fx e))), (3, .int z), (4, .long (lN (dM x.2.1 x.2.2)))]) (by simp only [List.map, l0, l1, l2, l3, l4]) ?_
      have yes : ∀ lv, ((x.1 < 0 ↔ fx e = 0) ∧ dI x.2.1 x.2.2 = 0) → lG lv 0 = some (.ref P) → lG lv 1 = some (.int (nI (fx a))) → lG lv 3 = some (.int z) → lG lv 4 = some (.long (lN (dM x.2.1 x.2.2))) → zJ E g_6 nx 0 0 212 lv [] := by
        intro lv h l0 l1 l3 l4
        refine z_sub (lv' := [(0, .ref P), (1, .int (nI (fx a))), (3, .int z), (4, .long (lN (dM x.2.1 x.2.2)))]) (by simp only [List.map, l0, l1, l3, l4]) ?_
        refine z_iconst (v := nI 1) hE d_Mo_real_212 (by decide) ?_
        refine z_goto (tgt := 217) hE d_Mo_real_213 (by decide) ?_
        refine z_istore hE d_Mo_real_217 (by decide) ?_
        exact bits 1 _ (by unfold dU; rw [if_pos h]) rfl rfl rfl rfl rfl
      have no : ∀ lv, ¬ ((x.1 < 0 ↔ fx e = 0) ∧ dI x.2.1 x.2.2 = 0) → lG lv 0 = some (.ref P) → lG lv 1 = some (.int (nI (fx a))) → lG lv 3 = some (.int z) → lG lv 4 = some (.long (lN (dM x.2.1 x.2.2))) → zJ E g_6 nx 0 0 216 lv [] := by
        intro lv h l0 l1 l3 l4
        refine z_sub (lv' := [(0, .ref P), (1, .int (nI (fx a))), (3, .int z), (4, .long (lN (dM x.2.1 x.2.2)))]) (by simp only [List.map, l0, l1, l3, l4]) ?_
        refine z_iconst (v := nI 0) hE d_Mo_real_216 (by decide) ?_
        refine z_istore hE d_Mo_real_217 (by decide) ?_
        exact bits 0 _ (by unfold dU; rw [if_neg h]) rfl rfl rfl rfl rfl
      have dI01 : dI x.2.1 x.2.2 = 0 ∨ dI x.2.1 x.2.2 = 1 := by unfold dI; split; exact Or.inr rfl; exact Or.inl rfl
      refine z_aload_n hE d_Mo_real_175 rfl ?_
      refine z_get hE d_Mo_real_176 fl_Mo_47 (by assumption) rfl ?_
      refine z_callS hE d_Mo_real_179 cl_Mo_77 (c_Mo_isZero l nx C13) rfl (Nat.le_of_ble_eq_true rfl) ⟨by decide, by decide⟩ ⟨by omega, by omega⟩ (fun r_179 g_179 nx_179 hp_179 => ?_) rfl
      obtain ⟨rfl, rfl, rfl⟩ := hp_179
      try dsimp only [Option.toList, List.nil_append, List.cons_append]
      by_cases hR0 : RR = 0
      · rw [if_pos hR0]
        refine z_if_ne (tgt := 216) hE d_Mo_real_182 (by decide) (fun _ => ?_) (fun c_ => absurd c_ (by decide))
        exact no _ (fun w => by have := r3.mp hR0; omega) rfl rfl rfl rfl
      · rw [if_neg hR0]
        have hI0 : dI x.2.1 x.2.2 = 0 := dI01.resolve_right (fun w => hR0 (r3.mpr w))
        have hsg : x.1 < 0 ↔ ¬ 0 < x.1 := by
          rcases kx.1.1 with z | z | z
          · exact absurd z.1 x0
          · rw [z.1]; decide
          · rw [z.1]; decide
        refine z_if_ne (tgt := 216) hE d_Mo_real_182 (by decide) (fun c_ => absurd c_ (by decide)) (fun _ => ?_)
        have cmp2 : ∀ (z1 z2 : Int32) lv, z1 = (if fx e = 1 then 1 else 0) → z2 = (if 0 < x.1 then 1 else 0) → lG lv 0 = some (.ref P) → lG lv 1 = some (.int (nI (fx a))) → lG lv 3 = some (.int z) → lG lv 4 = some (.long (lN (dM x.2.1 x.2.2))) → zJ E g_6 nx 0 0 209 lv [.int z2, .int z1] := by
          intro z1 z2 lv hz1 hz2 l0 l1 l3 l4
          refine z_sub (lv' := [(0, .ref P), (1, .int (nI (fx a))), (3, .int z), (4, .long (lN (dM x.2.1 x.2.2)))]) (by simp only [List.map, l0, l1, l3, l4]) ?_
          by_cases h1 : fx e = 1 <;> by_cases h2 : 0 < x.1
          · rw [hz1, hz2, if_pos h1, if_pos h2]
            refine z_icmp_ne (tgt := 216) hE d_Mo_real_209 (by decide) (fun c_ => absurd c_ (fun w => w rfl)) (fun _ => ?_)
            exact yes _ ⟨⟨fun w => absurd h2 (hsg.mp w), fun w => by omega⟩, hI0⟩ rfl rfl rfl rfl
          · rw [hz1, hz2, if_pos h1, if_neg h2]
            refine z_icmp_ne (tgt := 216) hE d_Mo_real_209 (by decide) (fun _ => ?_) (fun c_ => absurd c_ (by decide))
            exact no _ (fun w => by have := w.1.mp (hsg.mpr h2); omega) rfl rfl rfl rfl
          · rw [hz1, hz2, if_neg h1, if_pos h2]
            refine z_icmp_ne (tgt := 216) hE d_Mo_real_209 (by decide) (fun _ => ?_) (fun c_ => absurd c_ (by decide))
            exact no _ (fun w => (hsg.mp (w.1.mpr (by omega))) h2) rfl rfl rfl rfl
          · rw [hz1, hz2, if_neg h1, if_neg h2]
            refine z_icmp_ne (tgt := 216) hE d_Mo_real_209 (by decide) (fun c_ => absurd c_ (fun w => w rfl)) (fun _ => ?_)
            exact yes _ ⟨⟨fun _ => by omega, fun _ => hsg.mpr h2⟩, hI0⟩ rfl rfl rfl rfl
        have sg2 : ∀ (z1 : Int32) lv, z1 = (if fx e = 1 then 1 else 0) → lG lv 0 = some (.ref P) → lG lv 1 = some (.int (nI (fx a))) → lG lv 3 = some (.int z) → lG lv 4 = some (.long (lN (dM x.2.1 x.2.2))) → zJ E g_6 nx 0 0 195 lv [.int z1] := by
          intro z1 lv hz1 l0 l1 l3 l4
          refine z_sub (lv' := [(0, .ref P), (1, .int (nI (fx a))), (3, .int z), (4, .long (lN (dM x.2.1 x.2.2)))]) (by simp only [List.map, l0, l1, l3, l4]) ?_
          refine z_aload_n hE d_Mo_real_195 rfl ?_
          refine z_get hE d_Mo_real_196 fl_Mo_13 (by assumption) rfl ?_
          refine z_iload_n hE d_Mo_real_199 rfl ?_
          refine z_iald hE d_Mo_real_200 (by assumption) (nI_in' (by omega : fx a < 58) (by omega)) ?_
          rw [nI_cl (by omega), sx6]
          by_cases h2 : 0 < x.1
          · refine z_if_le (tgt := 208) hE d_Mo_real_201 (by decide) (fun c_ => absurd c_ (fun w => i32_lt0.mpr h2 w)) (fun _ => ?_)
            refine z_iconst (v := 1) hE d_Mo_real_204 (by decide) ?_
            refine z_goto (tgt := 209) hE d_Mo_real_205 (by decide) ?_
            exact cmp2 z1 1 _ hz1 (by rw [if_pos h2]) rfl rfl rfl rfl
          · refine z_if_le (tgt := 208) hE d_Mo_real_201 (by decide) (fun _ => ?_) (fun c_ => absurd c_ (fun w => h2 (i32_lt0.mp w)))
            refine z_iconst (v := 0) hE d_Mo_real_208 (by decide) ?_
            exact cmp2 z1 0 _ hz1 (by rw [if_neg h2]) rfl rfl rfl rfl
        refine z_iload_n hE d_Mo_real_185 rfl ?_
        refine z_iconst (v := nI 1) hE d_Mo_real_186 (by decide) ?_
        by_cases h1 : fx e = 1
        · refine z_icmp_ne (tgt := 194) hE d_Mo_real_187 (by decide) (fun c_ => absurd c_ (fun w => w (by rw [h1]))) (fun _ => ?_)
          refine z_iconst (v := 1) hE d_Mo_real_190 (by decide) ?_
          refine z_goto (tgt := 195) hE d_Mo_real_191 (by decide) ?_
          exact sg2 1 _ (by rw [if_pos h1]) rfl rfl rfl rfl
        · refine z_icmp_ne (tgt := 194) hE d_Mo_real_187 (by decide) (fun _ => ?_) (fun c_ => absurd c_ (fun w => h1 ((nI_EQ (by omega) (by omega)).mp w)))
          refine z_iconst (v := 0) hE d_Mo_real_194 (by decide) ?_
          exact sg2 0 _ (by rw [if_neg h1]) rfl rfl rfl rfl
    -- the mantissa
    have loop : ∀ (m : Nat) (w : Int32), w.toInt = (m : Int) - 1 → m ≤ 4 → ∀ lv, lG lv 0 = some (.ref P) → lG lv 1 = some (.int (nI (fx a))) → lG lv 2 = some (.int (nI (fx e))) → lG lv 3 = some (.int z) → lG lv 4 = some (.long (lN (w16 d 4 / 65536 ^ m))) → lG lv 6 = some (.int w) → zJ E g_6 nx 0 0 148 lv [] := by
      intro m
      induction m with
      | zero =>
        intro w hw hm lv l0 l1 l2 l3 l4 l6
        refine z_sub (lv' := [(0, .ref P), (1, .int (nI (fx a))), (2, .int (nI (fx e))), (3, .int z), (4, .long (lN (w16 d 4 / 65536 ^ 0))), (6, .int w)]) (by simp only [List.map, l0, l1, l2, l3, l4, l6]) ?_
        rw [Nat.pow_zero, Nat.div_one, hw4]
        refine z_iload hE d_Mo_real_148 rfl ?_
        refine z_if_lt (tgt := 175) hE d_Mo_real_150 (by decide) (fun _ => ?_) (fun c_ => absurd c_ (fun y => y (i_lt0.mpr (by omega))))
        exact isup _ rfl rfl rfl rfl rfl
      | succ k ih =>
        intro w hw hm lv l0 l1 l2 l3 l4 l6
        have hwk : w = nI k := i_ge (by omega) (by omega)
        subst hwk
        refine z_sub (lv' := [(0, .ref P), (1, .int (nI (fx a))), (2, .int (nI (fx e))), (3, .int z), (4, .long (lN (w16 d 4 / 65536 ^ (k + 1)))), (6, .int (nI k))]) (by simp only [List.map, l0, l1, l2, l3, l4, l6]) ?_
        obtain ⟨e1, e2⟩ := w4_step hd.2 (k := k) (by omega)
        have hdk := hd.2 k
        refine z_iload hE d_Mo_real_148 rfl ?_
        refine z_if_lt (tgt := 175) hE d_Mo_real_150 (by decide) (fun c_ => absurd c_ (fun y => absurd (i_lt0.mp y) (by omega))) (fun _ => ?_)
        refine z_lload hE d_Mo_real_153 rfl ?_
        refine z_bipush (v := nI 16) hE d_Mo_real_155 (by decide) ?_
        refine z_lshl (v := lN (w16 d 4 / 65536 ^ (k + 1) * 65536)) hE d_Mo_real_157 (wb_shl (k := 16) _ (by decide)) ?_
        refine z_aload_n hE d_Mo_real_158 rfl ?_
        refine z_get hE d_Mo_real_159 fl_Mo_44 (by assumption) rfl ?_
        refine z_iload hE d_Mo_real_162 rfl ?_
        refine z_iald hE d_Mo_real_164 (by assumption) (nI_in' (by omega : k < 56) (by omega)) ?_
        rw [nI_cl (by omega)]
        refine z_i2l (v := lN (d k)) hE d_Mo_real_165 (nI_l (by omega)) ?_
        refine z_lor (v := lN (w16 d 4 / 65536 ^ k)) hE d_Mo_real_166 (by rw [l_or16b hdk e2, e1]) ?_
        refine z_lstore hE d_Mo_real_167 (by decide) ?_
        refine z_iinc hE d_Mo_real_169 rfl (rfl) (by decide) ?_
        refine z_goto (tgt := 148) hE d_Mo_real_172 (by decide) ?_
        exact ih _ (by show (nI k + (-1)).toInt = _; rw [i_m1I (by rw [nI_ti (by omega)]; omega) (by rw [nI_ti (by omega)]; omega), nI_ti (by omega)]) (by omega) _ rfl rfl rfl rfl rfl rfl
    refine z_lconst (v := lN 0) hE d_Mo_real_142 (by decide) ?_
    refine z_lstore hE d_Mo_real_143 (by decide) ?_
    refine z_iconst (v := nI 3) hE d_Mo_real_145 (by decide) ?_
    refine z_istore hE d_Mo_real_146 (by decide) ?_
    exact loop 4 (nI 3) (by rw [nI_ti (by omega)]; rfl) (by omega) _ rfl rfl rfl rfl (by rw [Nat.div_eq_of_lt (w16_lt hd.2 4)]; rfl) rfl
  by_cases hc : x.2.1 * 2 ^ (-z0.toInt).toNat < x.2.2 * 2 ^ z0.toInt.toNat
  · rw [show cmpN (x.2.1 * 2 ^ (-z0.toInt).toNat) (x.2.2 * 2 ^ z0.toInt.toNat) = -1 from if_pos hc]
    refine z_if_ge (tgt := 106) hE d_Mo_real_99 (by decide) (fun c_ => absurd c_ (by decide)) (fun _ => ?_)
    refine z_iconst (v := nI 1) hE d_Mo_real_102 (by decide) ?_
    refine z_goto (tgt := 107) hE d_Mo_real_103 (by decide) ?_
    refine z_isub hE d_Mo_real_107 (rfl) ?_
    refine after _ _ ?_ rfl rfl (by rw [← EEE]; rfl)
    rw [hee, if_pos hc, i_sub1 rfl (by omega) (by omega)]
  · have hcm : 0 ≤ cmpN (x.2.1 * 2 ^ (-z0.toInt).toNat) (x.2.2 * 2 ^ z0.toInt.toNat) := by unfold cmpN; rw [if_neg hc]; split <;> decide
    refine z_if_ge (tgt := 106) hE d_Mo_real_99 (by decide) (fun _ => ?_) (fun c_ => absurd c_ (fun w => w hcm))
    refine z_iconst (v := 0) hE d_Mo_real_106 (by decide) ?_
    refine z_isub hE d_Mo_real_107 (rfl) ?_
    refine after _ _ ?_ rfl rfl (by rw [← EEE]; rfl)
    rw [hee, if_neg hc, Int32.sub_zero]

