/-! the reference: rows -/
theorem d_Mo_placeOf_0 : decode b_Mo_placeOf 0 = .ok (.bipush 16, 2) := by decide +kernel
theorem d_Mo_placeOf_2 : decode b_Mo_placeOf 2 = .ok (.bipush 10, 2) := by decide +kernel
theorem d_Mo_placeOf_4 : decode b_Mo_placeOf 4 = .ok (.iload_n 0, 1) := by decide +kernel
theorem d_Mo_placeOf_5 : decode b_Mo_placeOf 5 = .ok (.imul, 1) := by decide +kernel
theorem d_Mo_placeOf_6 : decode b_Mo_placeOf 6 = .ok (.iadd, 1) := by decide +kernel
theorem d_Mo_placeOf_7 : decode b_Mo_placeOf 7 = .ok (.iload_n 1, 1) := by decide +kernel
theorem d_Mo_placeOf_8 : decode b_Mo_placeOf 8 = .ok (.iadd, 1) := by decide +kernel
theorem d_Mo_placeOf_9 : decode b_Mo_placeOf 9 = .ok (.ireturn, 1) := by decide +kernel
theorem d_Mo_row_0 : decode b_Mo_row 0 = .ok (.iload_n 1, 1) := by decide +kernel
theorem d_Mo_row_1 : decode b_Mo_row 1 = .ok (.invokestatic 221, 3) := by decide +kernel
theorem d_Mo_row_4 : decode b_Mo_row 4 = .ok (.ifCond .eq 9, 3) := by decide +kernel
theorem d_Mo_row_7 : decode b_Mo_row 7 = .ok (.iload_n 2, 1) := by decide +kernel
theorem d_Mo_row_8 : decode b_Mo_row 8 = .ok (.bipush 10, 2) := by decide +kernel
theorem d_Mo_row_10 : decode b_Mo_row 10 = .ok (.if_icmp .le 6, 3) := by decide +kernel
theorem d_Mo_row_13 : decode b_Mo_row 13 = .ok (.ldc 141, 2) := by decide +kernel
theorem d_Mo_row_15 : decode b_Mo_row 15 = .ok (.ireturn, 1) := by decide +kernel
theorem d_Mo_row_16 : decode b_Mo_row 16 = .ok (.iload_n 2, 1) := by decide +kernel
theorem d_Mo_row_17 : decode b_Mo_row 17 = .ok (.ifCond .ge 9, 3) := by decide +kernel
theorem d_Mo_row_20 : decode b_Mo_row 20 = .ok (.aload_n 0, 1) := by decide +kernel
theorem d_Mo_row_21 : decode b_Mo_row 21 = .ok (.iconst 4, 1) := by decide +kernel
theorem d_Mo_row_22 : decode b_Mo_row 22 = .ok (.invokevirtual 106, 3) := by decide +kernel
theorem d_Mo_row_25 : decode b_Mo_row 25 = .ok (.ireturn, 1) := by decide +kernel
theorem d_Mo_row_26 : decode b_Mo_row 26 = .ok (.aload_n 0, 1) := by decide +kernel
theorem d_Mo_row_27 : decode b_Mo_row 27 = .ok (.getfield 23, 3) := by decide +kernel
theorem d_Mo_row_30 : decode b_Mo_row 30 = .ok (.iload_n 1, 1) := by decide +kernel
theorem d_Mo_row_31 : decode b_Mo_row 31 = .ok (.iload_n 2, 1) := by decide +kernel
theorem d_Mo_row_32 : decode b_Mo_row 32 = .ok (.iastore, 1) := by decide +kernel
theorem d_Mo_row_33 : decode b_Mo_row 33 = .ok (.iconst 0, 1) := by decide +kernel
theorem d_Mo_row_34 : decode b_Mo_row 34 = .ok (.istore_n 3, 1) := by decide +kernel
theorem d_Mo_row_35 : decode b_Mo_row 35 = .ok (.iload_n 3, 1) := by decide +kernel
theorem d_Mo_row_36 : decode b_Mo_row 36 = .ok (.bipush 10, 2) := by decide +kernel
theorem d_Mo_row_38 : decode b_Mo_row 38 = .ok (.if_icmp .ge 20, 3) := by decide +kernel
theorem d_Mo_row_41 : decode b_Mo_row 41 = .ok (.aload_n 0, 1) := by decide +kernel
theorem d_Mo_row_42 : decode b_Mo_row 42 = .ok (.getfield 7, 3) := by decide +kernel
theorem d_Mo_row_45 : decode b_Mo_row 45 = .ok (.iload_n 1, 1) := by decide +kernel
theorem d_Mo_row_46 : decode b_Mo_row 46 = .ok (.iload_n 3, 1) := by decide +kernel
theorem d_Mo_row_47 : decode b_Mo_row 47 = .ok (.invokestatic 224, 3) := by decide +kernel
theorem d_Mo_row_50 : decode b_Mo_row 50 = .ok (.iconst 0, 1) := by decide +kernel
theorem d_Mo_row_51 : decode b_Mo_row 51 = .ok (.bastore, 1) := by decide +kernel
theorem d_Mo_row_52 : decode b_Mo_row 52 = .ok (.iinc 3 1, 3) := by decide +kernel
theorem d_Mo_row_55 : decode b_Mo_row 55 = .ok (.goto (-20), 3) := by decide +kernel
theorem d_Mo_row_58 : decode b_Mo_row 58 = .ok (.aload_n 0, 1) := by decide +kernel
theorem d_Mo_row_59 : decode b_Mo_row 59 = .ok (.iload_n 2, 1) := by decide +kernel
theorem d_Mo_row_60 : decode b_Mo_row 60 = .ok (.invokevirtual 116, 3) := by decide +kernel
theorem d_Mo_row_63 : decode b_Mo_row 63 = .ok (.ireturn, 1) := by decide +kernel
theorem d_Mo_put_0 : decode b_Mo_put 0 = .ok (.iload_n 1, 1) := by decide +kernel
theorem d_Mo_put_1 : decode b_Mo_put 1 = .ok (.invokestatic 221, 3) := by decide +kernel
theorem d_Mo_put_4 : decode b_Mo_put 4 = .ok (.ifCond .eq 10, 3) := by decide +kernel
theorem d_Mo_put_7 : decode b_Mo_put 7 = .ok (.iload_n 3, 1) := by decide +kernel
theorem d_Mo_put_8 : decode b_Mo_put 8 = .ok (.invokestatic 138, 3) := by decide +kernel
theorem d_Mo_put_11 : decode b_Mo_put 11 = .ok (.ifCond .ne 6, 3) := by decide +kernel
theorem d_Mo_put_14 : decode b_Mo_put 14 = .ok (.ldc 141, 2) := by decide +kernel
theorem d_Mo_put_16 : decode b_Mo_put 16 = .ok (.ireturn, 1) := by decide +kernel
theorem d_Mo_put_17 : decode b_Mo_put 17 = .ok (.aload_n 0, 1) := by decide +kernel
theorem d_Mo_put_18 : decode b_Mo_put 18 = .ok (.getfield 23, 3) := by decide +kernel
theorem d_Mo_put_21 : decode b_Mo_put 21 = .ok (.iload_n 1, 1) := by decide +kernel
theorem d_Mo_put_22 : decode b_Mo_put 22 = .ok (.iaload, 1) := by decide +kernel
theorem d_Mo_put_23 : decode b_Mo_put 23 = .ok (.iconst (-1), 1) := by decide +kernel
theorem d_Mo_put_24 : decode b_Mo_put 24 = .ok (.if_icmp .eq 12, 3) := by decide +kernel
theorem d_Mo_put_27 : decode b_Mo_put 27 = .ok (.aload_n 0, 1) := by decide +kernel
theorem d_Mo_put_28 : decode b_Mo_put 28 = .ok (.getfield 7, 3) := by decide +kernel
theorem d_Mo_put_31 : decode b_Mo_put 31 = .ok (.iload_n 3, 1) := by decide +kernel
theorem d_Mo_put_32 : decode b_Mo_put 32 = .ok (.baload, 1) := by decide +kernel
theorem d_Mo_put_33 : decode b_Mo_put 33 = .ok (.ifCond .ne 9, 3) := by decide +kernel
theorem d_Mo_put_36 : decode b_Mo_put 36 = .ok (.aload_n 0, 1) := by decide +kernel
theorem d_Mo_put_37 : decode b_Mo_put 37 = .ok (.iconst 1, 1) := by decide +kernel
theorem d_Mo_put_38 : decode b_Mo_put 38 = .ok (.invokevirtual 106, 3) := by decide +kernel
theorem d_Mo_put_41 : decode b_Mo_put 41 = .ok (.ireturn, 1) := by decide +kernel
theorem d_Mo_put_42 : decode b_Mo_put 42 = .ok (.iload_n 2, 1) := by decide +kernel
theorem d_Mo_put_43 : decode b_Mo_put 43 = .ok (.i2l, 1) := by decide +kernel
theorem d_Mo_put_44 : decode b_Mo_put 44 = .ok (.lconst 0, 1) := by decide +kernel
theorem d_Mo_put_45 : decode b_Mo_put 45 = .ok (.aload_n 0, 1) := by decide +kernel
theorem d_Mo_put_46 : decode b_Mo_put 46 = .ok (.getfield 23, 3) := by decide +kernel
theorem d_Mo_put_49 : decode b_Mo_put 49 = .ok (.iload_n 1, 1) := by decide +kernel
theorem d_Mo_put_50 : decode b_Mo_put 50 = .ok (.iaload, 1) := by decide +kernel
theorem d_Mo_put_51 : decode b_Mo_put 51 = .ok (.iconst 1, 1) := by decide +kernel
theorem d_Mo_put_52 : decode b_Mo_put 52 = .ok (.isub, 1) := by decide +kernel
theorem d_Mo_put_53 : decode b_Mo_put 53 = .ok (.i2l, 1) := by decide +kernel
theorem d_Mo_put_54 : decode b_Mo_put 54 = .ok (.invokestatic 125, 3) := by decide +kernel
theorem d_Mo_put_57 : decode b_Mo_put 57 = .ok (.ifCond .ne 9, 3) := by decide +kernel
theorem d_Mo_put_60 : decode b_Mo_put 60 = .ok (.aload_n 0, 1) := by decide +kernel
theorem d_Mo_put_61 : decode b_Mo_put 61 = .ok (.iconst 3, 1) := by decide +kernel
theorem d_Mo_put_62 : decode b_Mo_put 62 = .ok (.invokevirtual 106, 3) := by decide +kernel
theorem d_Mo_put_65 : decode b_Mo_put 65 = .ok (.ireturn, 1) := by decide +kernel
theorem d_Mo_put_66 : decode b_Mo_put 66 = .ok (.aload_n 0, 1) := by decide +kernel
theorem d_Mo_put_67 : decode b_Mo_put 67 = .ok (.iload_n 3, 1) := by decide +kernel
theorem d_Mo_put_68 : decode b_Mo_put 68 = .ok (.iload_n 1, 1) := by decide +kernel
theorem d_Mo_put_69 : decode b_Mo_put 69 = .ok (.iload_n 2, 1) := by decide +kernel
theorem d_Mo_put_70 : decode b_Mo_put 70 = .ok (.invokestatic 224, 3) := by decide +kernel
theorem d_Mo_put_73 : decode b_Mo_put 73 = .ok (.invokevirtual 149, 3) := by decide +kernel
theorem d_Mo_put_76 : decode b_Mo_put 76 = .ok (.aload_n 0, 1) := by decide +kernel
theorem d_Mo_put_77 : decode b_Mo_put 77 = .ok (.iconst 1, 1) := by decide +kernel
theorem d_Mo_put_78 : decode b_Mo_put 78 = .ok (.invokevirtual 116, 3) := by decide +kernel
theorem d_Mo_put_81 : decode b_Mo_put 81 = .ok (.ireturn, 1) := by decide +kernel
theorem d_Mo_move_0 : decode b_Mo_move 0 = .ok (.iload_n 1, 1) := by decide +kernel
theorem d_Mo_move_1 : decode b_Mo_move 1 = .ok (.invokestatic 221, 3) := by decide +kernel
theorem d_Mo_move_4 : decode b_Mo_move 4 = .ok (.ifCond .eq 10, 3) := by decide +kernel
theorem d_Mo_move_7 : decode b_Mo_move 7 = .ok (.iload_n 3, 1) := by decide +kernel
theorem d_Mo_move_8 : decode b_Mo_move 8 = .ok (.invokestatic 221, 3) := by decide +kernel
theorem d_Mo_move_11 : decode b_Mo_move 11 = .ok (.ifCond .ne 6, 3) := by decide +kernel
theorem d_Mo_move_14 : decode b_Mo_move 14 = .ok (.ldc 141, 2) := by decide +kernel
theorem d_Mo_move_16 : decode b_Mo_move 16 = .ok (.ireturn, 1) := by decide +kernel
theorem d_Mo_move_17 : decode b_Mo_move 17 = .ok (.aload_n 0, 1) := by decide +kernel
theorem d_Mo_move_18 : decode b_Mo_move 18 = .ok (.getfield 23, 3) := by decide +kernel
theorem d_Mo_move_21 : decode b_Mo_move 21 = .ok (.iload_n 1, 1) := by decide +kernel
theorem d_Mo_move_22 : decode b_Mo_move 22 = .ok (.iaload, 1) := by decide +kernel
theorem d_Mo_move_23 : decode b_Mo_move 23 = .ok (.iconst (-1), 1) := by decide +kernel
theorem d_Mo_move_24 : decode b_Mo_move 24 = .ok (.if_icmp .eq 13, 3) := by decide +kernel
theorem d_Mo_move_27 : decode b_Mo_move 27 = .ok (.aload_n 0, 1) := by decide +kernel
theorem d_Mo_move_28 : decode b_Mo_move 28 = .ok (.getfield 23, 3) := by decide +kernel
theorem d_Mo_move_31 : decode b_Mo_move 31 = .ok (.iload_n 3, 1) := by decide +kernel
theorem d_Mo_move_32 : decode b_Mo_move 32 = .ok (.iaload, 1) := by decide +kernel
theorem d_Mo_move_33 : decode b_Mo_move 33 = .ok (.iconst (-1), 1) := by decide +kernel
theorem d_Mo_move_34 : decode b_Mo_move 34 = .ok (.if_icmp .ne 9, 3) := by decide +kernel
theorem d_Mo_move_37 : decode b_Mo_move 37 = .ok (.aload_n 0, 1) := by decide +kernel
theorem d_Mo_move_38 : decode b_Mo_move 38 = .ok (.iconst 1, 1) := by decide +kernel
theorem d_Mo_move_39 : decode b_Mo_move 39 = .ok (.invokevirtual 106, 3) := by decide +kernel
theorem d_Mo_move_42 : decode b_Mo_move 42 = .ok (.ireturn, 1) := by decide +kernel
theorem d_Mo_move_43 : decode b_Mo_move 43 = .ok (.iload_n 2, 1) := by decide +kernel
theorem d_Mo_move_44 : decode b_Mo_move 44 = .ok (.ifCond .lt 48, 3) := by decide +kernel
theorem d_Mo_move_47 : decode b_Mo_move 47 = .ok (.iload 4, 2) := by decide +kernel
theorem d_Mo_move_49 : decode b_Mo_move 49 = .ok (.ifCond .lt 43, 3) := by decide +kernel
theorem d_Mo_move_52 : decode b_Mo_move 52 = .ok (.iload 5, 2) := by decide +kernel
theorem d_Mo_move_54 : decode b_Mo_move 54 = .ok (.ifCond .lt 38, 3) := by decide +kernel
theorem d_Mo_move_57 : decode b_Mo_move 57 = .ok (.iload_n 2, 1) := by decide +kernel
theorem d_Mo_move_58 : decode b_Mo_move 58 = .ok (.i2l, 1) := by decide +kernel
theorem d_Mo_move_59 : decode b_Mo_move 59 = .ok (.iload 5, 2) := by decide +kernel
theorem d_Mo_move_61 : decode b_Mo_move 61 = .ok (.i2l, 1) := by decide +kernel
theorem d_Mo_move_62 : decode b_Mo_move 62 = .ok (.ladd, 1) := by decide +kernel
theorem d_Mo_move_63 : decode b_Mo_move 63 = .ok (.aload_n 0, 1) := by decide +kernel
theorem d_Mo_move_64 : decode b_Mo_move 64 = .ok (.getfield 23, 3) := by decide +kernel
theorem d_Mo_move_67 : decode b_Mo_move 67 = .ok (.iload_n 1, 1) := by decide +kernel
theorem d_Mo_move_68 : decode b_Mo_move 68 = .ok (.iaload, 1) := by decide +kernel
theorem d_Mo_move_69 : decode b_Mo_move 69 = .ok (.i2l, 1) := by decide +kernel
theorem d_Mo_move_70 : decode b_Mo_move 70 = .ok (.lcmp, 1) := by decide +kernel
theorem d_Mo_move_71 : decode b_Mo_move 71 = .ok (.ifCond .gt 21, 3) := by decide +kernel
theorem d_Mo_move_74 : decode b_Mo_move 74 = .ok (.iload 4, 2) := by decide +kernel
theorem d_Mo_move_76 : decode b_Mo_move 76 = .ok (.i2l, 1) := by decide +kernel
theorem d_Mo_move_77 : decode b_Mo_move 77 = .ok (.iload 5, 2) := by decide +kernel
theorem d_Mo_move_79 : decode b_Mo_move 79 = .ok (.i2l, 1) := by decide +kernel
theorem d_Mo_move_80 : decode b_Mo_move 80 = .ok (.ladd, 1) := by decide +kernel
theorem d_Mo_move_81 : decode b_Mo_move 81 = .ok (.aload_n 0, 1) := by decide +kernel
theorem d_Mo_move_82 : decode b_Mo_move 82 = .ok (.getfield 23, 3) := by decide +kernel
theorem d_Mo_move_85 : decode b_Mo_move 85 = .ok (.iload_n 3, 1) := by decide +kernel
theorem d_Mo_move_86 : decode b_Mo_move 86 = .ok (.iaload, 1) := by decide +kernel
theorem d_Mo_move_87 : decode b_Mo_move 87 = .ok (.i2l, 1) := by decide +kernel
theorem d_Mo_move_88 : decode b_Mo_move 88 = .ok (.lcmp, 1) := by decide +kernel
theorem d_Mo_move_89 : decode b_Mo_move 89 = .ok (.ifCond .le 9, 3) := by decide +kernel
theorem d_Mo_move_92 : decode b_Mo_move 92 = .ok (.aload_n 0, 1) := by decide +kernel
theorem d_Mo_move_93 : decode b_Mo_move 93 = .ok (.iconst 3, 1) := by decide +kernel
theorem d_Mo_move_94 : decode b_Mo_move 94 = .ok (.invokevirtual 106, 3) := by decide +kernel
theorem d_Mo_move_97 : decode b_Mo_move 97 = .ok (.ireturn, 1) := by decide +kernel
theorem d_Mo_move_98 : decode b_Mo_move 98 = .ok (.iconst 0, 1) := by decide +kernel
theorem d_Mo_move_99 : decode b_Mo_move 99 = .ok (.istore 6, 2) := by decide +kernel
theorem d_Mo_move_101 : decode b_Mo_move 101 = .ok (.iload 6, 2) := by decide +kernel
theorem d_Mo_move_103 : decode b_Mo_move 103 = .ok (.iload 5, 2) := by decide +kernel
theorem d_Mo_move_105 : decode b_Mo_move 105 = .ok (.if_icmp .ge 55, 3) := by decide +kernel
theorem d_Mo_move_108 : decode b_Mo_move 108 = .ok (.iload_n 1, 1) := by decide +kernel
theorem d_Mo_move_109 : decode b_Mo_move 109 = .ok (.iload_n 3, 1) := by decide +kernel
theorem d_Mo_move_110 : decode b_Mo_move 110 = .ok (.if_icmp .ne 19, 3) := by decide +kernel
theorem d_Mo_move_113 : decode b_Mo_move 113 = .ok (.iload_n 2, 1) := by decide +kernel
theorem d_Mo_move_114 : decode b_Mo_move 114 = .ok (.iload 4, 2) := by decide +kernel
theorem d_Mo_move_116 : decode b_Mo_move 116 = .ok (.if_icmp .ge 13, 3) := by decide +kernel
theorem d_Mo_move_119 : decode b_Mo_move 119 = .ok (.iload 5, 2) := by decide +kernel
theorem d_Mo_move_121 : decode b_Mo_move 121 = .ok (.iconst 1, 1) := by decide +kernel
theorem d_Mo_move_122 : decode b_Mo_move 122 = .ok (.isub, 1) := by decide +kernel
theorem d_Mo_move_123 : decode b_Mo_move 123 = .ok (.iload 6, 2) := by decide +kernel
theorem d_Mo_move_125 : decode b_Mo_move 125 = .ok (.isub, 1) := by decide +kernel
theorem d_Mo_move_126 : decode b_Mo_move 126 = .ok (.goto 5, 3) := by decide +kernel
theorem d_Mo_move_129 : decode b_Mo_move 129 = .ok (.iload 6, 2) := by decide +kernel
theorem d_Mo_move_131 : decode b_Mo_move 131 = .ok (.istore 7, 2) := by decide +kernel
theorem d_Mo_move_133 : decode b_Mo_move 133 = .ok (.aload_n 0, 1) := by decide +kernel
theorem d_Mo_move_134 : decode b_Mo_move 134 = .ok (.iload_n 1, 1) := by decide +kernel
theorem d_Mo_move_135 : decode b_Mo_move 135 = .ok (.iload_n 2, 1) := by decide +kernel
theorem d_Mo_move_136 : decode b_Mo_move 136 = .ok (.iload 7, 2) := by decide +kernel
theorem d_Mo_move_138 : decode b_Mo_move 138 = .ok (.iadd, 1) := by decide +kernel
theorem d_Mo_move_139 : decode b_Mo_move 139 = .ok (.invokestatic 224, 3) := by decide +kernel
theorem d_Mo_move_142 : decode b_Mo_move 142 = .ok (.iload_n 3, 1) := by decide +kernel
theorem d_Mo_move_143 : decode b_Mo_move 143 = .ok (.iload 4, 2) := by decide +kernel
theorem d_Mo_move_145 : decode b_Mo_move 145 = .ok (.iload 7, 2) := by decide +kernel
theorem d_Mo_move_147 : decode b_Mo_move 147 = .ok (.iadd, 1) := by decide +kernel
theorem d_Mo_move_148 : decode b_Mo_move 148 = .ok (.invokestatic 224, 3) := by decide +kernel
theorem d_Mo_move_151 : decode b_Mo_move 151 = .ok (.invokevirtual 149, 3) := by decide +kernel
theorem d_Mo_move_154 : decode b_Mo_move 154 = .ok (.iinc 6 1, 3) := by decide +kernel
theorem d_Mo_move_157 : decode b_Mo_move 157 = .ok (.goto (-56), 3) := by decide +kernel
theorem d_Mo_move_160 : decode b_Mo_move 160 = .ok (.aload_n 0, 1) := by decide +kernel
theorem d_Mo_move_161 : decode b_Mo_move 161 = .ok (.iload 5, 2) := by decide +kernel
theorem d_Mo_move_163 : decode b_Mo_move 163 = .ok (.invokevirtual 116, 3) := by decide +kernel
theorem d_Mo_move_166 : decode b_Mo_move 166 = .ok (.ireturn, 1) := by decide +kernel
theorem d_Mo_filled_0 : decode b_Mo_filled 0 = .ok (.iload_n 1, 1) := by decide +kernel
theorem d_Mo_filled_1 : decode b_Mo_filled 1 = .ok (.invokestatic 221, 3) := by decide +kernel
theorem d_Mo_filled_4 : decode b_Mo_filled 4 = .ok (.ifCond .ne 6, 3) := by decide +kernel
theorem d_Mo_filled_7 : decode b_Mo_filled 7 = .ok (.ldc 141, 2) := by decide +kernel
theorem d_Mo_filled_9 : decode b_Mo_filled 9 = .ok (.ireturn, 1) := by decide +kernel
theorem d_Mo_filled_10 : decode b_Mo_filled 10 = .ok (.aload_n 0, 1) := by decide +kernel
theorem d_Mo_filled_11 : decode b_Mo_filled 11 = .ok (.getfield 23, 3) := by decide +kernel
theorem d_Mo_filled_14 : decode b_Mo_filled 14 = .ok (.iload_n 1, 1) := by decide +kernel
theorem d_Mo_filled_15 : decode b_Mo_filled 15 = .ok (.iaload, 1) := by decide +kernel
theorem d_Mo_filled_16 : decode b_Mo_filled 16 = .ok (.iconst (-1), 1) := by decide +kernel
theorem d_Mo_filled_17 : decode b_Mo_filled 17 = .ok (.if_icmp .ne 9, 3) := by decide +kernel
theorem d_Mo_filled_20 : decode b_Mo_filled 20 = .ok (.aload_n 0, 1) := by decide +kernel
theorem d_Mo_filled_21 : decode b_Mo_filled 21 = .ok (.iconst 1, 1) := by decide +kernel
theorem d_Mo_filled_22 : decode b_Mo_filled 22 = .ok (.invokevirtual 106, 3) := by decide +kernel
theorem d_Mo_filled_25 : decode b_Mo_filled 25 = .ok (.ireturn, 1) := by decide +kernel
theorem d_Mo_filled_26 : decode b_Mo_filled 26 = .ok (.iconst 0, 1) := by decide +kernel
theorem d_Mo_filled_27 : decode b_Mo_filled 27 = .ok (.istore_n 2, 1) := by decide +kernel
theorem d_Mo_filled_28 : decode b_Mo_filled 28 = .ok (.iconst 0, 1) := by decide +kernel
theorem d_Mo_filled_29 : decode b_Mo_filled 29 = .ok (.istore_n 3, 1) := by decide +kernel
theorem d_Mo_filled_30 : decode b_Mo_filled 30 = .ok (.iload_n 3, 1) := by decide +kernel
theorem d_Mo_filled_31 : decode b_Mo_filled 31 = .ok (.aload_n 0, 1) := by decide +kernel
theorem d_Mo_filled_32 : decode b_Mo_filled 32 = .ok (.getfield 23, 3) := by decide +kernel
theorem d_Mo_filled_35 : decode b_Mo_filled 35 = .ok (.iload_n 1, 1) := by decide +kernel
theorem d_Mo_filled_36 : decode b_Mo_filled 36 = .ok (.iaload, 1) := by decide +kernel
theorem d_Mo_filled_37 : decode b_Mo_filled 37 = .ok (.if_icmp .ge 30, 3) := by decide +kernel
theorem d_Mo_filled_40 : decode b_Mo_filled 40 = .ok (.iload_n 2, 1) := by decide +kernel
theorem d_Mo_filled_41 : decode b_Mo_filled 41 = .ok (.aload_n 0, 1) := by decide +kernel
theorem d_Mo_filled_42 : decode b_Mo_filled 42 = .ok (.getfield 7, 3) := by decide +kernel
theorem d_Mo_filled_45 : decode b_Mo_filled 45 = .ok (.iload_n 1, 1) := by decide +kernel
theorem d_Mo_filled_46 : decode b_Mo_filled 46 = .ok (.iload_n 3, 1) := by decide +kernel
theorem d_Mo_filled_47 : decode b_Mo_filled 47 = .ok (.invokestatic 224, 3) := by decide +kernel
theorem d_Mo_filled_50 : decode b_Mo_filled 50 = .ok (.baload, 1) := by decide +kernel
theorem d_Mo_filled_51 : decode b_Mo_filled 51 = .ok (.ifCond .eq 7, 3) := by decide +kernel
theorem d_Mo_filled_54 : decode b_Mo_filled 54 = .ok (.iconst 1, 1) := by decide +kernel
theorem d_Mo_filled_55 : decode b_Mo_filled 55 = .ok (.goto 4, 3) := by decide +kernel
theorem d_Mo_filled_58 : decode b_Mo_filled 58 = .ok (.iconst 0, 1) := by decide +kernel
theorem d_Mo_filled_59 : decode b_Mo_filled 59 = .ok (.iadd, 1) := by decide +kernel
theorem d_Mo_filled_60 : decode b_Mo_filled 60 = .ok (.istore_n 2, 1) := by decide +kernel
theorem d_Mo_filled_61 : decode b_Mo_filled 61 = .ok (.iinc 3 1, 3) := by decide +kernel
theorem d_Mo_filled_64 : decode b_Mo_filled 64 = .ok (.goto (-34), 3) := by decide +kernel
theorem d_Mo_filled_67 : decode b_Mo_filled 67 = .ok (.aload_n 0, 1) := by decide +kernel
theorem d_Mo_filled_68 : decode b_Mo_filled 68 = .ok (.iload_n 2, 1) := by decide +kernel
theorem d_Mo_filled_69 : decode b_Mo_filled 69 = .ok (.invokevirtual 116, 3) := by decide +kernel
theorem d_Mo_filled_72 : decode b_Mo_filled 72 = .ok (.ireturn, 1) := by decide +kernel
theorem d_Mo_beginSum_0 : decode b_Mo_beginSum 0 = .ok (.aload_n 0, 1) := by decide +kernel
theorem d_Mo_beginSum_1 : decode b_Mo_beginSum 1 = .ok (.getfield 26, 3) := by decide +kernel
theorem d_Mo_beginSum_4 : decode b_Mo_beginSum 4 = .ok (.invokestatic 54, 3) := by decide +kernel
theorem d_Mo_beginSum_7 : decode b_Mo_beginSum 7 = .ok (.aload_n 0, 1) := by decide +kernel
theorem d_Mo_beginSum_8 : decode b_Mo_beginSum 8 = .ok (.getfield 29, 3) := by decide +kernel
theorem d_Mo_beginSum_11 : decode b_Mo_beginSum 11 = .ok (.lconst 1, 1) := by decide +kernel
theorem d_Mo_beginSum_12 : decode b_Mo_beginSum 12 = .ok (.invokestatic 142, 3) := by decide +kernel
theorem d_Mo_beginSum_15 : decode b_Mo_beginSum 15 = .ok (.aload_n 0, 1) := by decide +kernel
theorem d_Mo_beginSum_16 : decode b_Mo_beginSum 16 = .ok (.iconst 0, 1) := by decide +kernel
theorem d_Mo_beginSum_17 : decode b_Mo_beginSum 17 = .ok (.putfield 99, 3) := by decide +kernel
theorem d_Mo_beginSum_20 : decode b_Mo_beginSum 20 = .ok (.aload_n 0, 1) := by decide +kernel
theorem d_Mo_beginSum_21 : decode b_Mo_beginSum 21 = .ok (.bipush 56, 2) := by decide +kernel
theorem d_Mo_beginSum_23 : decode b_Mo_beginSum 23 = .ok (.invokevirtual 102, 3) := by decide +kernel
theorem d_Mo_beginSum_26 : decode b_Mo_beginSum 26 = .ok (.istore_n 1, 1) := by decide +kernel
theorem d_Mo_beginSum_27 : decode b_Mo_beginSum 27 = .ok (.return_, 1) := by decide +kernel
theorem d_Mo_addPlace_0 : decode b_Mo_addPlace 0 = .ok (.aload_n 0, 1) := by decide +kernel
theorem d_Mo_addPlace_1 : decode b_Mo_addPlace 1 = .ok (.bipush 56, 2) := by decide +kernel
theorem d_Mo_addPlace_3 : decode b_Mo_addPlace 3 = .ok (.iload_n 1, 1) := by decide +kernel
theorem d_Mo_addPlace_4 : decode b_Mo_addPlace 4 = .ok (.iload_n 2, 1) := by decide +kernel
theorem d_Mo_addPlace_5 : decode b_Mo_addPlace 5 = .ok (.invokestatic 224, 3) := by decide +kernel
theorem d_Mo_addPlace_8 : decode b_Mo_addPlace 8 = .ok (.iconst 1, 1) := by decide +kernel
theorem d_Mo_addPlace_9 : decode b_Mo_addPlace 9 = .ok (.invokevirtual 155, 3) := by decide +kernel
theorem d_Mo_addPlace_12 : decode b_Mo_addPlace 12 = .ok (.aload_n 0, 1) := by decide +kernel
theorem d_Mo_addPlace_13 : decode b_Mo_addPlace 13 = .ok (.bipush 56, 2) := by decide +kernel
theorem d_Mo_addPlace_15 : decode b_Mo_addPlace 15 = .ok (.invokevirtual 102, 3) := by decide +kernel
theorem d_Mo_addPlace_18 : decode b_Mo_addPlace 18 = .ok (.ireturn, 1) := by decide +kernel
theorem d_Mo_summed_0 : decode b_Mo_summed 0 = .ok (.aload_n 0, 1) := by decide +kernel
theorem d_Mo_summed_1 : decode b_Mo_summed 1 = .ok (.aload_n 0, 1) := by decide +kernel
theorem d_Mo_summed_2 : decode b_Mo_summed 2 = .ok (.getfield 23, 3) := by decide +kernel
theorem d_Mo_summed_5 : decode b_Mo_summed 5 = .ok (.iload_n 1, 1) := by decide +kernel
theorem d_Mo_summed_6 : decode b_Mo_summed 6 = .ok (.iaload, 1) := by decide +kernel
theorem d_Mo_summed_7 : decode b_Mo_summed 7 = .ok (.iconst (-1), 1) := by decide +kernel
theorem d_Mo_summed_8 : decode b_Mo_summed 8 = .ok (.if_icmp .ne 7, 3) := by decide +kernel
theorem d_Mo_summed_11 : decode b_Mo_summed 11 = .ok (.iconst 1, 1) := by decide +kernel
theorem d_Mo_summed_12 : decode b_Mo_summed 12 = .ok (.goto 4, 3) := by decide +kernel
theorem d_Mo_summed_15 : decode b_Mo_summed 15 = .ok (.iconst 0, 1) := by decide +kernel
theorem d_Mo_summed_16 : decode b_Mo_summed 16 = .ok (.putfield 50, 3) := by decide +kernel
theorem d_Mo_summed_19 : decode b_Mo_summed 19 = .ok (.iconst 0, 1) := by decide +kernel
theorem d_Mo_summed_20 : decode b_Mo_summed 20 = .ok (.istore_n 2, 1) := by decide +kernel
theorem d_Mo_summed_21 : decode b_Mo_summed 21 = .ok (.iload_n 2, 1) := by decide +kernel
theorem d_Mo_summed_22 : decode b_Mo_summed 22 = .ok (.aload_n 0, 1) := by decide +kernel
theorem d_Mo_summed_23 : decode b_Mo_summed 23 = .ok (.getfield 23, 3) := by decide +kernel
theorem d_Mo_summed_26 : decode b_Mo_summed 26 = .ok (.iload_n 1, 1) := by decide +kernel
theorem d_Mo_summed_27 : decode b_Mo_summed 27 = .ok (.iaload, 1) := by decide +kernel
theorem d_Mo_summed_28 : decode b_Mo_summed 28 = .ok (.if_icmp .ge 34, 3) := by decide +kernel
theorem d_Mo_summed_31 : decode b_Mo_summed 31 = .ok (.aload_n 0, 1) := by decide +kernel
theorem d_Mo_summed_32 : decode b_Mo_summed 32 = .ok (.aload_n 0, 1) := by decide +kernel
theorem d_Mo_summed_33 : decode b_Mo_summed 33 = .ok (.getfield 7, 3) := by decide +kernel
theorem d_Mo_summed_36 : decode b_Mo_summed 36 = .ok (.iload_n 1, 1) := by decide +kernel
theorem d_Mo_summed_37 : decode b_Mo_summed 37 = .ok (.iload_n 2, 1) := by decide +kernel
theorem d_Mo_summed_38 : decode b_Mo_summed 38 = .ok (.invokestatic 224, 3) := by decide +kernel
theorem d_Mo_summed_41 : decode b_Mo_summed 41 = .ok (.baload, 1) := by decide +kernel
theorem d_Mo_summed_42 : decode b_Mo_summed 42 = .ok (.ifCond .eq 10, 3) := by decide +kernel
theorem d_Mo_summed_45 : decode b_Mo_summed 45 = .ok (.aload_n 0, 1) := by decide +kernel
theorem d_Mo_summed_46 : decode b_Mo_summed 46 = .ok (.getfield 50, 3) := by decide +kernel
theorem d_Mo_summed_49 : decode b_Mo_summed 49 = .ok (.goto 4, 3) := by decide +kernel
theorem d_Mo_summed_52 : decode b_Mo_summed 52 = .ok (.iconst 1, 1) := by decide +kernel
theorem d_Mo_summed_53 : decode b_Mo_summed 53 = .ok (.putfield 50, 3) := by decide +kernel
theorem d_Mo_summed_56 : decode b_Mo_summed 56 = .ok (.iinc 2 1, 3) := by decide +kernel
theorem d_Mo_summed_59 : decode b_Mo_summed 59 = .ok (.goto (-38), 3) := by decide +kernel
theorem d_Mo_summed_62 : decode b_Mo_summed 62 = .ok (.aload_n 0, 1) := by decide +kernel
theorem d_Mo_summed_63 : decode b_Mo_summed 63 = .ok (.invokevirtual 227, 3) := by decide +kernel
theorem d_Mo_summed_66 : decode b_Mo_summed 66 = .ok (.iconst 0, 1) := by decide +kernel
theorem d_Mo_summed_67 : decode b_Mo_summed 67 = .ok (.istore_n 2, 1) := by decide +kernel
theorem d_Mo_summed_68 : decode b_Mo_summed 68 = .ok (.iload_n 2, 1) := by decide +kernel
theorem d_Mo_summed_69 : decode b_Mo_summed 69 = .ok (.aload_n 0, 1) := by decide +kernel
theorem d_Mo_summed_70 : decode b_Mo_summed 70 = .ok (.getfield 23, 3) := by decide +kernel
theorem d_Mo_summed_73 : decode b_Mo_summed 73 = .ok (.iload_n 1, 1) := by decide +kernel
theorem d_Mo_summed_74 : decode b_Mo_summed 74 = .ok (.iaload, 1) := by decide +kernel
theorem d_Mo_summed_75 : decode b_Mo_summed 75 = .ok (.if_icmp .ge 35, 3) := by decide +kernel
theorem d_Mo_summed_78 : decode b_Mo_summed 78 = .ok (.aload_n 0, 1) := by decide +kernel
theorem d_Mo_summed_79 : decode b_Mo_summed 79 = .ok (.getfield 50, 3) := by decide +kernel
theorem d_Mo_summed_82 : decode b_Mo_summed 82 = .ok (.ifCond .ne 28, 3) := by decide +kernel
theorem d_Mo_summed_85 : decode b_Mo_summed 85 = .ok (.aload_n 0, 1) := by decide +kernel
theorem d_Mo_summed_86 : decode b_Mo_summed 86 = .ok (.aload_n 0, 1) := by decide +kernel
theorem d_Mo_summed_87 : decode b_Mo_summed 87 = .ok (.iload_n 1, 1) := by decide +kernel
theorem d_Mo_summed_88 : decode b_Mo_summed 88 = .ok (.iload_n 2, 1) := by decide +kernel
theorem d_Mo_summed_89 : decode b_Mo_summed 89 = .ok (.invokevirtual 230, 3) := by decide +kernel
theorem d_Mo_summed_92 : decode b_Mo_summed 92 = .ok (.ifCond .eq 7, 3) := by decide +kernel
theorem d_Mo_summed_95 : decode b_Mo_summed 95 = .ok (.iconst 0, 1) := by decide +kernel
theorem d_Mo_summed_96 : decode b_Mo_summed 96 = .ok (.goto 5, 3) := by decide +kernel
theorem d_Mo_summed_99 : decode b_Mo_summed 99 = .ok (.bipush 6, 2) := by decide +kernel
theorem d_Mo_summed_101 : decode b_Mo_summed 101 = .ok (.putfield 50, 3) := by decide +kernel
theorem d_Mo_summed_104 : decode b_Mo_summed 104 = .ok (.iinc 2 1, 3) := by decide +kernel
theorem d_Mo_summed_107 : decode b_Mo_summed 107 = .ok (.goto (-39), 3) := by decide +kernel
theorem d_Mo_summed_110 : decode b_Mo_summed 110 = .ok (.aload_n 0, 1) := by decide +kernel
theorem d_Mo_summed_111 : decode b_Mo_summed 111 = .ok (.getfield 50, 3) := by decide +kernel
theorem d_Mo_summed_114 : decode b_Mo_summed 114 = .ok (.ifCond .ne 7, 3) := by decide +kernel
theorem d_Mo_summed_117 : decode b_Mo_summed 117 = .ok (.iconst 1, 1) := by decide +kernel
theorem d_Mo_summed_118 : decode b_Mo_summed 118 = .ok (.goto 4, 3) := by decide +kernel
theorem d_Mo_summed_121 : decode b_Mo_summed 121 = .ok (.iconst 0, 1) := by decide +kernel
theorem d_Mo_summed_122 : decode b_Mo_summed 122 = .ok (.ireturn, 1) := by decide +kernel
theorem d_Mo_sum_0 : decode b_Mo_sum 0 = .ok (.iload_n 1, 1) := by decide +kernel
theorem d_Mo_sum_1 : decode b_Mo_sum 1 = .ok (.invokestatic 138, 3) := by decide +kernel
theorem d_Mo_sum_4 : decode b_Mo_sum 4 = .ok (.ifCond .eq 10, 3) := by decide +kernel
theorem d_Mo_sum_7 : decode b_Mo_sum 7 = .ok (.iload_n 2, 1) := by decide +kernel
theorem d_Mo_sum_8 : decode b_Mo_sum 8 = .ok (.invokestatic 221, 3) := by decide +kernel
theorem d_Mo_sum_11 : decode b_Mo_sum 11 = .ok (.ifCond .ne 6, 3) := by decide +kernel
theorem d_Mo_sum_14 : decode b_Mo_sum 14 = .ok (.ldc 141, 2) := by decide +kernel
theorem d_Mo_sum_16 : decode b_Mo_sum 16 = .ok (.ireturn, 1) := by decide +kernel
theorem d_Mo_sum_17 : decode b_Mo_sum 17 = .ok (.aload_n 0, 1) := by decide +kernel
theorem d_Mo_sum_18 : decode b_Mo_sum 18 = .ok (.iload_n 2, 1) := by decide +kernel
theorem d_Mo_sum_19 : decode b_Mo_sum 19 = .ok (.invokevirtual 234, 3) := by decide +kernel
theorem d_Mo_sum_22 : decode b_Mo_sum 22 = .ok (.ifCond .ne 5, 3) := by decide +kernel
theorem d_Mo_sum_25 : decode b_Mo_sum 25 = .ok (.iconst 0, 1) := by decide +kernel
theorem d_Mo_sum_26 : decode b_Mo_sum 26 = .ok (.ireturn, 1) := by decide +kernel
theorem d_Mo_sum_27 : decode b_Mo_sum 27 = .ok (.aload_n 0, 1) := by decide +kernel
theorem d_Mo_sum_28 : decode b_Mo_sum 28 = .ok (.bipush 56, 2) := by decide +kernel
theorem d_Mo_sum_30 : decode b_Mo_sum 30 = .ok (.aload_n 0, 1) := by decide +kernel
theorem d_Mo_sum_31 : decode b_Mo_sum 31 = .ok (.getfield 26, 3) := by decide +kernel
theorem d_Mo_sum_34 : decode b_Mo_sum 34 = .ok (.aload_n 0, 1) := by decide +kernel
theorem d_Mo_sum_35 : decode b_Mo_sum 35 = .ok (.getfield 29, 3) := by decide +kernel
theorem d_Mo_sum_38 : decode b_Mo_sum 38 = .ok (.invokevirtual 119, 3) := by decide +kernel
theorem d_Mo_sum_41 : decode b_Mo_sum 41 = .ok (.aload_n 0, 1) := by decide +kernel
theorem d_Mo_sum_42 : decode b_Mo_sum 42 = .ok (.aload_n 0, 1) := by decide +kernel
theorem d_Mo_sum_43 : decode b_Mo_sum 43 = .ok (.getfield 13, 3) := by decide +kernel
theorem d_Mo_sum_46 : decode b_Mo_sum 46 = .ok (.bipush 56, 2) := by decide +kernel
theorem d_Mo_sum_48 : decode b_Mo_sum 48 = .ok (.iaload, 1) := by decide +kernel
theorem d_Mo_sum_49 : decode b_Mo_sum 49 = .ok (.putfield 99, 3) := by decide +kernel
theorem d_Mo_sum_52 : decode b_Mo_sum 52 = .ok (.aload_n 0, 1) := by decide +kernel
theorem d_Mo_sum_53 : decode b_Mo_sum 53 = .ok (.iload_n 1, 1) := by decide +kernel
theorem d_Mo_sum_54 : decode b_Mo_sum 54 = .ok (.invokevirtual 146, 3) := by decide +kernel
theorem d_Mo_sum_57 : decode b_Mo_sum 57 = .ok (.ireturn, 1) := by decide +kernel
theorem d_Mo_isOne_0 : decode b_Mo_isOne 0 = .ok (.aload_n 0, 1) := by decide +kernel
theorem d_Mo_isOne_1 : decode b_Mo_isOne 1 = .ok (.iload_n 1, 1) := by decide +kernel
theorem d_Mo_isOne_2 : decode b_Mo_isOne 2 = .ok (.aload_n 0, 1) := by decide +kernel
theorem d_Mo_isOne_3 : decode b_Mo_isOne 3 = .ok (.getfield 32, 3) := by decide +kernel
theorem d_Mo_isOne_6 : decode b_Mo_isOne 6 = .ok (.aload_n 0, 1) := by decide +kernel
theorem d_Mo_isOne_7 : decode b_Mo_isOne 7 = .ok (.getfield 35, 3) := by decide +kernel
theorem d_Mo_isOne_10 : decode b_Mo_isOne 10 = .ok (.invokevirtual 119, 3) := by decide +kernel
theorem d_Mo_isOne_13 : decode b_Mo_isOne 13 = .ok (.aload_n 0, 1) := by decide +kernel
theorem d_Mo_isOne_14 : decode b_Mo_isOne 14 = .ok (.getfield 13, 3) := by decide +kernel
theorem d_Mo_isOne_17 : decode b_Mo_isOne 17 = .ok (.iload_n 1, 1) := by decide +kernel
theorem d_Mo_isOne_18 : decode b_Mo_isOne 18 = .ok (.iaload, 1) := by decide +kernel
theorem d_Mo_isOne_19 : decode b_Mo_isOne 19 = .ok (.iconst 1, 1) := by decide +kernel
theorem d_Mo_isOne_20 : decode b_Mo_isOne 20 = .ok (.if_icmp .ne 21, 3) := by decide +kernel
theorem d_Mo_isOne_23 : decode b_Mo_isOne 23 = .ok (.aload_n 0, 1) := by decide +kernel
theorem d_Mo_isOne_24 : decode b_Mo_isOne 24 = .ok (.getfield 32, 3) := by decide +kernel
theorem d_Mo_isOne_27 : decode b_Mo_isOne 27 = .ok (.aload_n 0, 1) := by decide +kernel
theorem d_Mo_isOne_28 : decode b_Mo_isOne 28 = .ok (.getfield 35, 3) := by decide +kernel
theorem d_Mo_isOne_31 : decode b_Mo_isOne 31 = .ok (.invokestatic 69, 3) := by decide +kernel
theorem d_Mo_isOne_34 : decode b_Mo_isOne 34 = .ok (.ifCond .ne 7, 3) := by decide +kernel
theorem d_Mo_isOne_37 : decode b_Mo_isOne 37 = .ok (.iconst 1, 1) := by decide +kernel
theorem d_Mo_isOne_38 : decode b_Mo_isOne 38 = .ok (.goto 4, 3) := by decide +kernel
theorem d_Mo_isOne_41 : decode b_Mo_isOne 41 = .ok (.iconst 0, 1) := by decide +kernel
theorem d_Mo_isOne_42 : decode b_Mo_isOne 42 = .ok (.ireturn, 1) := by decide +kernel
theorem d_Mo_one_0 : decode b_Mo_one 0 = .ok (.iload_n 1, 1) := by decide +kernel
theorem d_Mo_one_1 : decode b_Mo_one 1 = .ok (.invokestatic 221, 3) := by decide +kernel
theorem d_Mo_one_4 : decode b_Mo_one 4 = .ok (.ifCond .ne 6, 3) := by decide +kernel
theorem d_Mo_one_7 : decode b_Mo_one 7 = .ok (.ldc 141, 2) := by decide +kernel
theorem d_Mo_one_9 : decode b_Mo_one 9 = .ok (.ireturn, 1) := by decide +kernel
theorem d_Mo_one_10 : decode b_Mo_one 10 = .ok (.aload_n 0, 1) := by decide +kernel
theorem d_Mo_one_11 : decode b_Mo_one 11 = .ok (.iload_n 1, 1) := by decide +kernel
theorem d_Mo_one_12 : decode b_Mo_one 12 = .ok (.invokevirtual 234, 3) := by decide +kernel
theorem d_Mo_one_15 : decode b_Mo_one 15 = .ok (.ifCond .eq 16, 3) := by decide +kernel
theorem d_Mo_one_18 : decode b_Mo_one 18 = .ok (.aload_n 0, 1) := by decide +kernel
theorem d_Mo_one_19 : decode b_Mo_one 19 = .ok (.bipush 56, 2) := by decide +kernel
theorem d_Mo_one_21 : decode b_Mo_one 21 = .ok (.invokevirtual 237, 3) := by decide +kernel
theorem d_Mo_one_24 : decode b_Mo_one 24 = .ok (.ifCond .eq 7, 3) := by decide +kernel
theorem d_Mo_one_27 : decode b_Mo_one 27 = .ok (.iconst 1, 1) := by decide +kernel
theorem d_Mo_one_28 : decode b_Mo_one 28 = .ok (.goto 4, 3) := by decide +kernel
theorem d_Mo_one_31 : decode b_Mo_one 31 = .ok (.iconst 0, 1) := by decide +kernel
theorem d_Mo_one_32 : decode b_Mo_one 32 = .ok (.ireturn, 1) := by decide +kernel
theorem d_Mo_pick_0 : decode b_Mo_pick 0 = .ok (.iload_n 1, 1) := by decide +kernel
theorem d_Mo_pick_1 : decode b_Mo_pick 1 = .ok (.invokestatic 221, 3) := by decide +kernel
theorem d_Mo_pick_4 : decode b_Mo_pick 4 = .ok (.ifCond .eq 10, 3) := by decide +kernel
theorem d_Mo_pick_7 : decode b_Mo_pick 7 = .ok (.iload_n 2, 1) := by decide +kernel
theorem d_Mo_pick_8 : decode b_Mo_pick 8 = .ok (.invokestatic 138, 3) := by decide +kernel
theorem d_Mo_pick_11 : decode b_Mo_pick 11 = .ok (.ifCond .ne 6, 3) := by decide +kernel
theorem d_Mo_pick_14 : decode b_Mo_pick 14 = .ok (.ldc 141, 2) := by decide +kernel
theorem d_Mo_pick_16 : decode b_Mo_pick 16 = .ok (.ireturn, 1) := by decide +kernel
theorem d_Mo_pick_17 : decode b_Mo_pick 17 = .ok (.aload_n 0, 1) := by decide +kernel
theorem d_Mo_pick_18 : decode b_Mo_pick 18 = .ok (.getfield 23, 3) := by decide +kernel
theorem d_Mo_pick_21 : decode b_Mo_pick 21 = .ok (.iload_n 1, 1) := by decide +kernel
theorem d_Mo_pick_22 : decode b_Mo_pick 22 = .ok (.iaload, 1) := by decide +kernel
theorem d_Mo_pick_23 : decode b_Mo_pick 23 = .ok (.iconst (-1), 1) := by decide +kernel
theorem d_Mo_pick_24 : decode b_Mo_pick 24 = .ok (.if_icmp .eq 12, 3) := by decide +kernel
theorem d_Mo_pick_27 : decode b_Mo_pick 27 = .ok (.aload_n 0, 1) := by decide +kernel
theorem d_Mo_pick_28 : decode b_Mo_pick 28 = .ok (.getfield 7, 3) := by decide +kernel
theorem d_Mo_pick_31 : decode b_Mo_pick 31 = .ok (.iload_n 2, 1) := by decide +kernel
theorem d_Mo_pick_32 : decode b_Mo_pick 32 = .ok (.baload, 1) := by decide +kernel
theorem d_Mo_pick_33 : decode b_Mo_pick 33 = .ok (.ifCond .ne 9, 3) := by decide +kernel
theorem d_Mo_pick_36 : decode b_Mo_pick 36 = .ok (.aload_n 0, 1) := by decide +kernel
theorem d_Mo_pick_37 : decode b_Mo_pick 37 = .ok (.iconst 1, 1) := by decide +kernel
theorem d_Mo_pick_38 : decode b_Mo_pick 38 = .ok (.invokevirtual 106, 3) := by decide +kernel
theorem d_Mo_pick_41 : decode b_Mo_pick 41 = .ok (.ireturn, 1) := by decide +kernel
theorem d_Mo_pick_42 : decode b_Mo_pick 42 = .ok (.aload_n 0, 1) := by decide +kernel
theorem d_Mo_pick_43 : decode b_Mo_pick 43 = .ok (.invokevirtual 227, 3) := by decide +kernel
theorem d_Mo_pick_46 : decode b_Mo_pick 46 = .ok (.iconst 0, 1) := by decide +kernel
theorem d_Mo_pick_47 : decode b_Mo_pick 47 = .ok (.istore_n 3, 1) := by decide +kernel
theorem d_Mo_pick_48 : decode b_Mo_pick 48 = .ok (.iload_n 3, 1) := by decide +kernel
theorem d_Mo_pick_49 : decode b_Mo_pick 49 = .ok (.aload_n 0, 1) := by decide +kernel
theorem d_Mo_pick_50 : decode b_Mo_pick 50 = .ok (.getfield 23, 3) := by decide +kernel
theorem d_Mo_pick_53 : decode b_Mo_pick 53 = .ok (.iload_n 1, 1) := by decide +kernel
theorem d_Mo_pick_54 : decode b_Mo_pick 54 = .ok (.iaload, 1) := by decide +kernel
theorem d_Mo_pick_55 : decode b_Mo_pick 55 = .ok (.if_icmp .ge 60, 3) := by decide +kernel
theorem d_Mo_pick_58 : decode b_Mo_pick 58 = .ok (.aload_n 0, 1) := by decide +kernel
theorem d_Mo_pick_59 : decode b_Mo_pick 59 = .ok (.getfield 7, 3) := by decide +kernel
theorem d_Mo_pick_62 : decode b_Mo_pick 62 = .ok (.iload_n 1, 1) := by decide +kernel
theorem d_Mo_pick_63 : decode b_Mo_pick 63 = .ok (.iload_n 3, 1) := by decide +kernel
theorem d_Mo_pick_64 : decode b_Mo_pick 64 = .ok (.invokestatic 224, 3) := by decide +kernel
theorem d_Mo_pick_67 : decode b_Mo_pick 67 = .ok (.baload, 1) := by decide +kernel
theorem d_Mo_pick_68 : decode b_Mo_pick 68 = .ok (.ifCond .ne 9, 3) := by decide +kernel
theorem d_Mo_pick_71 : decode b_Mo_pick 71 = .ok (.aload_n 0, 1) := by decide +kernel
theorem d_Mo_pick_72 : decode b_Mo_pick 72 = .ok (.iconst 1, 1) := by decide +kernel
theorem d_Mo_pick_73 : decode b_Mo_pick 73 = .ok (.invokevirtual 106, 3) := by decide +kernel
theorem d_Mo_pick_76 : decode b_Mo_pick 76 = .ok (.ireturn, 1) := by decide +kernel
theorem d_Mo_pick_77 : decode b_Mo_pick 77 = .ok (.aload_n 0, 1) := by decide +kernel
theorem d_Mo_pick_78 : decode b_Mo_pick 78 = .ok (.iload_n 1, 1) := by decide +kernel
theorem d_Mo_pick_79 : decode b_Mo_pick 79 = .ok (.iload_n 3, 1) := by decide +kernel
theorem d_Mo_pick_80 : decode b_Mo_pick 80 = .ok (.invokevirtual 230, 3) := by decide +kernel
theorem d_Mo_pick_83 : decode b_Mo_pick 83 = .ok (.ifCond .ne 10, 3) := by decide +kernel
theorem d_Mo_pick_86 : decode b_Mo_pick 86 = .ok (.aload_n 0, 1) := by decide +kernel
theorem d_Mo_pick_87 : decode b_Mo_pick 87 = .ok (.bipush 6, 2) := by decide +kernel
theorem d_Mo_pick_89 : decode b_Mo_pick 89 = .ok (.invokevirtual 106, 3) := by decide +kernel
theorem d_Mo_pick_92 : decode b_Mo_pick 92 = .ok (.ireturn, 1) := by decide +kernel
theorem d_Mo_pick_93 : decode b_Mo_pick 93 = .ok (.aload_n 0, 1) := by decide +kernel
theorem d_Mo_pick_94 : decode b_Mo_pick 94 = .ok (.bipush 56, 2) := by decide +kernel
theorem d_Mo_pick_96 : decode b_Mo_pick 96 = .ok (.iload_n 2, 1) := by decide +kernel
theorem d_Mo_pick_97 : decode b_Mo_pick 97 = .ok (.invokevirtual 165, 3) := by decide +kernel
theorem d_Mo_pick_100 : decode b_Mo_pick 100 = .ok (.ifCond .le 9, 3) := by decide +kernel
theorem d_Mo_pick_103 : decode b_Mo_pick 103 = .ok (.aload_n 0, 1) := by decide +kernel
theorem d_Mo_pick_104 : decode b_Mo_pick 104 = .ok (.iload_n 3, 1) := by decide +kernel
theorem d_Mo_pick_105 : decode b_Mo_pick 105 = .ok (.invokevirtual 116, 3) := by decide +kernel
theorem d_Mo_pick_108 : decode b_Mo_pick 108 = .ok (.ireturn, 1) := by decide +kernel
theorem d_Mo_pick_109 : decode b_Mo_pick 109 = .ok (.iinc 3 1, 3) := by decide +kernel
theorem d_Mo_pick_112 : decode b_Mo_pick 112 = .ok (.goto (-64), 3) := by decide +kernel
theorem d_Mo_pick_115 : decode b_Mo_pick 115 = .ok (.aload_n 0, 1) := by decide +kernel
theorem d_Mo_pick_116 : decode b_Mo_pick 116 = .ok (.iconst (-1), 1) := by decide +kernel
theorem d_Mo_pick_117 : decode b_Mo_pick 117 = .ok (.invokevirtual 116, 3) := by decide +kernel
theorem d_Mo_pick_120 : decode b_Mo_pick 120 = .ok (.ireturn, 1) := by decide +kernel
def rwE (E0 : Nat → Option Qf) (R j : Nat) : Option Qf := if 16 + 10 * R ≤ j ∧ j < 16 + 10 * R + 10 then none else E0 j
theorem EQS_e {E : Nat → Option Qf} {S S' : Sx} (h : EQS E S) (h1 : ∀ k, k < 16 → S'.1 k = S.1 k) (h2 : ∀ r, r < 4 → ∀ k, k < 10 → S'.2.2.1 r k = S.2.2.1 r k) : EQS E S' := ⟨fun k hk => by rw [h1 k hk]; exact h.1 k hk, fun r hr k hk => by rw [h2 r hr k hk]; exact h.2 r hr k hk⟩
theorem c_Mo_placeOf (l : Launch) (g : Gh) (nx r k : Nat) : Ct l m_Mo_placeOf 0 0 [.int (nI r), .int (nI k)] g nx (pP (some (.int (nI (16 + 10 * r + k)))) g nx) := by
  refine Ct.of (by decide) (Nat.le_of_ble_eq_true rfl) (fun E hE hQ => ?_)
  refine z_bipush (v := nI 16) hE d_Mo_placeOf_0 (by decide) ?_
  refine z_bipush (v := nI 10) hE d_Mo_placeOf_2 (by decide) ?_
  refine z_iload_n hE d_Mo_placeOf_4 rfl ?_
  refine z_imul (v := nI (10 * r)) hE d_Mo_placeOf_5 (pk_mul 10 r) ?_
  refine z_iadd (v := nI (16 + 10 * r)) hE d_Mo_placeOf_6 (nI_add _ _) ?_
  refine z_iload_n hE d_Mo_placeOf_7 rfl ?_
  refine z_iadd (v := nI (16 + 10 * r + k)) hE d_Mo_placeOf_8 (nI_add _ _) ?_
  exact z_iret hE hQ d_Mo_placeOf_9 rfl (Nat.le_refl _) (Nat.le_refl _) ⟨rfl, rfl, rfl⟩
theorem c_Mo_row (l : Launch) {g : Gh} (nx : Nat) {P : Nat} {S : Sx} (hM : MW g P S) (hO : SOK S) (r n : Int32) : Ct l m_Mo_row 0 0 [.ref P, .int r, .int n] g nx (pM g P nx (spRow S r n)) := by
  obtain ⟨E0, t, ts, hV, hEQ⟩ := hM
  have h0 := hV.1
  obtain ⟨-, ⟨th, h1, h1'⟩, ⟨sn, A, B, h2, h3, h4, b4, b5, b6⟩, ⟨rm, h5, h5'⟩, -⟩ := id hV
  refine Ct.of (by decide) (Nat.le_of_ble_eq_true rfl) (fun E hE hQ => ?_)
  have out : ∀ lv, ¬ (inI r 0 3 ∧ n.toInt ≤ 10) → zJ E g nx 0 0 13 lv [] := by
    intro lv h
    refine z_ldc hE d_Mo_row_13 cn_Mo_141 ?_
    exact z_iret hE hQ d_Mo_row_15 rfl (by omega) (by omega) (pM_of (if_neg h) hV hEQ gW_r)
  refine z_iload_n hE d_Mo_row_0 rfl ?_
  refine z_callS hE d_Mo_row_1 cl_Mo_221 (c_Mo_isRow l g nx r) rfl (Nat.le_of_ble_eq_true rfl) ⟨by decide, by decide⟩ ⟨by omega, by omega⟩ (fun r_1 g_1 nx_1 hp_1 => ?_) rfl
  obtain ⟨rfl, rfl, rfl⟩ := hp_1
  try dsimp only [Option.toList, List.nil_append, List.cons_append]
  by_cases hr : inI r 0 3
  case neg =>
    rw [if_neg hr]
    refine z_if_eq (tgt := 13) hE d_Mo_row_4 (by decide) (fun _ => ?_) (fun c_ => absurd c_ (by decide))
    exact out _ (fun q => hr q.1)
  rw [if_pos hr]
  refine z_if_eq (tgt := 13) hE d_Mo_row_4 (by decide) (fun c_ => absurd c_ (by decide)) (fun _ => ?_)
  have i10 : (10 : Int32).toInt = 10 := by decide
  have i00 : (0 : Int32).toInt = 0 := rfl
  refine z_iload_n hE d_Mo_row_7 rfl ?_
  refine z_bipush (v := (10 : Int32)) hE d_Mo_row_8 (by decide) ?_
  by_cases hn10 : n.toInt ≤ 10
  case neg =>
    refine z_icmp_le (tgt := 16) hE d_Mo_row_10 (by decide) (fun c_ => absurd c_ (fun w => hn10 (by rw [Int32.le_iff_toInt_le, i10] at w; exact w))) (fun _ => ?_)
    exact out _ (fun q => hn10 q.2)
  refine z_icmp_le (tgt := 16) hE d_Mo_row_10 (by decide) (fun _ => ?_) (fun c_ => absurd c_ (fun w => w (by rw [Int32.le_iff_toInt_le, i10]; exact hn10)))
  have hspec : spRow S r n = if n.toInt < 0 then tellS S 4 else doneS (sR S (fx r) n) n := if_pos ⟨hr, hn10⟩
  refine z_iload_n hE d_Mo_row_16 rfl ?_
  by_cases hn0 : n.toInt < 0
  case pos =>
    refine z_if_ge (tgt := 26) hE d_Mo_row_17 (by decide) (fun c_ => absurd c_ (fun w => absurd (i_ge0.mp w) (by omega))) (fun _ => ?_)
    refine z_aload_n hE d_Mo_row_20 rfl ?_
    refine z_iconst (v := 4) hE d_Mo_row_21 (by decide) ?_
    refine z_callV hE d_Mo_row_22 cl_Mo_106 (c_Mo_fail l nx hV 4) (by assumption) cb_Mo rfl (Nat.le_of_ble_eq_true rfl) ⟨by decide, by decide⟩ ⟨by omega, by omega⟩ (fun r_9 g_9 nx_9 hp_9 => ?_) rfl
    try dsimp only [Option.toList, List.nil_append, List.cons_append]
    obtain ⟨rfl, rfl, V9, G9⟩ := hp_9
    try dsimp only [Option.toList, List.nil_append, List.cons_append]
    refine z_iret hE hQ d_Mo_row_25 rfl (by omega) (by omega) (pM_of (S := sC S 4) ?_ V9 (EQS_c hEQ rfl rfl) (gW_t gW_r (g1_W G9 (by omega) (by omega))))
    rw [hspec, if_pos hn0]; rfl
  refine z_if_ge (tgt := 26) hE d_Mo_row_17 (by decide) (fun _ => ?_) (fun c_ => absurd c_ (fun w => w (i_ge0.mpr (by omega))))
  rw [if_neg hn0] at hspec
  obtain ⟨er, zr, hr2⟩ := fx_of hr (by omega) (by omega)
  have go : ∀ lv, lG lv 0 = some (.ref P) → lG lv 1 = some (.int (nI (fx r))) → lG lv 2 = some (.int n) → zJ E g nx 0 0 26 lv [] := by
    intro lv l0 l1 l2
    refine z_sub (lv' := [(0, .ref P), (1, .int (nI (fx r))), (2, .int n)]) (by simp only [List.map, l0, l1, l2]) ?_
    refine z_aload_n hE d_Mo_row_26 rfl ?_
    refine z_get hE d_Mo_row_27 fl_Mo_23 (by assumption) rfl ?_
    refine z_iload_n hE d_Mo_row_30 rfl ?_
    refine z_iload_n hE d_Mo_row_31 rfl ?_
    refine z_iast hE d_Mo_row_32 (by assumption) (nI_in' (by omega : fx r < 4) (by omega)) ?_
    rw [nI_cl (by omega)]
    obtain ⟨ga, hga⟩ : ∃ ga, ga = gS g (P + 5) (.inl (1, 4, .inl (upd rm (fx r) n))) := ⟨_, rfl⟩
    rw [← hga]
    have ga1 : g1 g ga (P + 5) := by rw [hga]; exact g1_S
    have loop : ∀ (u k : Nat) (g' : Gh) (th' : Nat → Int32), k + u = 10 → g1 ga g' (P + 1) → g' (P + 1) = some (.inl (2, 58, .inl th')) → (∀ j, j < 58 → th' j = if 16 + 10 * fx r ≤ j ∧ j < 16 + 10 * fx r + k then 0 else th j) → ∀ lv, lG lv 0 = some (.ref P) → lG lv 1 = some (.int (nI (fx r))) → lG lv 2 = some (.int n) → lG lv 3 = some (.int (nI k)) → zJ E g' nx 0 0 35 lv [] := by
      intro u
      induction u with
      | zero =>
        intro k g' th' hu X hth ht1 lv l0 l1 l2 l3
        refine z_sub (lv' := [(0, .ref P), (1, .int (nI (fx r))), (2, .int n), (3, .int (nI k))]) (by simp only [List.map, l0, l1, l2, l3]) ?_
        obtain rfl : k = 10 := by omega
        have m1 : g' P = some (oM P S.2.2.2.1 S.2.2.2.2 ts) := by rw [X P (by omega), ga1 P (by omega)]; exact h0
        refine z_iload_n hE d_Mo_row_35 rfl ?_
        refine z_bipush (v := nI 10) hE d_Mo_row_36 (by decide) ?_
        refine z_icmp_ge (tgt := 58) hE d_Mo_row_38 (by decide) (fun _ => ?_) (fun c_ => absurd c_ (fun z => z ((nI_LE (by omega) (by omega)).mpr (by omega))))
        have V1 : MV g' P (rwE E0 (fx r)) (sR S (fx r) n).2.1 S.2.2.2.1 S.2.2.2.2 ts t := by
          refine ⟨m1, ⟨th', hth, fun j hj => ?_⟩, ⟨sn, A, B, ?_, ?_, ?_, b4, b5, fun j hj q hq => ?_⟩, ⟨upd rm (fx r) n, ?_, fun j hj => ?_⟩, fun k k1 k2 => ?_⟩
          · rw [ht1 j hj]
            unfold rwE
            by_cases h : 16 + 10 * fx r ≤ j ∧ j < 16 + 10 * fx r + 10
            · rw [if_pos h, if_pos h]; rfl
            · rw [if_neg h, if_neg h]; exact h1' j hj
          · rw [X _ (by omega), ga1 _ (by omega)]; exact h2
          · rw [X _ (by omega), ga1 _ (by omega)]; exact h3
          · rw [X _ (by omega), ga1 _ (by omega)]; exact h4
          · unfold rwE at hq
            by_cases h : 16 + 10 * fx r ≤ j ∧ j < 16 + 10 * fx r + 10
            · rw [if_pos h] at hq; cases hq
            · rw [if_neg h] at hq; exact b6 j hj q hq
          · rw [X _ (by omega), hga]; exact gS_s
          · show upd rm (fx r) n j = if j = fx r then n else S.2.1 j
            unfold upd
            by_cases h : j = fx r
            · rw [if_pos h, if_pos h]
            · rw [if_neg h, if_neg h]; exact h5' j hj
          · exact MA_o (MA_o (MV_m hV k k1 k2) ga1 (by omega)) X (by omega)
        have E1 : EQS (rwE E0 (fx r)) (sR S (fx r) n) := by
          refine ⟨fun k hk => ?_, fun j hj k hk => ?_⟩
          · unfold rwE; rw [if_neg (by omega)]; exact hEQ.1 k hk
          · show rwE E0 (fx r) (16 + 10 * j + k) = if j = fx r then none else S.2.2.1 j k
            unfold rwE
            by_cases h : j = fx r
            · rw [if_pos h, if_pos (by omega)]
            · rw [if_neg h, if_neg (by omega)]; exact hEQ.2 j hj k hk
        have W1 : gW g g' P (P + 14) := gW_t (g1_W ga1 (by omega) (by omega)) (g1_W X (by omega) (by omega))
        refine z_aload_n hE d_Mo_row_58 rfl ?_
        refine z_iload_n hE d_Mo_row_59 rfl ?_
        refine z_callV hE d_Mo_row_60 cl_Mo_116 (c_Mo_done l nx V1 n) (by assumption) cb_Mo rfl (Nat.le_of_ble_eq_true rfl) ⟨by decide, by decide⟩ ⟨by omega, by omega⟩ (fun r_9 g_9 nx_9 hp_9 => ?_) rfl
        try dsimp only [Option.toList, List.nil_append, List.cons_append]
        obtain ⟨rfl, rfl, V9, G9⟩ := hp_9
        try dsimp only [Option.toList, List.nil_append, List.cons_append]
        exact z_iret hE hQ d_Mo_row_63 rfl (by omega) (by omega) (pM_of (S := sC (sR S (fx r) n) 0) hspec V9 (EQS_c E1 rfl rfl) (gW_t W1 (g1_W G9 (by omega) (by omega))))
      | succ u ih =>
        intro k g' th' hu X hth ht1 lv l0 l1 l2 l3
        refine z_sub (lv' := [(0, .ref P), (1, .int (nI (fx r))), (2, .int n), (3, .int (nI k))]) (by simp only [List.map, l0, l1, l2, l3]) ?_
        have m1 : g' P = some (oM P S.2.2.2.1 S.2.2.2.2 ts) := by rw [X P (by omega), ga1 P (by omega)]; exact h0
        refine z_iload_n hE d_Mo_row_35 rfl ?_
        refine z_bipush (v := nI 10) hE d_Mo_row_36 (by decide) ?_
        refine z_icmp_ge (tgt := 58) hE d_Mo_row_38 (by decide) (fun c_ => absurd c_ (fun z => absurd ((nI_LE (by omega) (by omega)).mp z) (by omega))) (fun _ => ?_)
        refine z_aload_n hE d_Mo_row_41 rfl ?_
        refine z_get hE d_Mo_row_42 fl_Mo_7 (by assumption) rfl ?_
        refine z_iload_n hE d_Mo_row_45 rfl ?_
        refine z_iload_n hE d_Mo_row_46 rfl ?_
        refine z_callS hE d_Mo_row_47 cl_Mo_224 (c_Mo_placeOf l g' nx (fx r) k) rfl (Nat.le_of_ble_eq_true rfl) ⟨by decide, by decide⟩ ⟨by omega, by omega⟩ (fun r_47 g_47 nx_47 hp_47 => ?_) rfl
        obtain ⟨rfl, rfl, rfl⟩ := hp_47
        try dsimp only [Option.toList, List.nil_append, List.cons_append]
        refine z_iconst (v := 0) hE d_Mo_row_50 (by decide) ?_
        refine z_zast hE d_Mo_row_51 (by assumption) (nI_in' (by omega : 16 + 10 * fx r + k < 58) (by omega)) ?_
        rw [nI_cl (by omega), show vp_nar .boolean 0 = 0 by decide]
        refine z_iinc (v := nI (k + 1)) hE d_Mo_row_52 rfl (nI_1 k) (by decide) ?_
        refine z_goto (tgt := 35) hE d_Mo_row_55 (by decide) ?_
        refine ih (k + 1) _ _ (by omega) (g1_t X g1_S) gS_s (fun j hj => ?_) _ rfl rfl rfl rfl
        unfold upd
        by_cases h : j = 16 + 10 * fx r + k
        · rw [if_pos h, if_pos (by omega)]
        · rw [if_neg h, ht1 j hj]
          by_cases h2 : 16 + 10 * fx r ≤ j ∧ j < 16 + 10 * fx r + k
          · rw [if_pos h2, if_pos (by omega)]
          · rw [if_neg h2, if_neg (by omega)]
    refine z_iconst (v := nI 0) hE d_Mo_row_33 (by decide) ?_
    refine z_istore_n hE d_Mo_row_34 rfl (by decide) ?_
    exact loop 10 0 ga th (by omega) g1_r (by rw [ga1 _ (by omega)]; exact h1) (fun j hj => by rw [if_neg (by omega)]) _ rfl rfl rfl rfl
  exact go _ rfl (by rw [← er]; rfl) rfl
theorem c_Mo_put (l : Launch) {g : Gh} (nx : Nat) {P : Nat} {S : Sx} (hM : MW g P S) (hO : SOK S) (r k a : Int32) : Ct l m_Mo_put 0 0 [.ref P, .int r, .int k, .int a] g nx (pM g P nx (spPut S r k a)) := by
  obtain ⟨E0, t, ts, hV, hEQ⟩ := hM
  have h0 := hV.1
  obtain ⟨-, ⟨th, h1, h1'⟩, ⟨sn, A, B, h2, h3, h4, b4, b5, b6⟩, ⟨rm, h5, h5'⟩, -⟩ := id hV
  refine Ct.of (by decide) (Nat.le_of_ble_eq_true rfl) (fun E hE hQ => ?_)
  have out : ∀ lv, ¬ (inI r 0 3 ∧ inI a 0 15) → zJ E g nx 0 0 14 lv [] := by
    intro lv h
    refine z_ldc hE d_Mo_put_14 cn_Mo_141 ?_
    exact z_iret hE hQ d_Mo_put_16 rfl (by omega) (by omega) (pM_of (if_neg h) hV hEQ gW_r)
  refine z_iload_n hE d_Mo_put_0 rfl ?_
  refine z_callS hE d_Mo_put_1 cl_Mo_221 (c_Mo_isRow l g nx r) rfl (Nat.le_of_ble_eq_true rfl) ⟨by decide, by decide⟩ ⟨by omega, by omega⟩ (fun r_1 g_1 nx_1 hp_1 => ?_) rfl
  obtain ⟨rfl, rfl, rfl⟩ := hp_1
  try dsimp only [Option.toList, List.nil_append, List.cons_append]
  by_cases hr : inI r 0 3
  case neg =>
    rw [if_neg hr]
    refine z_if_eq (tgt := 14) hE d_Mo_put_4 (by decide) (fun _ => ?_) (fun c_ => absurd c_ (by decide))
    exact out _ (fun q => hr q.1)
  rw [if_pos hr]
  refine z_if_eq (tgt := 14) hE d_Mo_put_4 (by decide) (fun c_ => absurd c_ (by decide)) (fun _ => ?_)
  refine z_iload_n hE d_Mo_put_7 rfl ?_
  refine z_callS hE d_Mo_put_8 cl_Mo_138 (c_Mo_isFraction l g nx a) rfl (Nat.le_of_ble_eq_true rfl) ⟨by decide, by decide⟩ ⟨by omega, by omega⟩ (fun r_8 g_8 nx_8 hp_8 => ?_) rfl
  obtain ⟨rfl, rfl, rfl⟩ := hp_8
  try dsimp only [Option.toList, List.nil_append, List.cons_append]
  by_cases ha : inI a 0 15
  case neg =>
    rw [if_neg ha]
    refine z_if_ne (tgt := 17) hE d_Mo_put_11 (by decide) (fun c_ => absurd c_ (by decide)) (fun _ => ?_)
    exact out _ (fun q => ha q.2)
  rw [if_pos ha]
  refine z_if_ne (tgt := 17) hE d_Mo_put_11 (by decide) (fun _ => ?_) (fun c_ => absurd c_ (by decide))
  obtain ⟨er, zr, hr2⟩ := fx_of hr (by omega) (by omega)
  obtain ⟨ea, za, ha2⟩ := fx_of ha (by omega) (by omega)
  have none1 : ∀ lv, (S.2.1 (fx r) = -1 ∨ S.1 (fx a) = none) → lG lv 0 = some (.ref P) → zJ E g nx 0 0 36 lv [] := by
    intro lv h l0
    refine z_sub (lv' := [(0, .ref P)]) (by simp only [List.map, l0]) ?_
    refine z_aload_n hE d_Mo_put_36 rfl ?_
    refine z_iconst (v := 1) hE d_Mo_put_37 (by decide) ?_
    refine z_callV hE d_Mo_put_38 cl_Mo_106 (c_Mo_fail l nx hV 1) (by assumption) cb_Mo rfl (Nat.le_of_ble_eq_true rfl) ⟨by decide, by decide⟩ ⟨by omega, by omega⟩ (fun r_9 g_9 nx_9 hp_9 => ?_) rfl
    try dsimp only [Option.toList, List.nil_append, List.cons_append]
    obtain ⟨rfl, rfl, V9, G9⟩ := hp_9
    try dsimp only [Option.toList, List.nil_append, List.cons_append]
    refine z_iret hE hQ d_Mo_put_41 rfl (by omega) (by omega) (pM_of (S := sC S 1) ?_ V9 (EQS_c hEQ rfl rfl) (gW_t gW_r (g1_W G9 (by omega) (by omega))))
    unfold spPut
    rw [if_pos ⟨hr, ha⟩]
    cases hq : S.1 (fx a) with
    | none => rfl
    | some q =>
      rcases h with h | h
      · exact if_pos h
      · rw [hq] at h; cases h
  refine z_aload_n hE d_Mo_put_17 rfl ?_
  refine z_get hE d_Mo_put_18 fl_Mo_23 (by assumption) rfl ?_
  refine z_iload_n hE d_Mo_put_21 rfl ?_
  rw [er]
  refine z_iald hE d_Mo_put_22 (by assumption) (nI_in' (by omega : fx r < 4) (by omega)) ?_
  rw [nI_cl (by omega), h5' (fx r) (by omega)]
  refine z_iconst (v := (-1)) hE d_Mo_put_23 (by decide) ?_
  by_cases hm : S.2.1 (fx r) = -1
  case pos =>
    refine z_icmp_eq (tgt := 36) hE d_Mo_put_24 (by decide) (fun _ => ?_) (fun c_ => absurd c_ (fun w => w hm))
    exact none1 _ (Or.inl hm) rfl
  refine z_icmp_eq (tgt := 36) hE d_Mo_put_24 (by decide) (fun c_ => absurd c_ (hm)) (fun _ => ?_)
  refine z_aload_n hE d_Mo_put_27 rfl ?_
  refine z_get hE d_Mo_put_28 fl_Mo_7 (by assumption) rfl ?_
  refine z_iload_n hE d_Mo_put_31 rfl ?_
  rw [ea]
  refine z_zald hE d_Mo_put_32 (by assumption) (nI_in' (by omega : fx a < 58) (by omega)) ?_
  rw [nI_cl (by omega), h1' (fx a) (by omega), hEQ.1 (fx a) (by omega)]
  obtain ⟨x, hx⟩ | hx : (∃ x, S.1 (fx a) = some x) ∨ S.1 (fx a) = none := by cases S.1 (fx a); exact Or.inr rfl; exact Or.inl ⟨_, rfl⟩
  case inr =>
    rw [hx, show (none : Option Qf).isSome = false from rfl, if_neg (by decide)]
    refine z_if_ne (tgt := 42) hE d_Mo_put_33 (by decide) (fun c_ => absurd c_ (fun z => z rfl)) (fun _ => ?_)
    exact none1 _ (Or.inr hx) rfl
  rw [hx, show (some x).isSome = true from rfl, if_pos rfl]
  refine z_if_ne (tgt := 42) hE d_Mo_put_33 (by decide) (fun _ => ?_) (fun c_ => absurd c_ (by decide))
  have kx := S_q hO (by omega) hx
  have ex := (hEQ.1 (fx a) (by omega)).trans hx
  obtain ⟨p, hp, hpe⟩ := (hO.2.1 (fx r) (by omega)).resolve_left hm
  have hspec : spPut S r k a = if 0 ≤ k.toInt ∧ k.toInt < (p : Int) then doneS (sP S (fx r) (fx k) (some x)) 1 else tellS S 3 := by unfold spPut; rw [if_pos ⟨hr, ha⟩, hx]; show (if S.2.1 (fx r) = -1 then _ else _) = _; rw [if_neg hm, hpe, nI_ti (by omega)]
  refine z_iload_n hE d_Mo_put_42 rfl ?_
  refine z_i2l hE d_Mo_put_43 (rfl) ?_
  refine z_lconst (v := 0) hE d_Mo_put_44 (by decide) ?_
  refine z_aload_n hE d_Mo_put_45 rfl ?_
  refine z_get hE d_Mo_put_46 fl_Mo_23 (by assumption) rfl ?_
  refine z_iload_n hE d_Mo_put_49 rfl ?_
  refine z_iald hE d_Mo_put_50 (by assumption) (nI_in' (by omega : fx r < 4) (by omega)) ?_
  rw [nI_cl (by omega), h5' (fx r) (by omega)]
  rw [hpe]
  refine z_iconst (v := nI 1) hE d_Mo_put_51 (by decide) ?_
  refine z_isub hE d_Mo_put_52 (rfl) ?_
  refine z_i2l hE d_Mo_put_53 (rfl) ?_
  have him : (nI p - nI 1).toInt64.toInt = (p : Int) - 1 := by
    rw [Int32.toInt_toInt64]; exact pk_sub_toInt (by omega) (by omega)
  refine z_callS hE d_Mo_put_54 cl_Mo_125 (c_Mo_inI l g nx k 0 (nI p - nI 1).toInt64 0 ((p : Int) - 1) (by decide) him) rfl (Nat.le_of_ble_eq_true rfl) ⟨by decide, by decide⟩ ⟨by omega, by omega⟩ (fun r_54 g_54 nx_54 hp_54 => ?_) rfl
  obtain ⟨rfl, rfl, rfl⟩ := hp_54
  try dsimp only [Option.toList, List.nil_append, List.cons_append]
  by_cases hk : inI k 0 ((p : Int) - 1)
  case neg =>
    rw [if_neg hk]
    refine z_if_ne (tgt := 66) hE d_Mo_put_57 (by decide) (fun c_ => absurd c_ (by decide)) (fun _ => ?_)
    refine z_aload_n hE d_Mo_put_60 rfl ?_
    refine z_iconst (v := 3) hE d_Mo_put_61 (by decide) ?_
    refine z_callV hE d_Mo_put_62 cl_Mo_106 (c_Mo_fail l nx hV 3) (by assumption) cb_Mo rfl (Nat.le_of_ble_eq_true rfl) ⟨by decide, by decide⟩ ⟨by omega, by omega⟩ (fun r_9 g_9 nx_9 hp_9 => ?_) rfl
    try dsimp only [Option.toList, List.nil_append, List.cons_append]
    obtain ⟨rfl, rfl, V9, G9⟩ := hp_9
    try dsimp only [Option.toList, List.nil_append, List.cons_append]
    refine z_iret hE hQ d_Mo_put_65 rfl (by omega) (by omega) (pM_of (S := sC S 3) ?_ V9 (EQS_c hEQ rfl rfl) (gW_t gW_r (g1_W G9 (by omega) (by omega))))
    rw [hspec, if_neg (fun q => hk ⟨q.1, by omega⟩)]; rfl
  rw [if_pos hk]
  refine z_if_ne (tgt := 66) hE d_Mo_put_57 (by decide) (fun _ => ?_) (fun c_ => absurd c_ (by decide))
  rw [if_pos ⟨hk.1, by have := hk.2; omega⟩] at hspec
  obtain ⟨ek, zk, hk2⟩ := fx_of (x := k) (a := 0) (b := 9) ⟨hk.1, by have := hk.2; omega⟩ (by omega) (by omega)
  refine z_aload_n hE d_Mo_put_66 rfl ?_
  refine z_iload_n hE d_Mo_put_67 rfl ?_
  refine z_iload_n hE d_Mo_put_68 rfl ?_
  refine z_iload_n hE d_Mo_put_69 rfl ?_
  rw [ek]
  refine z_callS hE d_Mo_put_70 cl_Mo_224 (c_Mo_placeOf l g nx (fx r) (fx k)) rfl (Nat.le_of_ble_eq_true rfl) ⟨by decide, by decide⟩ ⟨by omega, by omega⟩ (fun r_70 g_70 nx_70 hp_70 => ?_) rfl
  obtain ⟨rfl, rfl, rfl⟩ := hp_70
  try dsimp only [Option.toList, List.nil_append, List.cons_append]
  refine z_callV hE d_Mo_put_73 cl_Mo_149 (c_Mo_same l nx (a := fx a) (b := 16 + 10 * fx r + fx k) hV (by omega) (by omega)) (by assumption) cb_Mo rfl (Nat.le_of_ble_eq_true rfl) ⟨by decide, by decide⟩ ⟨by omega, by omega⟩ (fun r_1 g_1 nx_1 hp_1 => ?_) rfl
  try dsimp only [Option.toList, List.nil_append, List.cons_append]
  obtain ⟨rfl, rfl, V1, W1⟩ := hp_1
  try dsimp only [Option.toList, List.nil_append, List.cons_append]
  rw [ex] at V1
  have m1 := V1.1
  have E1 := EQS_P (r0 := fx r) (k0 := fx k) (q := some x) hEQ (by omega) (by omega)
  refine z_aload_n hE d_Mo_put_76 rfl ?_
  refine z_iconst (v := 1) hE d_Mo_put_77 (by decide) ?_
  refine z_callV hE d_Mo_put_78 cl_Mo_116 (c_Mo_done l nx V1 1) (by assumption) cb_Mo rfl (Nat.le_of_ble_eq_true rfl) ⟨by decide, by decide⟩ ⟨by omega, by omega⟩ (fun r_9 g_9 nx_9 hp_9 => ?_) rfl
  try dsimp only [Option.toList, List.nil_append, List.cons_append]
  obtain ⟨rfl, rfl, V9, G9⟩ := hp_9
  try dsimp only [Option.toList, List.nil_append, List.cons_append]
  refine z_iret hE hQ d_Mo_put_81 rfl (by omega) (by omega) (pM_of (S := sC (sP S (fx r) (fx k) (some x)) 0) ?_ V9 (EQS_c E1 rfl rfl) (gW_t W1 (g1_W G9 (by omega) (by omega))))
  exact hspec
def mvK (b : Bool) (n st : Nat) : Nat := if b then st else n - 1 - st
def mvD (b : Bool) (j n st x : Nat) : Bool := if b then decide (j ≤ x ∧ x < j + st) else decide (j + n ≤ x + st ∧ x < j + n)
theorem mvD_0 (b : Bool) (j n x : Nat) : mvD b j n 0 x = false := by
  unfold mvD; cases b
  · exact decide_eq_false (by omega)
  · exact decide_eq_false (by omega)
theorem mvD_n (b : Bool) (j n x : Nat) : mvD b j n n x = decide (j ≤ x ∧ x < j + n) := by
  unfold mvD; cases b
  · exact decide_eq_decide.mpr (by omega)
  · rfl
theorem mvD_s (b : Bool) {j n st x : Nat} (h : st < n) : mvD b j n (st + 1) x = (mvD b j n st x || decide (x = j + mvK b n st)) := by
  unfold mvD mvK; cases b
  · simp only [Bool.false_eq_true, if_false]
    rw [← Bool.decide_or]; exact decide_eq_decide.mpr (by omega)
  · simp only [if_true]
    rw [← Bool.decide_or]; exact decide_eq_decide.mpr (by omega)
/-- the state in between -/
def mvS (S : Sx) (b : Bool) (r i q j n st : Nat) : Sx := (S.1, S.2.1, fun p x => if p = q ∧ mvD b j n st x = true then S.2.2.1 r (i + (x - j)) else S.2.2.1 p x, S.2.2.2)
theorem c_Mo_move (l : Launch) {g : Gh} (nx : Nat) {P : Nat} {S : Sx} (hM : MW g P S) (hO : SOK S) (r i q j n : Int32) : Ct l m_Mo_move 0 0 [.ref P, .int r, .int i, .int q, .int j, .int n] g nx (pM g P nx (spMove S r i q j n)) := by
  obtain ⟨E0, t, ts, hV, hEQ⟩ := hM
  have h0 := hV.1
  obtain ⟨-, ⟨th, h1, h1'⟩, ⟨sn, A, B, h2, h3, h4, b4, b5, b6⟩, ⟨rm, h5, h5'⟩, -⟩ := id hV
  refine Ct.of (by decide) (Nat.le_of_ble_eq_true rfl) (fun E hE hQ => ?_)
  have out : ∀ lv, ¬ (inI r 0 3 ∧ inI q 0 3) → zJ E g nx 0 0 14 lv [] := by
    intro lv h
    refine z_ldc hE d_Mo_move_14 cn_Mo_141 ?_
    exact z_iret hE hQ d_Mo_move_16 rfl (by omega) (by omega) (pM_of (if_neg h) hV hEQ gW_r)
  refine z_iload_n hE d_Mo_move_0 rfl ?_
  refine z_callS hE d_Mo_move_1 cl_Mo_221 (c_Mo_isRow l g nx r) rfl (Nat.le_of_ble_eq_true rfl) ⟨by decide, by decide⟩ ⟨by omega, by omega⟩ (fun r_1 g_1 nx_1 hp_1 => ?_) rfl
  obtain ⟨rfl, rfl, rfl⟩ := hp_1
  try dsimp only [Option.toList, List.nil_append, List.cons_append]
  by_cases hr : inI r 0 3
  case neg =>
    rw [if_neg hr]
    refine z_if_eq (tgt := 14) hE d_Mo_move_4 (by decide) (fun _ => ?_) (fun c_ => absurd c_ (by decide))
    exact out _ (fun z => hr z.1)
  rw [if_pos hr]
  refine z_if_eq (tgt := 14) hE d_Mo_move_4 (by decide) (fun c_ => absurd c_ (by decide)) (fun _ => ?_)
  refine z_iload_n hE d_Mo_move_7 rfl ?_
  refine z_callS hE d_Mo_move_8 cl_Mo_221 (c_Mo_isRow l g nx q) rfl (Nat.le_of_ble_eq_true rfl) ⟨by decide, by decide⟩ ⟨by omega, by omega⟩ (fun r_8 g_8 nx_8 hp_8 => ?_) rfl
  obtain ⟨rfl, rfl, rfl⟩ := hp_8
  try dsimp only [Option.toList, List.nil_append, List.cons_append]
  by_cases hq : inI q 0 3
  case neg =>
    rw [if_neg hq]
    refine z_if_ne (tgt := 17) hE d_Mo_move_11 (by decide) (fun c_ => absurd c_ (by decide)) (fun _ => ?_)
    exact out _ (fun z => hq z.2)
  rw [if_pos hq]
  refine z_if_ne (tgt := 17) hE d_Mo_move_11 (by decide) (fun _ => ?_) (fun c_ => absurd c_ (by decide))
  obtain ⟨er, zr, hr2⟩ := fx_of hr (by omega) (by omega)
  obtain ⟨eq, zq, hq2⟩ := fx_of hq (by omega) (by omega)
  have none1 : ∀ lv, (S.2.1 (fx r) = -1 ∨ S.2.1 (fx q) = -1) → lG lv 0 = some (.ref P) → zJ E g nx 0 0 37 lv [] := by
    intro lv h l0
    refine z_sub (lv' := [(0, .ref P)]) (by simp only [List.map, l0]) ?_
    refine z_aload_n hE d_Mo_move_37 rfl ?_
    refine z_iconst (v := 1) hE d_Mo_move_38 (by decide) ?_
    refine z_callV hE d_Mo_move_39 cl_Mo_106 (c_Mo_fail l nx hV 1) (by assumption) cb_Mo rfl (Nat.le_of_ble_eq_true rfl) ⟨by decide, by decide⟩ ⟨by omega, by omega⟩ (fun r_9 g_9 nx_9 hp_9 => ?_) rfl
    try dsimp only [Option.toList, List.nil_append, List.cons_append]
    obtain ⟨rfl, rfl, V9, G9⟩ := hp_9
    try dsimp only [Option.toList, List.nil_append, List.cons_append]
    refine z_iret hE hQ d_Mo_move_42 rfl (by omega) (by omega) (pM_of (S := sC S 1) ?_ V9 (EQS_c hEQ rfl rfl) (gW_t gW_r (g1_W G9 (by omega) (by omega))))
    unfold spMove; rw [if_pos ⟨hr, hq⟩]; exact if_pos h
  refine z_aload_n hE d_Mo_move_17 rfl ?_
  refine z_get hE d_Mo_move_18 fl_Mo_23 (by assumption) rfl ?_
  refine z_iload_n hE d_Mo_move_21 rfl ?_
  rw [er]
  refine z_iald hE d_Mo_move_22 (by assumption) (nI_in' (by omega : fx r < 4) (by omega)) ?_
  rw [nI_cl (by omega), h5' (fx r) (by omega)]
  refine z_iconst (v := (-1)) hE d_Mo_move_23 (by decide) ?_
  by_cases hm : S.2.1 (fx r) = -1
  case pos =>
    refine z_icmp_eq (tgt := 37) hE d_Mo_move_24 (by decide) (fun _ => ?_) (fun c_ => absurd c_ (fun w => w hm))
    exact none1 _ (Or.inl hm) rfl
  refine z_icmp_eq (tgt := 37) hE d_Mo_move_24 (by decide) (fun c_ => absurd c_ (hm)) (fun _ => ?_)
  refine z_aload_n hE d_Mo_move_27 rfl ?_
  refine z_get hE d_Mo_move_28 fl_Mo_23 (by assumption) rfl ?_
  refine z_iload_n hE d_Mo_move_31 rfl ?_
  try rw [eq]
  refine z_iald hE d_Mo_move_32 (by assumption) (nI_in' (by omega : fx q < 4) (by omega)) ?_
  rw [nI_cl (by omega), h5' (fx q) (by omega)]
  refine z_iconst (v := (-1)) hE d_Mo_move_33 (by decide) ?_
  by_cases hm2 : S.2.1 (fx q) = -1
  case pos =>
    refine z_icmp_ne (tgt := 43) hE d_Mo_move_34 (by decide) (fun c_ => absurd c_ (fun w => w hm2)) (fun _ => ?_)
    exact none1 _ (Or.inr hm2) rfl
  refine z_icmp_ne (tgt := 43) hE d_Mo_move_34 (by decide) (fun _ => ?_) (fun c_ => absurd c_ (hm2))
  obtain ⟨p, hp, hpe⟩ := (hO.2.1 (fx r) (by omega)).resolve_left hm
  obtain ⟨p2, hp2, hpe2⟩ := (hO.2.1 (fx q) (by omega)).resolve_left hm2
  have hspec : spMove S r i q j n = if (0 ≤ i.toInt ∧ 0 ≤ n.toInt ∧ i.toInt + n.toInt ≤ (p : Int)) ∧ 0 ≤ j.toInt ∧ 0 ≤ n.toInt ∧ j.toInt + n.toInt ≤ (p2 : Int) then doneS (sM S (fx r) (fx i) (fx q) (fx j) (fx n)) n else tellS S 3 := by unfold spMove; rw [if_pos ⟨hr, hq⟩, if_neg (fun z => z.elim hm hm2), hpe, hpe2, nI_ti (by omega), nI_ti (by omega)]
  have bad : ∀ lv, ¬ ((0 ≤ i.toInt ∧ 0 ≤ n.toInt ∧ i.toInt + n.toInt ≤ (p : Int)) ∧ 0 ≤ j.toInt ∧ 0 ≤ n.toInt ∧ j.toInt + n.toInt ≤ (p2 : Int)) → lG lv 0 = some (.ref P) → zJ E g nx 0 0 92 lv [] := by
    intro lv h l0
    refine z_sub (lv' := [(0, .ref P)]) (by simp only [List.map, l0]) ?_
    refine z_aload_n hE d_Mo_move_92 rfl ?_
    refine z_iconst (v := 3) hE d_Mo_move_93 (by decide) ?_
    refine z_callV hE d_Mo_move_94 cl_Mo_106 (c_Mo_fail l nx hV 3) (by assumption) cb_Mo rfl (Nat.le_of_ble_eq_true rfl) ⟨by decide, by decide⟩ ⟨by omega, by omega⟩ (fun r_9 g_9 nx_9 hp_9 => ?_) rfl
    try dsimp only [Option.toList, List.nil_append, List.cons_append]
    obtain ⟨rfl, rfl, V9, G9⟩ := hp_9
    try dsimp only [Option.toList, List.nil_append, List.cons_append]
    refine z_iret hE hQ d_Mo_move_97 rfl (by omega) (by omega) (pM_of (S := sC S 3) ?_ V9 (EQS_c hEQ rfl rfl) (gW_t gW_r (g1_W G9 (by omega) (by omega))))
    rw [hspec, if_neg h]; rfl
  have lsum : ∀ x y : Int32, (x.toInt64 + y.toInt64).toInt = x.toInt + y.toInt := by
    intro x y
    have b1 := x.le_toInt
    have b2 := x.toInt_lt
    have b3 := y.le_toInt
    have b4 := y.toInt_lt
    rw [Int64.toInt_add, Int32.toInt_toInt64, Int32.toInt_toInt64]
    exact Int.bmod_eq_of_le (by omega) (by omega)
  refine z_iload_n hE d_Mo_move_43 rfl ?_
  by_cases hi0 : i.toInt < 0
  case pos =>
    refine z_if_lt (tgt := 92) hE d_Mo_move_44 (by decide) (fun _ => ?_) (fun c_ => absurd c_ (fun w => w (i_lt0.mpr hi0)))
    exact bad _ (fun w => by have := w.1.1; omega) rfl
  refine z_if_lt (tgt := 92) hE d_Mo_move_44 (by decide) (fun c_ => absurd c_ (fun w => hi0 (i_lt0.mp w))) (fun _ => ?_)
  refine z_iload hE d_Mo_move_47 rfl ?_
  by_cases hj0 : j.toInt < 0
  case pos =>
    refine z_if_lt (tgt := 92) hE d_Mo_move_49 (by decide) (fun _ => ?_) (fun c_ => absurd c_ (fun w => w (i_lt0.mpr hj0)))
    exact bad _ (fun w => by have := w.2.1; omega) rfl
  refine z_if_lt (tgt := 92) hE d_Mo_move_49 (by decide) (fun c_ => absurd c_ (fun w => hj0 (i_lt0.mp w))) (fun _ => ?_)
  refine z_iload hE d_Mo_move_52 rfl ?_
  by_cases hn0 : n.toInt < 0
  case pos =>
    refine z_if_lt (tgt := 92) hE d_Mo_move_54 (by decide) (fun _ => ?_) (fun c_ => absurd c_ (fun w => w (i_lt0.mpr hn0)))
    exact bad _ (fun w => by have := w.1.2.1; omega) rfl
  refine z_if_lt (tgt := 92) hE d_Mo_move_54 (by decide) (fun c_ => absurd c_ (fun w => hn0 (i_lt0.mp w))) (fun _ => ?_)
  refine z_iload_n hE d_Mo_move_57 rfl ?_
  refine z_i2l hE d_Mo_move_58 (rfl) ?_
  refine z_iload hE d_Mo_move_59 rfl ?_
  refine z_i2l hE d_Mo_move_61 (rfl) ?_
  refine z_ladd hE d_Mo_move_62 (rfl) ?_
  refine z_aload_n hE d_Mo_move_63 rfl ?_
  refine z_get hE d_Mo_move_64 fl_Mo_23 (by assumption) rfl ?_
  refine z_iload_n hE d_Mo_move_67 rfl ?_
  refine z_iald hE d_Mo_move_68 (by assumption) (nI_in' (by omega : fx r < 4) (by omega)) ?_
  rw [nI_cl (by omega), h5' (fx r) (by omega)]
  rw [hpe]
  refine z_i2l (v := lN p) hE d_Mo_move_69 (nI_l (by omega)) ?_
  refine z_lcmp hE d_Mo_move_70 ?_
  have tp : (lN p).toInt = (p : Int) := by rw [← nI_l (n := p) (by omega), Int32.toInt_toInt64, nI_ti (by omega)]
  have tp2 : (lN p2).toInt = (p2 : Int) := by rw [← nI_l (n := p2) (by omega), Int32.toInt_toInt64, nI_ti (by omega)]
  by_cases hin : i.toInt + n.toInt ≤ (p : Int)
  case neg =>
    refine z_if_gt (tgt := 92) hE d_Mo_move_71 (by decide) (fun _ => ?_) (fun c_ => absurd c_ (fun w => w (by rw [lg_cmp_gt, Int64.lt_iff_toInt_lt, lsum, tp]; omega)))
    exact bad _ (fun w => hin w.1.2.2) rfl
  refine z_if_gt (tgt := 92) hE d_Mo_move_71 (by decide) (fun c_ => absurd c_ (fun w => by rw [lg_cmp_gt, Int64.lt_iff_toInt_lt, lsum, tp] at w; omega)) (fun _ => ?_)
  refine z_iload hE d_Mo_move_74 rfl ?_
  refine z_i2l hE d_Mo_move_76 (rfl) ?_
  refine z_iload hE d_Mo_move_77 rfl ?_
  refine z_i2l hE d_Mo_move_79 (rfl) ?_
  refine z_ladd hE d_Mo_move_80 (rfl) ?_
  refine z_aload_n hE d_Mo_move_81 rfl ?_
  refine z_get hE d_Mo_move_82 fl_Mo_23 (by assumption) rfl ?_
  refine z_iload_n hE d_Mo_move_85 rfl ?_
  refine z_iald hE d_Mo_move_86 (by assumption) (nI_in' (by omega : fx q < 4) (by omega)) ?_
  rw [nI_cl (by omega), h5' (fx q) (by omega)]
  rw [hpe2]
  refine z_i2l (v := lN p2) hE d_Mo_move_87 (nI_l (by omega)) ?_
  refine z_lcmp hE d_Mo_move_88 ?_
  by_cases hjn : j.toInt + n.toInt ≤ (p2 : Int)
  case neg =>
    refine z_if_le (tgt := 98) hE d_Mo_move_89 (by decide) (fun c_ => absurd c_ (fun w => by rw [lg_cmp_le, Int64.le_iff_toInt_le, lsum, tp2] at w; exact hjn w)) (fun _ => ?_)
    exact bad _ (fun w => hjn w.2.2.2) rfl
  refine z_if_le (tgt := 98) hE d_Mo_move_89 (by decide) (fun _ => ?_) (fun c_ => absurd c_ (fun w => w (by rw [lg_cmp_le, Int64.le_iff_toInt_le, lsum, tp2]; exact hjn)))
  rw [if_pos ⟨⟨by omega, by omega, hin⟩, by omega, by omega, hjn⟩] at hspec
  obtain ⟨ei, zi, hi2⟩ := fx_of (x := i) (a := 0) (b := 10) ⟨by omega, by omega⟩ (by omega) (by omega)
  obtain ⟨ej, zj, hj2⟩ := fx_of (x := j) (a := 0) (b := 10) ⟨by omega, by omega⟩ (by omega) (by omega)
  obtain ⟨en, zn, hn2⟩ := fx_of (x := n) (a := 0) (b := 10) ⟨by omega, by omega⟩ (by omega) (by omega)
  obtain ⟨R, hRr⟩ : ∃ R, fx r = R := ⟨_, rfl⟩
  obtain ⟨Q, hQq⟩ : ∃ Q, fx q = Q := ⟨_, rfl⟩
  obtain ⟨I, hI⟩ : ∃ I, fx i = I := ⟨_, rfl⟩
  obtain ⟨J, hJ⟩ : ∃ J, fx j = J := ⟨_, rfl⟩
  obtain ⟨N, hN⟩ : ∃ N, fx n = N := ⟨_, rfl⟩
  rw [hRr] at er zr hspec
  rw [hQq] at eq zq hspec
  rw [hI] at ei zi hspec
  rw [hJ] at ej zj hspec
  rw [hN] at en zn hspec
  have bR : R ≤ 3 := by omega
  have bQ : Q ≤ 3 := by omega
  obtain ⟨asc, hasc⟩ : ∃ asc : Bool, asc = decide (¬ (R = Q ∧ I < J)) := ⟨_, rfl⟩
  have loop : ∀ (u k : Nat) (g' : Gh) (E1 : Nat → Option Qf), k + u = N → MV g' P E1 S.2.1 S.2.2.2.1 S.2.2.2.2 ts t → gW g g' P (P + 14) → EQS E1 (mvS S asc R I Q J N k) → ∀ lv, lG lv 0 = some (.ref P) → lG lv 1 = some (.int (nI R)) → lG lv 2 = some (.int (nI I)) → lG lv 3 = some (.int (nI Q)) → lG lv 4 = some (.int (nI J)) → lG lv 5 = some (.int (nI N)) → lG lv 6 = some (.int (nI k)) → zJ E g' nx 0 0 101 lv [] := by
    intro u
    induction u with
    | zero =>
      intro k g' E1 hu V1 W1 hS1 lv l0 l1 l2 l3 l4 l5 l6
      refine z_sub (lv' := [(0, .ref P), (1, .int (nI R)), (2, .int (nI I)), (3, .int (nI Q)), (4, .int (nI J)), (5, .int (nI N)), (6, .int (nI k))]) (by simp only [List.map, l0, l1, l2, l3, l4, l5, l6]) ?_
      obtain rfl : N = k := by omega
      have m1 := V1.1
      refine z_iload hE d_Mo_move_101 rfl ?_
      refine z_iload hE d_Mo_move_103 rfl ?_
      refine z_icmp_ge (tgt := 160) hE d_Mo_move_105 (by decide) (fun _ => ?_) (fun c_ => absurd c_ (fun z => z ((nI_LE (by omega) (by omega)).mpr (by omega))))
      refine z_aload_n hE d_Mo_move_160 rfl ?_
      refine z_iload hE d_Mo_move_161 rfl ?_
      refine z_callV hE d_Mo_move_163 cl_Mo_116 (c_Mo_done l nx V1 (nI N)) (by assumption) cb_Mo rfl (Nat.le_of_ble_eq_true rfl) ⟨by decide, by decide⟩ ⟨by omega, by omega⟩ (fun r_9 g_9 nx_9 hp_9 => ?_) rfl
      try dsimp only [Option.toList, List.nil_append, List.cons_append]
      obtain ⟨rfl, rfl, V9, G9⟩ := hp_9
      try dsimp only [Option.toList, List.nil_append, List.cons_append]
      refine z_iret hE hQ d_Mo_move_166 rfl (by omega) (by omega) (pM_of (S := sC (sM S R I Q J N) 0) ?_ V9 (EQS_e hS1 (fun _ _ => rfl) (fun p hp x hx => ?_)) (gW_t W1 (g1_W G9 (by omega) (by omega))))
      · rw [hspec]; unfold doneS; rw [en]
      · show (if p = Q ∧ J ≤ x ∧ x < J + N then _ else _) = (if p = Q ∧ mvD asc J N N x = true then _ else _)
        rw [mvD_n]
        by_cases h : p = Q ∧ J ≤ x ∧ x < J + N
        · rw [if_pos h, if_pos ⟨h.1, decide_eq_true h.2⟩]
        · rw [if_neg h, if_neg (fun w => h ⟨w.1, of_decide_eq_true w.2⟩)]
    | succ u ih =>
      intro k g' E1 hu V1 W1 hS1 lv l0 l1 l2 l3 l4 l5 l6
      refine z_sub (lv' := [(0, .ref P), (1, .int (nI R)), (2, .int (nI I)), (3, .int (nI Q)), (4, .int (nI J)), (5, .int (nI N)), (6, .int (nI k))]) (by simp only [List.map, l0, l1, l2, l3, l4, l5, l6]) ?_
      have m1 := V1.1
      refine z_iload hE d_Mo_move_101 rfl ?_
      refine z_iload hE d_Mo_move_103 rfl ?_
      refine z_icmp_ge (tgt := 160) hE d_Mo_move_105 (by decide) (fun c_ => absurd c_ (fun z => absurd ((nI_LE (by omega) (by omega)).mp z) (by omega))) (fun _ => ?_)
      have hkl : k < N := by omega
      have hK : mvK asc N k < N := by unfold mvK; split <;> omega
      have rest : ∀ lv, lG lv 0 = some (.ref P) → lG lv 1 = some (.int (nI R)) → lG lv 2 = some (.int (nI I)) → lG lv 3 = some (.int (nI Q)) → lG lv 4 = some (.int (nI J)) → lG lv 5 = some (.int (nI N)) → lG lv 6 = some (.int (nI k)) → zJ E g' nx 0 0 131 lv [.int (nI (mvK asc N k))] := by
        intro lv l0 l1 l2 l3 l4 l5 l6
        refine z_sub (lv' := [(0, .ref P), (1, .int (nI R)), (2, .int (nI I)), (3, .int (nI Q)), (4, .int (nI J)), (5, .int (nI N)), (6, .int (nI k))]) (by simp only [List.map, l0, l1, l2, l3, l4, l5, l6]) ?_
        refine z_istore hE d_Mo_move_131 (by decide) ?_
        refine z_aload_n hE d_Mo_move_133 rfl ?_
        refine z_iload_n hE d_Mo_move_134 rfl ?_
        refine z_iload_n hE d_Mo_move_135 rfl ?_
        refine z_iload hE d_Mo_move_136 rfl ?_
        refine z_iadd (v := nI (I + mvK asc N k)) hE d_Mo_move_138 (nI_add _ _) ?_
        refine z_callS hE d_Mo_move_139 cl_Mo_224 (c_Mo_placeOf l g' nx R (I + mvK asc N k)) rfl (Nat.le_of_ble_eq_true rfl) ⟨by decide, by decide⟩ ⟨by omega, by omega⟩ (fun r_139 g_139 nx_139 hp_139 => ?_) rfl
        obtain ⟨rfl, rfl, rfl⟩ := hp_139
        try dsimp only [Option.toList, List.nil_append, List.cons_append]
        refine z_iload_n hE d_Mo_move_142 rfl ?_
        refine z_iload hE d_Mo_move_143 rfl ?_
        refine z_iload hE d_Mo_move_145 rfl ?_
        refine z_iadd (v := nI (J + mvK asc N k)) hE d_Mo_move_147 (nI_add _ _) ?_
        refine z_callS hE d_Mo_move_148 cl_Mo_224 (c_Mo_placeOf l g' nx Q (J + mvK asc N k)) rfl (Nat.le_of_ble_eq_true rfl) ⟨by decide, by decide⟩ ⟨by omega, by omega⟩ (fun r_148 g_148 nx_148 hp_148 => ?_) rfl
        obtain ⟨rfl, rfl, rfl⟩ := hp_148
        try dsimp only [Option.toList, List.nil_append, List.cons_append]
        refine z_callV hE d_Mo_move_151 cl_Mo_149 (c_Mo_same l nx (a := 16 + 10 * R + (I + mvK asc N k)) (b := 16 + 10 * Q + (J + mvK asc N k)) V1 (by omega) (by omega)) (by assumption) cb_Mo rfl (Nat.le_of_ble_eq_true rfl) ⟨by decide, by decide⟩ ⟨by omega, by omega⟩ (fun r_1 g_1 nx_1 hp_1 => ?_) rfl
        try dsimp only [Option.toList, List.nil_append, List.cons_append]
        obtain ⟨rfl, rfl, V2, W2⟩ := hp_1
        try dsimp only [Option.toList, List.nil_append, List.cons_append]
        have hrd : E1 (16 + 10 * R + (I + mvK asc N k)) = S.2.2.1 R (I + mvK asc N k) := by
          rw [hS1.2 R (by omega) _ (by omega)]
          show (if R = Q ∧ mvD asc J N k (I + mvK asc N k) = true then _ else _) = _
          rw [if_neg]
          rintro ⟨w1, w2⟩
          unfold mvD mvK at w2
          cases asc with
          | true =>
            have ha := of_decide_eq_true hasc.symm
            simp only [if_true] at w2
            have := of_decide_eq_true w2
            omega
          | false =>
            simp only [Bool.false_eq_true, if_false] at w2
            have := of_decide_eq_true w2
            have ha : ¬ ¬ (R = Q ∧ I < J) := of_decide_eq_false hasc.symm
            omega
        rw [hrd] at V2
        have E2 := EQS_P (r0 := Q) (k0 := J + mvK asc N k) (q := S.2.2.1 R (I + mvK asc N k)) hS1 (by omega) (by omega)
        refine z_iinc (v := nI (k + 1)) hE d_Mo_move_154 rfl (nI_1 k) (by decide) ?_
        refine z_goto (tgt := 101) hE d_Mo_move_157 (by decide) ?_
        refine ih (k + 1) _ _ (by omega) V2 (gW_t W1 W2) (EQS_e E2 (fun _ _ => rfl) (fun p hp x hx => ?_)) _ rfl rfl rfl rfl rfl rfl rfl
        show (if p = Q ∧ mvD asc J N (k + 1) x = true then _ else _) = (if p = Q ∧ x = J + mvK asc N k then _ else if p = Q ∧ mvD asc J N k x = true then _ else _)
        rw [mvD_s asc hkl]
        by_cases h1 : p = Q ∧ x = J + mvK asc N k
        · rw [if_pos h1, if_pos ⟨h1.1, by rw [decide_eq_true h1.2, Bool.or_true]⟩, h1.2, Nat.add_sub_cancel_left]
        · rw [if_neg h1]
          by_cases h2 : p = Q ∧ mvD asc J N k x = true
          · rw [if_pos h2, if_pos ⟨h2.1, by rw [h2.2, Bool.true_or]⟩]
          · rw [if_neg h2, if_neg]
            rintro ⟨w1, w2⟩
            rcases Bool.or_eq_true_iff.mp w2 with z | z
            · exact h2 ⟨w1, z⟩
            · exact h1 ⟨w1, of_decide_eq_true z⟩
      refine z_iload_n hE d_Mo_move_108 rfl ?_
      refine z_iload_n hE d_Mo_move_109 rfl ?_
      by_cases hRQ : R = Q
      · refine z_icmp_ne (tgt := 129) hE d_Mo_move_110 (by decide) (fun c_ => absurd c_ (fun w => w (by rw [hRQ]))) (fun _ => ?_)
        refine z_iload_n hE d_Mo_move_113 rfl ?_
        refine z_iload hE d_Mo_move_114 rfl ?_
        by_cases hIJ : I < J
        · have ha : asc = false := by rw [hasc]; exact decide_eq_false (fun w => w ⟨hRQ, hIJ⟩)
          have hKe : mvK asc N k = N - 1 - k := by rw [ha]; rfl
          refine z_icmp_ge (tgt := 129) hE d_Mo_move_116 (by decide) (fun c_ => absurd c_ (fun w => absurd ((nI_LE (by omega) (by omega)).mp w) (by omega))) (fun _ => ?_)
          refine z_iload hE d_Mo_move_119 rfl ?_
          refine z_iconst (v := nI 1) hE d_Mo_move_121 (by decide) ?_
          refine z_isub (v := nI (N - 1)) hE d_Mo_move_122 (pk_sub (by omega)) ?_
          refine z_iload hE d_Mo_move_123 rfl ?_
          refine z_isub (v := nI (N - 1 - k)) hE d_Mo_move_125 (pk_sub (by omega)) ?_
          refine z_goto (tgt := 131) hE d_Mo_move_126 (by decide) ?_
          rw [← hKe]
          exact rest _ rfl rfl rfl rfl rfl rfl rfl
        · have ha : asc = true := by rw [hasc]; exact decide_eq_true (fun w => hIJ w.2)
          have hKe : mvK asc N k = k := by rw [ha]; rfl
          refine z_icmp_ge (tgt := 129) hE d_Mo_move_116 (by decide) (fun _ => ?_) (fun c_ => absurd c_ (fun w => w ((nI_LE (by omega) (by omega)).mpr (by omega))))
          refine z_iload hE d_Mo_move_129 rfl ?_
          have hh := rest [(0, .ref P), (1, .int (nI R)), (2, .int (nI I)), (3, .int (nI Q)), (4, .int (nI J)), (5, .int (nI N)), (6, .int (nI k))] rfl rfl rfl rfl rfl rfl rfl
          rw [hKe] at hh
          exact hh
      · have ha : asc = true := by rw [hasc]; exact decide_eq_true (fun w => hRQ w.1)
        have hKe : mvK asc N k = k := by rw [ha]; rfl
        refine z_icmp_ne (tgt := 129) hE d_Mo_move_110 (by decide) (fun _ => ?_) (fun c_ => absurd c_ (fun w => hRQ ((nI_EQ (by omega) (by omega)).mp w)))
        refine z_iload hE d_Mo_move_129 rfl ?_
        have hh := rest [(0, .ref P), (1, .int (nI R)), (2, .int (nI I)), (3, .int (nI Q)), (4, .int (nI J)), (5, .int (nI N)), (6, .int (nI k))] rfl rfl rfl rfl rfl rfl rfl
        rw [hKe] at hh
        exact hh
  refine z_iconst (v := nI 0) hE d_Mo_move_98 (by decide) ?_
  refine z_istore hE d_Mo_move_99 (by decide) ?_
  refine loop N 0 g E0 (by omega) hV gW_r (EQS_e hEQ (fun _ _ => rfl) (fun p hp x hx => ?_)) _ rfl ?_ ?_ ?_ ?_ ?_ rfl
  · show (if p = Q ∧ mvD asc J N 0 x = true then _ else _) = _
    rw [if_neg (fun w => by rw [mvD_0] at w; exact absurd w.2 (by decide))]
  · rw [← hRr]; rfl
  · rw [← ei]; rfl
  · rw [← hQq]; rfl
  · rw [← ej]; rfl
  · rw [← en]; rfl

