/-! Longs -/
theorem d_Ls_divides_0 : decode b_Ls_divides 0 = .ok (.iload_n 0, 1) := by decide +kernel
theorem d_Ls_divides_1 : decode b_Ls_divides 1 = .ok (.iconst 5, 1) := by decide +kernel
theorem d_Ls_divides_2 : decode b_Ls_divides 2 = .ok (.if_icmp .eq 15, 3) := by decide +kernel
theorem d_Ls_divides_5 : decode b_Ls_divides 5 = .ok (.iload_n 0, 1) := by decide +kernel
theorem d_Ls_divides_6 : decode b_Ls_divides 6 = .ok (.bipush 6, 2) := by decide +kernel
theorem d_Ls_divides_8 : decode b_Ls_divides 8 = .ok (.if_icmp .eq 9, 3) := by decide +kernel
theorem d_Ls_divides_11 : decode b_Ls_divides 11 = .ok (.iload_n 0, 1) := by decide +kernel
theorem d_Ls_divides_12 : decode b_Ls_divides 12 = .ok (.bipush 7, 2) := by decide +kernel
theorem d_Ls_divides_14 : decode b_Ls_divides 14 = .ok (.if_icmp .ne 7, 3) := by decide +kernel
theorem d_Ls_divides_17 : decode b_Ls_divides 17 = .ok (.iconst 1, 1) := by decide +kernel
theorem d_Ls_divides_18 : decode b_Ls_divides 18 = .ok (.goto 4, 3) := by decide +kernel
theorem d_Ls_divides_21 : decode b_Ls_divides 21 = .ok (.iconst 0, 1) := by decide +kernel
theorem d_Ls_divides_22 : decode b_Ls_divides 22 = .ok (.ireturn, 1) := by decide +kernel
theorem d_Ls_fits_0 : decode b_Ls_fits 0 = .ok (.iload_n 0, 1) := by decide +kernel
theorem d_Ls_fits_1 : decode b_Ls_fits 1 = .ok (.tableswitch 145 0 7 #[47, 69, 89, 95, 109, 123, 145, 123], 47) := by decide +kernel
theorem d_Ls_fits_48 : decode b_Ls_fits 48 = .ok (.lload_n 1, 1) := by decide +kernel
theorem d_Ls_fits_49 : decode b_Ls_fits 49 = .ok (.lload_n 1, 1) := by decide +kernel
theorem d_Ls_fits_50 : decode b_Ls_fits 50 = .ok (.lload_n 3, 1) := by decide +kernel
theorem d_Ls_fits_51 : decode b_Ls_fits 51 = .ok (.ladd, 1) := by decide +kernel
theorem d_Ls_fits_52 : decode b_Ls_fits 52 = .ok (.lxor, 1) := by decide +kernel
theorem d_Ls_fits_53 : decode b_Ls_fits 53 = .ok (.lload_n 3, 1) := by decide +kernel
theorem d_Ls_fits_54 : decode b_Ls_fits 54 = .ok (.lload_n 1, 1) := by decide +kernel
theorem d_Ls_fits_55 : decode b_Ls_fits 55 = .ok (.lload_n 3, 1) := by decide +kernel
theorem d_Ls_fits_56 : decode b_Ls_fits 56 = .ok (.ladd, 1) := by decide +kernel
theorem d_Ls_fits_57 : decode b_Ls_fits 57 = .ok (.lxor, 1) := by decide +kernel
theorem d_Ls_fits_58 : decode b_Ls_fits 58 = .ok (.land, 1) := by decide +kernel
theorem d_Ls_fits_59 : decode b_Ls_fits 59 = .ok (.lconst 0, 1) := by decide +kernel
theorem d_Ls_fits_60 : decode b_Ls_fits 60 = .ok (.lcmp, 1) := by decide +kernel
theorem d_Ls_fits_61 : decode b_Ls_fits 61 = .ok (.ifCond .lt 7, 3) := by decide +kernel
theorem d_Ls_fits_64 : decode b_Ls_fits 64 = .ok (.iconst 1, 1) := by decide +kernel
theorem d_Ls_fits_65 : decode b_Ls_fits 65 = .ok (.goto 4, 3) := by decide +kernel
theorem d_Ls_fits_68 : decode b_Ls_fits 68 = .ok (.iconst 0, 1) := by decide +kernel
theorem d_Ls_fits_69 : decode b_Ls_fits 69 = .ok (.ireturn, 1) := by decide +kernel
theorem d_Ls_fits_70 : decode b_Ls_fits 70 = .ok (.lload_n 1, 1) := by decide +kernel
theorem d_Ls_fits_71 : decode b_Ls_fits 71 = .ok (.lload_n 3, 1) := by decide +kernel
theorem d_Ls_fits_72 : decode b_Ls_fits 72 = .ok (.lxor, 1) := by decide +kernel
theorem d_Ls_fits_73 : decode b_Ls_fits 73 = .ok (.lload_n 1, 1) := by decide +kernel
theorem d_Ls_fits_74 : decode b_Ls_fits 74 = .ok (.lload_n 1, 1) := by decide +kernel
theorem d_Ls_fits_75 : decode b_Ls_fits 75 = .ok (.lload_n 3, 1) := by decide +kernel
theorem d_Ls_fits_76 : decode b_Ls_fits 76 = .ok (.lsub, 1) := by decide +kernel
theorem d_Ls_fits_77 : decode b_Ls_fits 77 = .ok (.lxor, 1) := by decide +kernel
theorem d_Ls_fits_78 : decode b_Ls_fits 78 = .ok (.land, 1) := by decide +kernel
theorem d_Ls_fits_79 : decode b_Ls_fits 79 = .ok (.lconst 0, 1) := by decide +kernel
theorem d_Ls_fits_80 : decode b_Ls_fits 80 = .ok (.lcmp, 1) := by decide +kernel
theorem d_Ls_fits_81 : decode b_Ls_fits 81 = .ok (.ifCond .lt 7, 3) := by decide +kernel
theorem d_Ls_fits_84 : decode b_Ls_fits 84 = .ok (.iconst 1, 1) := by decide +kernel
theorem d_Ls_fits_85 : decode b_Ls_fits 85 = .ok (.goto 4, 3) := by decide +kernel
theorem d_Ls_fits_88 : decode b_Ls_fits 88 = .ok (.iconst 0, 1) := by decide +kernel
theorem d_Ls_fits_89 : decode b_Ls_fits 89 = .ok (.ireturn, 1) := by decide +kernel
theorem d_Ls_fits_90 : decode b_Ls_fits 90 = .ok (.lload_n 1, 1) := by decide +kernel
theorem d_Ls_fits_91 : decode b_Ls_fits 91 = .ok (.lload_n 3, 1) := by decide +kernel
theorem d_Ls_fits_92 : decode b_Ls_fits 92 = .ok (.invokestatic 11, 3) := by decide +kernel
theorem d_Ls_fits_95 : decode b_Ls_fits 95 = .ok (.ireturn, 1) := by decide +kernel
theorem d_Ls_fits_96 : decode b_Ls_fits 96 = .ok (.lload_n 1, 1) := by decide +kernel
theorem d_Ls_fits_97 : decode b_Ls_fits 97 = .ok (.ldc2_w 15, 3) := by decide +kernel
theorem d_Ls_fits_100 : decode b_Ls_fits 100 = .ok (.lcmp, 1) := by decide +kernel
theorem d_Ls_fits_101 : decode b_Ls_fits 101 = .ok (.ifCond .eq 7, 3) := by decide +kernel
theorem d_Ls_fits_104 : decode b_Ls_fits 104 = .ok (.iconst 1, 1) := by decide +kernel
theorem d_Ls_fits_105 : decode b_Ls_fits 105 = .ok (.goto 4, 3) := by decide +kernel
theorem d_Ls_fits_108 : decode b_Ls_fits 108 = .ok (.iconst 0, 1) := by decide +kernel
theorem d_Ls_fits_109 : decode b_Ls_fits 109 = .ok (.ireturn, 1) := by decide +kernel
theorem d_Ls_fits_110 : decode b_Ls_fits 110 = .ok (.lload_n 1, 1) := by decide +kernel
theorem d_Ls_fits_111 : decode b_Ls_fits 111 = .ok (.lload_n 1, 1) := by decide +kernel
theorem d_Ls_fits_112 : decode b_Ls_fits 112 = .ok (.l2i, 1) := by decide +kernel
theorem d_Ls_fits_113 : decode b_Ls_fits 113 = .ok (.i2l, 1) := by decide +kernel
theorem d_Ls_fits_114 : decode b_Ls_fits 114 = .ok (.lcmp, 1) := by decide +kernel
theorem d_Ls_fits_115 : decode b_Ls_fits 115 = .ok (.ifCond .ne 7, 3) := by decide +kernel
theorem d_Ls_fits_118 : decode b_Ls_fits 118 = .ok (.iconst 1, 1) := by decide +kernel
theorem d_Ls_fits_119 : decode b_Ls_fits 119 = .ok (.goto 4, 3) := by decide +kernel
theorem d_Ls_fits_122 : decode b_Ls_fits 122 = .ok (.iconst 0, 1) := by decide +kernel
theorem d_Ls_fits_123 : decode b_Ls_fits 123 = .ok (.ireturn, 1) := by decide +kernel
theorem d_Ls_fits_124 : decode b_Ls_fits 124 = .ok (.lload_n 1, 1) := by decide +kernel
theorem d_Ls_fits_125 : decode b_Ls_fits 125 = .ok (.ldc2_w 15, 3) := by decide +kernel
theorem d_Ls_fits_128 : decode b_Ls_fits 128 = .ok (.lcmp, 1) := by decide +kernel
theorem d_Ls_fits_129 : decode b_Ls_fits 129 = .ok (.ifCond .ne 11, 3) := by decide +kernel
theorem d_Ls_fits_132 : decode b_Ls_fits 132 = .ok (.lload_n 3, 1) := by decide +kernel
theorem d_Ls_fits_133 : decode b_Ls_fits 133 = .ok (.ldc2_w 17, 3) := by decide +kernel
theorem d_Ls_fits_136 : decode b_Ls_fits 136 = .ok (.lcmp, 1) := by decide +kernel
theorem d_Ls_fits_137 : decode b_Ls_fits 137 = .ok (.ifCond .eq 7, 3) := by decide +kernel
theorem d_Ls_fits_140 : decode b_Ls_fits 140 = .ok (.iconst 1, 1) := by decide +kernel
theorem d_Ls_fits_141 : decode b_Ls_fits 141 = .ok (.goto 4, 3) := by decide +kernel
theorem d_Ls_fits_144 : decode b_Ls_fits 144 = .ok (.iconst 0, 1) := by decide +kernel
theorem d_Ls_fits_145 : decode b_Ls_fits 145 = .ok (.ireturn, 1) := by decide +kernel
theorem d_Ls_fits_146 : decode b_Ls_fits 146 = .ok (.iconst 1, 1) := by decide +kernel
theorem d_Ls_fits_147 : decode b_Ls_fits 147 = .ok (.ireturn, 1) := by decide +kernel
theorem d_Ls_isProductLong_0 : decode b_Ls_isProductLong 0 = .ok (.lload_n 2, 1) := by decide +kernel
theorem d_Ls_isProductLong_1 : decode b_Ls_isProductLong 1 = .ok (.ldc2_w 17, 3) := by decide +kernel
theorem d_Ls_isProductLong_4 : decode b_Ls_isProductLong 4 = .ok (.lcmp, 1) := by decide +kernel
theorem d_Ls_isProductLong_5 : decode b_Ls_isProductLong 5 = .ok (.ifCond .ne 17, 3) := by decide +kernel
theorem d_Ls_isProductLong_8 : decode b_Ls_isProductLong 8 = .ok (.lload_n 0, 1) := by decide +kernel
theorem d_Ls_isProductLong_9 : decode b_Ls_isProductLong 9 = .ok (.ldc2_w 15, 3) := by decide +kernel
theorem d_Ls_isProductLong_12 : decode b_Ls_isProductLong 12 = .ok (.lcmp, 1) := by decide +kernel
theorem d_Ls_isProductLong_13 : decode b_Ls_isProductLong 13 = .ok (.ifCond .eq 7, 3) := by decide +kernel
theorem d_Ls_isProductLong_16 : decode b_Ls_isProductLong 16 = .ok (.iconst 1, 1) := by decide +kernel
theorem d_Ls_isProductLong_17 : decode b_Ls_isProductLong 17 = .ok (.goto 4, 3) := by decide +kernel
theorem d_Ls_isProductLong_20 : decode b_Ls_isProductLong 20 = .ok (.iconst 0, 1) := by decide +kernel
theorem d_Ls_isProductLong_21 : decode b_Ls_isProductLong 21 = .ok (.ireturn, 1) := by decide +kernel
theorem d_Ls_isProductLong_22 : decode b_Ls_isProductLong 22 = .ok (.lload_n 2, 1) := by decide +kernel
theorem d_Ls_isProductLong_23 : decode b_Ls_isProductLong 23 = .ok (.lconst 0, 1) := by decide +kernel
theorem d_Ls_isProductLong_24 : decode b_Ls_isProductLong 24 = .ok (.lcmp, 1) := by decide +kernel
theorem d_Ls_isProductLong_25 : decode b_Ls_isProductLong 25 = .ok (.ifCond .eq 13, 3) := by decide +kernel
theorem d_Ls_isProductLong_28 : decode b_Ls_isProductLong 28 = .ok (.lload_n 0, 1) := by decide +kernel
theorem d_Ls_isProductLong_29 : decode b_Ls_isProductLong 29 = .ok (.lload_n 2, 1) := by decide +kernel
theorem d_Ls_isProductLong_30 : decode b_Ls_isProductLong 30 = .ok (.lmul, 1) := by decide +kernel
theorem d_Ls_isProductLong_31 : decode b_Ls_isProductLong 31 = .ok (.lload_n 2, 1) := by decide +kernel
theorem d_Ls_isProductLong_32 : decode b_Ls_isProductLong 32 = .ok (.ldiv, 1) := by decide +kernel
theorem d_Ls_isProductLong_33 : decode b_Ls_isProductLong 33 = .ok (.lload_n 0, 1) := by decide +kernel
theorem d_Ls_isProductLong_34 : decode b_Ls_isProductLong 34 = .ok (.lcmp, 1) := by decide +kernel
theorem d_Ls_isProductLong_35 : decode b_Ls_isProductLong 35 = .ok (.ifCond .ne 7, 3) := by decide +kernel
theorem d_Ls_isProductLong_38 : decode b_Ls_isProductLong 38 = .ok (.iconst 1, 1) := by decide +kernel
theorem d_Ls_isProductLong_39 : decode b_Ls_isProductLong 39 = .ok (.goto 4, 3) := by decide +kernel
theorem d_Ls_isProductLong_42 : decode b_Ls_isProductLong 42 = .ok (.iconst 0, 1) := by decide +kernel
theorem d_Ls_isProductLong_43 : decode b_Ls_isProductLong 43 = .ok (.ireturn, 1) := by decide +kernel
theorem d_Ls_outcome_0 : decode b_Ls_outcome 0 = .ok (.iload_n 0, 1) := by decide +kernel
theorem d_Ls_outcome_1 : decode b_Ls_outcome 1 = .ok (.tableswitch 88 0 6 #[43, 47, 51, 55, 58, 60, 74], 43) := by decide +kernel
theorem d_Ls_outcome_44 : decode b_Ls_outcome 44 = .ok (.lload_n 1, 1) := by decide +kernel
theorem d_Ls_outcome_45 : decode b_Ls_outcome 45 = .ok (.lload_n 3, 1) := by decide +kernel
theorem d_Ls_outcome_46 : decode b_Ls_outcome 46 = .ok (.ladd, 1) := by decide +kernel
theorem d_Ls_outcome_47 : decode b_Ls_outcome 47 = .ok (.lreturn, 1) := by decide +kernel
theorem d_Ls_outcome_48 : decode b_Ls_outcome 48 = .ok (.lload_n 1, 1) := by decide +kernel
theorem d_Ls_outcome_49 : decode b_Ls_outcome 49 = .ok (.lload_n 3, 1) := by decide +kernel
theorem d_Ls_outcome_50 : decode b_Ls_outcome 50 = .ok (.lsub, 1) := by decide +kernel
theorem d_Ls_outcome_51 : decode b_Ls_outcome 51 = .ok (.lreturn, 1) := by decide +kernel
theorem d_Ls_outcome_52 : decode b_Ls_outcome 52 = .ok (.lload_n 1, 1) := by decide +kernel
theorem d_Ls_outcome_53 : decode b_Ls_outcome 53 = .ok (.lload_n 3, 1) := by decide +kernel
theorem d_Ls_outcome_54 : decode b_Ls_outcome 54 = .ok (.lmul, 1) := by decide +kernel
theorem d_Ls_outcome_55 : decode b_Ls_outcome 55 = .ok (.lreturn, 1) := by decide +kernel
theorem d_Ls_outcome_56 : decode b_Ls_outcome 56 = .ok (.lload_n 1, 1) := by decide +kernel
theorem d_Ls_outcome_57 : decode b_Ls_outcome 57 = .ok (.lneg, 1) := by decide +kernel
theorem d_Ls_outcome_58 : decode b_Ls_outcome 58 = .ok (.lreturn, 1) := by decide +kernel
theorem d_Ls_outcome_59 : decode b_Ls_outcome 59 = .ok (.lload_n 1, 1) := by decide +kernel
theorem d_Ls_outcome_60 : decode b_Ls_outcome 60 = .ok (.lreturn, 1) := by decide +kernel
theorem d_Ls_outcome_61 : decode b_Ls_outcome 61 = .ok (.lload_n 3, 1) := by decide +kernel
theorem d_Ls_outcome_62 : decode b_Ls_outcome 62 = .ok (.lconst 0, 1) := by decide +kernel
theorem d_Ls_outcome_63 : decode b_Ls_outcome 63 = .ok (.lcmp, 1) := by decide +kernel
theorem d_Ls_outcome_64 : decode b_Ls_outcome 64 = .ok (.ifCond .ne 7, 3) := by decide +kernel
theorem d_Ls_outcome_67 : decode b_Ls_outcome 67 = .ok (.lconst 0, 1) := by decide +kernel
theorem d_Ls_outcome_68 : decode b_Ls_outcome 68 = .ok (.goto 6, 3) := by decide +kernel
theorem d_Ls_outcome_71 : decode b_Ls_outcome 71 = .ok (.lload_n 1, 1) := by decide +kernel
theorem d_Ls_outcome_72 : decode b_Ls_outcome 72 = .ok (.lload_n 3, 1) := by decide +kernel
theorem d_Ls_outcome_73 : decode b_Ls_outcome 73 = .ok (.ldiv, 1) := by decide +kernel
theorem d_Ls_outcome_74 : decode b_Ls_outcome 74 = .ok (.lreturn, 1) := by decide +kernel
theorem d_Ls_outcome_75 : decode b_Ls_outcome 75 = .ok (.lload_n 3, 1) := by decide +kernel
theorem d_Ls_outcome_76 : decode b_Ls_outcome 76 = .ok (.lconst 0, 1) := by decide +kernel
theorem d_Ls_outcome_77 : decode b_Ls_outcome 77 = .ok (.lcmp, 1) := by decide +kernel
theorem d_Ls_outcome_78 : decode b_Ls_outcome 78 = .ok (.ifCond .ne 7, 3) := by decide +kernel
theorem d_Ls_outcome_81 : decode b_Ls_outcome 81 = .ok (.lconst 0, 1) := by decide +kernel
theorem d_Ls_outcome_82 : decode b_Ls_outcome 82 = .ok (.goto 6, 3) := by decide +kernel
theorem d_Ls_outcome_85 : decode b_Ls_outcome 85 = .ok (.lload_n 1, 1) := by decide +kernel
theorem d_Ls_outcome_86 : decode b_Ls_outcome 86 = .ok (.lload_n 3, 1) := by decide +kernel
theorem d_Ls_outcome_87 : decode b_Ls_outcome 87 = .ok (.lrem, 1) := by decide +kernel
theorem d_Ls_outcome_88 : decode b_Ls_outcome 88 = .ok (.lreturn, 1) := by decide +kernel
theorem d_Ls_outcome_89 : decode b_Ls_outcome 89 = .ok (.lload_n 3, 1) := by decide +kernel
theorem d_Ls_outcome_90 : decode b_Ls_outcome 90 = .ok (.lconst 0, 1) := by decide +kernel
theorem d_Ls_outcome_91 : decode b_Ls_outcome 91 = .ok (.lcmp, 1) := by decide +kernel
theorem d_Ls_outcome_92 : decode b_Ls_outcome 92 = .ok (.ifCond .ne 7, 3) := by decide +kernel
theorem d_Ls_outcome_95 : decode b_Ls_outcome 95 = .ok (.lconst 0, 1) := by decide +kernel
theorem d_Ls_outcome_96 : decode b_Ls_outcome 96 = .ok (.goto 8, 3) := by decide +kernel
theorem d_Ls_outcome_99 : decode b_Ls_outcome 99 = .ok (.lload_n 1, 1) := by decide +kernel
theorem d_Ls_outcome_100 : decode b_Ls_outcome 100 = .ok (.lload_n 3, 1) := by decide +kernel
theorem d_Ls_outcome_101 : decode b_Ls_outcome 101 = .ok (.invokestatic 19, 3) := by decide +kernel
theorem d_Ls_outcome_104 : decode b_Ls_outcome 104 = .ok (.lreturn, 1) := by decide +kernel
theorem d_Ls_floorOf_0 : decode b_Ls_floorOf 0 = .ok (.lload_n 2, 1) := by decide +kernel
theorem d_Ls_floorOf_1 : decode b_Ls_floorOf 1 = .ok (.lconst 0, 1) := by decide +kernel
theorem d_Ls_floorOf_2 : decode b_Ls_floorOf 2 = .ok (.lcmp, 1) := by decide +kernel
theorem d_Ls_floorOf_3 : decode b_Ls_floorOf 3 = .ok (.ifCond .ne 5, 3) := by decide +kernel
theorem d_Ls_floorOf_6 : decode b_Ls_floorOf 6 = .ok (.lconst 0, 1) := by decide +kernel
theorem d_Ls_floorOf_7 : decode b_Ls_floorOf 7 = .ok (.lreturn, 1) := by decide +kernel
theorem d_Ls_floorOf_8 : decode b_Ls_floorOf 8 = .ok (.lload_n 0, 1) := by decide +kernel
theorem d_Ls_floorOf_9 : decode b_Ls_floorOf 9 = .ok (.lload_n 2, 1) := by decide +kernel
theorem d_Ls_floorOf_10 : decode b_Ls_floorOf 10 = .ok (.ldiv, 1) := by decide +kernel
theorem d_Ls_floorOf_11 : decode b_Ls_floorOf 11 = .ok (.lstore 4, 2) := by decide +kernel
theorem d_Ls_floorOf_13 : decode b_Ls_floorOf 13 = .ok (.lload_n 0, 1) := by decide +kernel
theorem d_Ls_floorOf_14 : decode b_Ls_floorOf 14 = .ok (.lload_n 2, 1) := by decide +kernel
theorem d_Ls_floorOf_15 : decode b_Ls_floorOf 15 = .ok (.lrem, 1) := by decide +kernel
theorem d_Ls_floorOf_16 : decode b_Ls_floorOf 16 = .ok (.lconst 0, 1) := by decide +kernel
theorem d_Ls_floorOf_17 : decode b_Ls_floorOf 17 = .ok (.lcmp, 1) := by decide +kernel
theorem d_Ls_floorOf_18 : decode b_Ls_floorOf 18 = .ok (.ifCond .eq 35, 3) := by decide +kernel
theorem d_Ls_floorOf_21 : decode b_Ls_floorOf 21 = .ok (.lload_n 0, 1) := by decide +kernel
theorem d_Ls_floorOf_22 : decode b_Ls_floorOf 22 = .ok (.lconst 0, 1) := by decide +kernel
theorem d_Ls_floorOf_23 : decode b_Ls_floorOf 23 = .ok (.lcmp, 1) := by decide +kernel
theorem d_Ls_floorOf_24 : decode b_Ls_floorOf 24 = .ok (.ifCond .ge 7, 3) := by decide +kernel
theorem d_Ls_floorOf_27 : decode b_Ls_floorOf 27 = .ok (.iconst 1, 1) := by decide +kernel
theorem d_Ls_floorOf_28 : decode b_Ls_floorOf 28 = .ok (.goto 4, 3) := by decide +kernel
theorem d_Ls_floorOf_31 : decode b_Ls_floorOf 31 = .ok (.iconst 0, 1) := by decide +kernel
theorem d_Ls_floorOf_32 : decode b_Ls_floorOf 32 = .ok (.lload_n 2, 1) := by decide +kernel
theorem d_Ls_floorOf_33 : decode b_Ls_floorOf 33 = .ok (.lconst 0, 1) := by decide +kernel
theorem d_Ls_floorOf_34 : decode b_Ls_floorOf 34 = .ok (.lcmp, 1) := by decide +kernel
theorem d_Ls_floorOf_35 : decode b_Ls_floorOf 35 = .ok (.ifCond .ge 7, 3) := by decide +kernel
theorem d_Ls_floorOf_38 : decode b_Ls_floorOf 38 = .ok (.iconst 1, 1) := by decide +kernel
theorem d_Ls_floorOf_39 : decode b_Ls_floorOf 39 = .ok (.goto 4, 3) := by decide +kernel
theorem d_Ls_floorOf_42 : decode b_Ls_floorOf 42 = .ok (.iconst 0, 1) := by decide +kernel
theorem d_Ls_floorOf_43 : decode b_Ls_floorOf 43 = .ok (.if_icmp .eq 10, 3) := by decide +kernel
theorem d_Ls_floorOf_46 : decode b_Ls_floorOf 46 = .ok (.lload 4, 2) := by decide +kernel
theorem d_Ls_floorOf_48 : decode b_Ls_floorOf 48 = .ok (.lconst 1, 1) := by decide +kernel
theorem d_Ls_floorOf_49 : decode b_Ls_floorOf 49 = .ok (.lsub, 1) := by decide +kernel
theorem d_Ls_floorOf_50 : decode b_Ls_floorOf 50 = .ok (.goto 5, 3) := by decide +kernel
theorem d_Ls_floorOf_53 : decode b_Ls_floorOf 53 = .ok (.lload 4, 2) := by decide +kernel
theorem d_Ls_floorOf_55 : decode b_Ls_floorOf 55 = .ok (.lreturn, 1) := by decide +kernel
theorem l_lt0 {x : Int64} : x < 0 ↔ x.toBitVec.msb = true := by
  rw [Int64.lt_iff_toInt_lt, BitVec.msb_eq_toInt, decide_eq_true_iff]
  rfl
theorem l_xor0 {x y : Int64} : x ^^^ y < 0 ↔ ¬ (x < 0 ↔ y < 0) := by
  rw [l_lt0, l_lt0, l_lt0, Int64.toBitVec_xor, BitVec.msb_xor]
  cases x.toBitVec.msb <;> cases y.toBitVec.msb <;> simp
theorem l_and0 {x y : Int64} : x &&& y < 0 ↔ x < 0 ∧ y < 0 := by
  rw [l_lt0, l_lt0, l_lt0, Int64.toBitVec_and, BitVec.msb_and]
  cases x.toBitVec.msb <;> cases y.toBitVec.msb <;> simp
theorem iL_to (x : Int64) : iL x.toInt = x := by
  unfold iL
  exact Int64.ofInt_toInt x
theorem l_min : (-9223372036854775808 : Int64).toInt = -9223372036854775808 := by decide
theorem l_m1 : (-1 : Int64).toInt = -1 := by decide
theorem l_zero : (0 : Int64).toInt = 0 := rfl
theorem l_ne0 {x : Int64} (h : x ≠ 0) : x.toInt ≠ 0 := fun q => h (by rw [← Int64.toInt_inj, q]; rfl)
theorem l_div {x y : Int64} (h : ¬ (x = -9223372036854775808 ∧ y = -1)) : (x / y).toInt = x.toInt.tdiv y.toInt := by
  rw [Int64.toInt_div]
  have b1 := x.le_toInt
  have b2 := x.toInt_lt
  have hb : -9223372036854775808 ≤ x.toInt.tdiv y.toInt ∧ x.toInt.tdiv y.toInt ≤ 9223372036854775807 := by
    have k1 := Int.natAbs_tdiv_le_natAbs x.toInt y.toInt
    rcases Int.lt_or_le (-9223372036854775808) x.toInt with q | q
    · omega
    · have hx : x.toInt = -9223372036854775808 := by omega
      have hy : y.toInt ≠ -1 := fun z => h ⟨by rw [← Int64.toInt_inj, hx, l_min], by rw [← Int64.toInt_inj, z, l_m1]⟩
      rw [hx] at k1 ⊢
      have k2 : (-9223372036854775808 : Int).tdiv y.toInt ≠ 9223372036854775808 := by
        intro z
        have k3 := Int.tmod_add_mul_tdiv (-9223372036854775808) y.toInt
        rw [z] at k3
        have k4 := Int.natAbs_tmod (-9223372036854775808) y.toInt
        rcases Nat.eq_zero_or_pos y.toInt.natAbs with k5 | k5
        · have : y.toInt = 0 := by omega
          rw [this] at z
          exact absurd z (by decide)
        · have k6 := Nat.mod_lt (9223372036854775808) k5
          have k7 : (Int.tmod (-9223372036854775808) y.toInt).natAbs < y.toInt.natAbs := by rw [k4]; exact k6
          omega
      omega
  exact Int.bmod_eq_of_le (by omega) (by omega)
theorem c_Ls_divides (l : Launch) (g : Gh) (nx k : Nat) (hk : k ≤ 7) : Ct l m_Ls_divides 0 0 [.int (nI k)] g nx (pP (some (.int (if 5 ≤ k then 1 else 0))) g nx) := by
  refine Ct.of (by decide) (Nat.le_of_ble_eq_true rfl) (fun E hE hQ => ?_)
  have yes : ∀ lv, 5 ≤ k → zJ E g nx 0 0 17 lv [] := by
    intro lv h
    refine z_iconst (v := 1) hE d_Ls_divides_17 (by decide) ?_
    refine z_goto (tgt := 22) hE d_Ls_divides_18 (by decide) ?_
    exact z_zret hE hQ d_Ls_divides_22 rfl (Nat.le_refl _) (Nat.le_refl _) (Or.inr rfl) ⟨by rw [if_pos h], rfl, rfl⟩
  refine z_iload_n hE d_Ls_divides_0 rfl ?_
  refine z_iconst (v := nI 5) hE d_Ls_divides_1 (by decide) ?_
  refine z_icmp_eq (tgt := 17) hE d_Ls_divides_2 (by decide) (fun c_2 => ?_) (fun c_2 => ?_)
  · rw [nI_EQ (by omega) (by omega)] at c_2
    exact yes _ (by omega)
  · rw [nI_EQ (by omega) (by omega)] at c_2
    refine z_iload_n hE d_Ls_divides_5 rfl ?_
    refine z_bipush (v := nI 6) hE d_Ls_divides_6 (by decide) ?_
    refine z_icmp_eq (tgt := 17) hE d_Ls_divides_8 (by decide) (fun c_8 => ?_) (fun c_8 => ?_)
    · rw [nI_EQ (by omega) (by omega)] at c_8
      exact yes _ (by omega)
    · rw [nI_EQ (by omega) (by omega)] at c_8
      refine z_iload_n hE d_Ls_divides_11 rfl ?_
      refine z_bipush (v := nI 7) hE d_Ls_divides_12 (by decide) ?_
      refine z_icmp_ne (tgt := 21) hE d_Ls_divides_14 (by decide) (fun c_14 => ?_) (fun c_14 => ?_)
      · rw [nI_EQ (by omega) (by omega)] at c_14
        refine z_iconst (v := 0) hE d_Ls_divides_21 (by decide) ?_
        exact z_zret hE hQ d_Ls_divides_22 rfl (Nat.le_refl _) (Nat.le_refl _) (Or.inl rfl) ⟨by rw [if_neg (by omega)], rfl, rfl⟩
      · rw [nI_EQ (by omega) (by omega)] at c_14
        exact yes _ (by omega)
theorem prod_iff {a b : Int64} (h0 : b ≠ 0) (h1 : b ≠ -1) : a * b / b = a ↔ -9223372036854775808 ≤ a.toInt * b.toInt ∧ a.toInt * b.toInt ≤ 9223372036854775807 := by
  have hd := l_div (x := a * b) (y := b) (fun q => h1 q.2)
  have b0 := l_ne0 h0
  have bb1 := b.le_toInt
  have bb2 := b.toInt_lt
  have w1 := (a * b).le_toInt
  have w2 := (a * b).toInt_lt
  obtain ⟨w, hw⟩ : ∃ w, (a * b).toInt = w := ⟨_, rfl⟩
  have hm : w = (a.toInt * b.toInt).bmod (2 ^ 64) := by rw [← hw, Int64.toInt_mul]
  obtain ⟨P, hP⟩ : ∃ P, a.toInt * b.toInt = P := ⟨_, rfl⟩
  rw [hP] at hm ⊢
  rw [hw] at hd w1 w2
  constructor
  · intro h
    rw [h] at hd
    have k1 := Int.tmod_add_mul_tdiv w b.toInt
    rw [← hd, Int.mul_comm, hP] at k1
    have k2 := Int.natAbs_tmod w b.toInt
    have k3 := Nat.mod_lt w.natAbs (show 0 < b.toInt.natAbs by omega)
    rw [← k2] at k3
    obtain ⟨r, hr⟩ : ∃ r, w.tmod b.toInt = r := ⟨_, rfl⟩
    rw [hr] at k1 k3
    have k4 : w % 18446744073709551616 = P % 18446744073709551616 := by
      rw [hm]; exact Int.bmod_emod
    omega
  · intro h
    have e : w = P := by rw [hm]; exact Int.bmod_eq_of_le (by omega) (by omega)
    rw [← Int64.toInt_inj, hd, e, ← hP]
    exact Int.mul_tdiv_cancel _ b0
theorem c_Ls_isProductLong (l : Launch) (g : Gh) (nx : Nat) (a b : Int64) : Ct l m_Ls_isProductLong 0 0 [.long a, .long b] g nx (pP (some (.int (if -9223372036854775808 ≤ a.toInt * b.toInt ∧ a.toInt * b.toInt ≤ 9223372036854775807 then 1 else 0))) g nx) := by
  refine Ct.of (by decide) (Nat.le_of_ble_eq_true rfl) (fun E hE hQ => ?_)
  have b1 := a.le_toInt
  have b2 := a.toInt_lt
  have yes : ∀ lv, (-9223372036854775808 ≤ a.toInt * b.toInt ∧ a.toInt * b.toInt ≤ 9223372036854775807) → zJ E g nx 0 0 38 lv [] := by
    intro lv h
    refine z_iconst (v := 1) hE d_Ls_isProductLong_38 (by decide) ?_
    refine z_goto (tgt := 43) hE d_Ls_isProductLong_39 (by decide) ?_
    exact z_zret hE hQ d_Ls_isProductLong_43 rfl (Nat.le_refl _) (Nat.le_refl _) (Or.inr rfl) ⟨by rw [if_pos h], rfl, rfl⟩
  refine z_lload_n hE d_Ls_isProductLong_0 rfl ?_
  refine z_ldc2 hE d_Ls_isProductLong_1 cn_Ls_17 ?_
  refine z_lcmp hE d_Ls_isProductLong_4 ?_
  refine z_if_ne (tgt := 22) hE d_Ls_isProductLong_5 (by decide) (fun c_5 => ?_) (fun c_5 => ?_)
  · rw [lg_cmp_eq] at c_5
    refine z_lload_n hE d_Ls_isProductLong_22 rfl ?_
    refine z_lconst (v := (0 : Int64)) hE d_Ls_isProductLong_23 (by decide) ?_
    refine z_lcmp hE d_Ls_isProductLong_24 ?_
    refine z_if_eq (tgt := 38) hE d_Ls_isProductLong_25 (by decide) (fun c_25 => ?_) (fun c_25 => ?_)
    · rw [lg_cmp_eq] at c_25
      exact yes _ (by rw [c_25, l_zero, Int.mul_zero]; decide)
    · rw [lg_cmp_eq] at c_25
      refine z_lload_n hE d_Ls_isProductLong_28 rfl ?_
      refine z_lload_n hE d_Ls_isProductLong_29 rfl ?_
      refine z_lmul hE d_Ls_isProductLong_30 (rfl) ?_
      refine z_lload_n hE d_Ls_isProductLong_31 rfl ?_
      refine z_ldiv hE d_Ls_isProductLong_32 (c_25) (rfl) ?_
      refine z_lload_n hE d_Ls_isProductLong_33 rfl ?_
      refine z_lcmp hE d_Ls_isProductLong_34 ?_
      refine z_if_ne (tgt := 42) hE d_Ls_isProductLong_35 (by decide) (fun c_35 => ?_) (fun c_35 => ?_)
      · rw [lg_cmp_eq, prod_iff c_25 c_5] at c_35
        refine z_iconst (v := 0) hE d_Ls_isProductLong_42 (by decide) ?_
        exact z_zret hE hQ d_Ls_isProductLong_43 rfl (Nat.le_refl _) (Nat.le_refl _) (Or.inl rfl) ⟨by rw [if_neg c_35], rfl, rfl⟩
      · rw [lg_cmp_eq, prod_iff c_25 c_5] at c_35
        exact yes _ c_35
  · rw [lg_cmp_eq] at c_5
    have e : a.toInt * b.toInt = -a.toInt := by rw [c_5, l_m1]; omega
    refine z_lload_n hE d_Ls_isProductLong_8 rfl ?_
    refine z_ldc2 hE d_Ls_isProductLong_9 cn_Ls_15 ?_
    refine z_lcmp hE d_Ls_isProductLong_12 ?_
    refine z_if_eq (tgt := 20) hE d_Ls_isProductLong_13 (by decide) (fun c_13 => ?_) (fun c_13 => ?_)
    · rw [lg_cmp_eq] at c_13
      refine z_iconst (v := 0) hE d_Ls_isProductLong_20 (by decide) ?_
      refine z_zret hE hQ d_Ls_isProductLong_21 rfl (Nat.le_refl _) (Nat.le_refl _) (Or.inl rfl) ⟨?_, rfl, rfl⟩
      rw [if_neg]
      rw [e, c_13, l_min]; omega
    · rw [lg_cmp_eq] at c_13
      refine z_iconst (v := 1) hE d_Ls_isProductLong_16 (by decide) ?_
      refine z_goto (tgt := 21) hE d_Ls_isProductLong_17 (by decide) ?_
      refine z_zret hE hQ d_Ls_isProductLong_21 rfl (Nat.le_refl _) (Nat.le_refl _) (Or.inr rfl) ⟨?_, rfl, rfl⟩
      rw [if_pos]
      have : a.toInt ≠ -9223372036854775808 := fun q => c_13 (by rw [← Int64.toInt_inj, q, l_min])
      rw [e]; omega
theorem c_Ls_fits (l : Launch) (g : Gh) (nx k : Nat) (hk : k ≤ 7) (a b : Int64) : Ct l m_Ls_fits 0 0 [.int (nI k), .long a, .long b] g nx (pP (some (.int (if (exV k a b).isSome then 1 else 0))) g nx) := by
  refine Ct.of (by decide) (Nat.le_of_ble_eq_true rfl) (fun E hE hQ => ?_)
  have fl : (a = -9223372036854775808 ∧ b = -1 → (exV k a b).isSome = false) → (¬ (a = -9223372036854775808 ∧ b = -1) → (exV k a b).isSome = true) → ∀ lv, lG lv 1 = some (.long a) → lG lv 3 = some (.long b) → zJ E g nx 0 0 124 lv [] := by
    intro e1 e2 lv l1 l3
    refine z_sub (lv' := [(1, .long a), (3, .long b)]) (by simp only [List.map, l1, l3]) ?_
    have yes : ∀ lv, ¬ (a = -9223372036854775808 ∧ b = -1) → zJ E g nx 0 0 140 lv [] := by
      intro lv h
      refine z_iconst (v := 1) hE d_Ls_fits_140 (by decide) ?_
      refine z_goto (tgt := 145) hE d_Ls_fits_141 (by decide) ?_
      exact z_zret hE hQ d_Ls_fits_145 rfl (Nat.le_refl _) (Nat.le_refl _) (Or.inr rfl) ⟨by rw [e2 h]; rfl, rfl, rfl⟩
    refine z_lload_n hE d_Ls_fits_124 rfl ?_
    refine z_ldc2 hE d_Ls_fits_125 cn_Ls_15 ?_
    refine z_lcmp hE d_Ls_fits_128 ?_
    refine z_if_ne (tgt := 140) hE d_Ls_fits_129 (by decide) (fun c_129 => ?_) (fun c_129 => ?_)
    · rw [lg_cmp_eq] at c_129
      exact yes _ (fun q => c_129 q.1)
    · rw [lg_cmp_eq] at c_129
      refine z_lload_n hE d_Ls_fits_132 rfl ?_
      refine z_ldc2 hE d_Ls_fits_133 cn_Ls_17 ?_
      refine z_lcmp hE d_Ls_fits_136 ?_
      refine z_if_eq (tgt := 144) hE d_Ls_fits_137 (by decide) (fun c_137 => ?_) (fun c_137 => ?_)
      · rw [lg_cmp_eq] at c_137
        refine z_iconst (v := 0) hE d_Ls_fits_144 (by decide) ?_
        exact z_zret hE hQ d_Ls_fits_145 rfl (Nat.le_refl _) (Nat.le_refl _) (Or.inl rfl) ⟨by rw [e1 ⟨c_129, c_137⟩]; rfl, rfl, rfl⟩
      · rw [lg_cmp_eq] at c_137
        exact yes _ (fun q => c_137 q.2)
  refine z_iload_n hE d_Ls_fits_0 rfl ?_
  rcases (show k = 0 ∨ k = 1 ∨ k = 2 ∨ k = 3 ∨ k = 4 ∨ k = 5 ∨ k = 6 ∨ k = 7 by omega) with z | z | z | z | z | z | z | z
  · subst z
    refine z_tableIn (tgt := 48) (off := 47) hE d_Ls_fits_1 (by decide) (by decide) (by decide) (by decide) ?_
    refine z_lload_n hE d_Ls_fits_48 rfl ?_
    refine z_lload_n hE d_Ls_fits_49 rfl ?_
    refine z_lload_n hE d_Ls_fits_50 rfl ?_
    refine z_ladd hE d_Ls_fits_51 (rfl) ?_
    refine z_lxor hE d_Ls_fits_52 (rfl) ?_
    refine z_lload_n hE d_Ls_fits_53 rfl ?_
    refine z_lload_n hE d_Ls_fits_54 rfl ?_
    refine z_lload_n hE d_Ls_fits_55 rfl ?_
    refine z_ladd hE d_Ls_fits_56 (rfl) ?_
    refine z_lxor hE d_Ls_fits_57 (rfl) ?_
    refine z_land hE d_Ls_fits_58 (rfl) ?_
    refine z_lconst (v := (0 : Int64)) hE d_Ls_fits_59 (by decide) ?_
    refine z_lcmp hE d_Ls_fits_60 ?_
    refine z_if_lt (tgt := 68) hE d_Ls_fits_61 (by decide) (fun c_61 => ?_) (fun c_61 => ?_)
    · rw [lg_cmp_lt, l_and0, l_xor0, l_xor0] at c_61
      refine z_iconst (v := 0) hE d_Ls_fits_68 (by decide) ?_
      refine z_zret hE hQ d_Ls_fits_69 rfl (Nat.le_refl _) (Nat.le_refl _) (Or.inl rfl) ⟨?_, rfl, rfl⟩
      rw [show exV 0 a b = none from if_pos (by revert c_61; by_cases p1 : a < 0 <;> by_cases p2 : b < 0 <;> by_cases p3 : a + b < 0 <;> simp [p1, p2, p3])]; rfl
    · rw [lg_cmp_lt, l_and0, l_xor0, l_xor0] at c_61
      refine z_iconst (v := 1) hE d_Ls_fits_64 (by decide) ?_
      refine z_goto (tgt := 69) hE d_Ls_fits_65 (by decide) ?_
      refine z_zret hE hQ d_Ls_fits_69 rfl (Nat.le_refl _) (Nat.le_refl _) (Or.inr rfl) ⟨?_, rfl, rfl⟩
      rw [show exV 0 a b = some (a + b) from if_neg (by revert c_61; by_cases p1 : a < 0 <;> by_cases p2 : b < 0 <;> by_cases p3 : a + b < 0 <;> simp [p1, p2, p3])]; rfl
  · subst z
    refine z_tableIn (tgt := 70) (off := 69) hE d_Ls_fits_1 (by decide) (by decide) (by decide) (by decide) ?_
    refine z_lload_n hE d_Ls_fits_70 rfl ?_
    refine z_lload_n hE d_Ls_fits_71 rfl ?_
    refine z_lxor hE d_Ls_fits_72 (rfl) ?_
    refine z_lload_n hE d_Ls_fits_73 rfl ?_
    refine z_lload_n hE d_Ls_fits_74 rfl ?_
    refine z_lload_n hE d_Ls_fits_75 rfl ?_
    refine z_lsub hE d_Ls_fits_76 (rfl) ?_
    refine z_lxor hE d_Ls_fits_77 (rfl) ?_
    refine z_land hE d_Ls_fits_78 (rfl) ?_
    refine z_lconst (v := (0 : Int64)) hE d_Ls_fits_79 (by decide) ?_
    refine z_lcmp hE d_Ls_fits_80 ?_
    refine z_if_lt (tgt := 88) hE d_Ls_fits_81 (by decide) (fun c_81 => ?_) (fun c_81 => ?_)
    · rw [lg_cmp_lt, l_and0, l_xor0, l_xor0] at c_81
      refine z_iconst (v := 0) hE d_Ls_fits_88 (by decide) ?_
      refine z_zret hE hQ d_Ls_fits_89 rfl (Nat.le_refl _) (Nat.le_refl _) (Or.inl rfl) ⟨?_, rfl, rfl⟩
      rw [show exV 1 a b = none from if_pos (by revert c_81; by_cases p1 : a < 0 <;> by_cases p2 : b < 0 <;> by_cases p3 : a - b < 0 <;> simp [p1, p2, p3])]; rfl
    · rw [lg_cmp_lt, l_and0, l_xor0, l_xor0] at c_81
      refine z_iconst (v := 1) hE d_Ls_fits_84 (by decide) ?_
      refine z_goto (tgt := 89) hE d_Ls_fits_85 (by decide) ?_
      refine z_zret hE hQ d_Ls_fits_89 rfl (Nat.le_refl _) (Nat.le_refl _) (Or.inr rfl) ⟨?_, rfl, rfl⟩
      rw [show exV 1 a b = some (a - b) from if_neg (by revert c_81; by_cases p1 : a < 0 <;> by_cases p2 : b < 0 <;> by_cases p3 : a - b < 0 <;> simp [p1, p2, p3])]; rfl
  · subst z
    refine z_tableIn (tgt := 90) (off := 89) hE d_Ls_fits_1 (by decide) (by decide) (by decide) (by decide) ?_
    refine z_lload_n hE d_Ls_fits_90 rfl ?_
    refine z_lload_n hE d_Ls_fits_91 rfl ?_
    refine z_callS hE d_Ls_fits_92 cl_Ls_11 (c_Ls_isProductLong l g nx a b) rfl (Nat.le_of_ble_eq_true rfl) ⟨by decide, by decide⟩ ⟨by omega, by omega⟩ (fun r_92 g_92 nx_92 hp_92 => ?_) rfl
    obtain ⟨rfl, rfl, rfl⟩ := hp_92
    try dsimp only [Option.toList, List.nil_append, List.cons_append]
    refine z_zret hE hQ d_Ls_fits_95 rfl (Nat.le_refl _) (Nat.le_refl _) (by split; exact Or.inr rfl; exact Or.inl rfl) ⟨?_, rfl, rfl⟩
    by_cases h : -9223372036854775808 ≤ a.toInt * b.toInt ∧ a.toInt * b.toInt ≤ 9223372036854775807
    · rw [if_pos h, show exV 2 a b = some (a * b) from if_pos h]; rfl
    · rw [if_neg h, show exV 2 a b = none from if_neg h]; rfl
  · subst z
    refine z_tableIn (tgt := 96) (off := 95) hE d_Ls_fits_1 (by decide) (by decide) (by decide) (by decide) ?_
    refine z_lload_n hE d_Ls_fits_96 rfl ?_
    refine z_ldc2 hE d_Ls_fits_97 cn_Ls_15 ?_
    refine z_lcmp hE d_Ls_fits_100 ?_
    refine z_if_eq (tgt := 108) hE d_Ls_fits_101 (by decide) (fun c_101 => ?_) (fun c_101 => ?_)
    · rw [lg_cmp_eq] at c_101
      refine z_iconst (v := 0) hE d_Ls_fits_108 (by decide) ?_
      refine z_zret hE hQ d_Ls_fits_109 rfl (Nat.le_refl _) (Nat.le_refl _) (Or.inl rfl) ⟨?_, rfl, rfl⟩
      rw [show exV 3 a b = none from if_pos c_101]; rfl
    · rw [lg_cmp_eq] at c_101
      refine z_iconst (v := 1) hE d_Ls_fits_104 (by decide) ?_
      refine z_goto (tgt := 109) hE d_Ls_fits_105 (by decide) ?_
      refine z_zret hE hQ d_Ls_fits_109 rfl (Nat.le_refl _) (Nat.le_refl _) (Or.inr rfl) ⟨?_, rfl, rfl⟩
      rw [show exV 3 a b = some (-a) from if_neg c_101]; rfl
  · subst z
    refine z_tableIn (tgt := 110) (off := 109) hE d_Ls_fits_1 (by decide) (by decide) (by decide) (by decide) ?_
    refine z_lload_n hE d_Ls_fits_110 rfl ?_
    refine z_lload_n hE d_Ls_fits_111 rfl ?_
    refine z_l2i hE d_Ls_fits_112 (rfl) ?_
    refine z_i2l hE d_Ls_fits_113 (rfl) ?_
    refine z_lcmp hE d_Ls_fits_114 ?_
    refine z_if_ne (tgt := 122) hE d_Ls_fits_115 (by decide) (fun c_115 => ?_) (fun c_115 => ?_)
    · rw [lg_cmp_eq] at c_115
      refine z_iconst (v := 0) hE d_Ls_fits_122 (by decide) ?_
      refine z_zret hE hQ d_Ls_fits_123 rfl (Nat.le_refl _) (Nat.le_refl _) (Or.inl rfl) ⟨?_, rfl, rfl⟩
      rw [show exV 4 a b = none from if_neg c_115]; rfl
    · rw [lg_cmp_eq] at c_115
      refine z_iconst (v := 1) hE d_Ls_fits_118 (by decide) ?_
      refine z_goto (tgt := 123) hE d_Ls_fits_119 (by decide) ?_
      refine z_zret hE hQ d_Ls_fits_123 rfl (Nat.le_refl _) (Nat.le_refl _) (Or.inr rfl) ⟨?_, rfl, rfl⟩
      rw [show exV 4 a b = some a from if_pos c_115]; rfl
  · subst z
    refine z_tableIn (tgt := 124) (off := 123) hE d_Ls_fits_1 (by decide) (by decide) (by decide) (by decide) ?_
    exact fl (fun h => by rw [show exV 5 a b = none from if_pos h]; rfl) (fun h => by rw [show exV 5 a b = some (a / b) from if_neg h]; rfl) _ rfl rfl
  · subst z
    refine z_tableIn (tgt := 146) (off := 145) hE d_Ls_fits_1 (by decide) (by decide) (by decide) (by decide) ?_
    refine z_iconst (v := 1) hE d_Ls_fits_146 (by decide) ?_
    exact z_zret hE hQ d_Ls_fits_147 rfl (Nat.le_refl _) (Nat.le_refl _) (Or.inr rfl) ⟨rfl, rfl, rfl⟩
  · subst z
    refine z_tableIn (tgt := 124) (off := 123) hE d_Ls_fits_1 (by decide) (by decide) (by decide) (by decide) ?_
    exact fl (fun h => by rw [show exV 7 a b = none from if_pos h]; rfl) (fun h => by rw [show exV 7 a b = some (if ¬ a - a / b * b = 0 ∧ ¬ (a < 0 ↔ b < 0) then a / b - 1 else a / b) from if_neg h]; rfl) _ rfl rfl
theorem c_Ls_floorOf (l : Launch) (g : Gh) (nx : Nat) (a b : Int64) (hb : b ≠ 0) : Ct l m_Ls_floorOf 0 0 [.long a, .long b] g nx (pP (some (.long (if ¬ a - a / b * b = 0 ∧ ¬ (a < 0 ↔ b < 0) then a / b - 1 else a / b))) g nx) := by
  refine Ct.of (by decide) (Nat.le_of_ble_eq_true rfl) (fun E hE hQ => ?_)
  refine z_lload_n hE d_Ls_floorOf_0 rfl ?_
  refine z_lconst (v := (0 : Int64)) hE d_Ls_floorOf_1 (by decide) ?_
  refine z_lcmp hE d_Ls_floorOf_2 ?_
  refine z_if_ne (tgt := 8) hE d_Ls_floorOf_3 (by decide) (fun c_3 => ?_) (fun c_3 => ?_)
  · rw [lg_cmp_eq] at c_3
    have no : ∀ lv, lG lv 4 = some (.long (a / b)) → ¬ (¬ a - a / b * b = 0 ∧ ¬ (a < 0 ↔ b < 0)) → zJ E g nx 0 0 53 lv [] := by
      intro lv l4 h
      refine z_sub (lv' := [(4, .long (a / b))]) (by simp only [List.map, l4]) ?_
      refine z_lload hE d_Ls_floorOf_53 rfl ?_
      exact z_lret hE hQ d_Ls_floorOf_55 rfl (Nat.le_refl _) (Nat.le_refl _) ⟨by rw [if_neg h], rfl, rfl⟩
    refine z_lload_n hE d_Ls_floorOf_8 rfl ?_
    refine z_lload_n hE d_Ls_floorOf_9 rfl ?_
    refine z_ldiv hE d_Ls_floorOf_10 (c_3) (rfl) ?_
    refine z_lstore hE d_Ls_floorOf_11 (by decide) ?_
    refine z_lload_n hE d_Ls_floorOf_13 rfl ?_
    refine z_lload_n hE d_Ls_floorOf_14 rfl ?_
    refine z_lrem hE d_Ls_floorOf_15 (c_3) (rfl) ?_
    refine z_lconst (v := (0 : Int64)) hE d_Ls_floorOf_16 (by decide) ?_
    refine z_lcmp hE d_Ls_floorOf_17 ?_
    refine z_if_eq (tgt := 53) hE d_Ls_floorOf_18 (by decide) (fun c_18 => ?_) (fun c_18 => ?_)
    · rw [lg_cmp_eq] at c_18
      exact no _ rfl (fun q => q.1 c_18)
    · rw [lg_cmp_eq] at c_18
      have last : ∀ (z w : Nat) lv, z ≤ 1 → w ≤ 1 → (z = 1 ↔ a < 0) → (w = 1 ↔ b < 0) → lG lv 4 = some (.long (a / b)) → zJ E g nx 0 0 43 lv [.int (nI w), .int (nI z)] := by
        intro z w lv hz hw hza hwb l4
        refine z_sub (lv' := [(4, .long (a / b))]) (by simp only [List.map, l4]) ?_
        refine z_icmp_eq (tgt := 53) hE d_Ls_floorOf_43 (by decide) (fun c_43 => ?_) (fun c_43 => ?_)
        · rw [nI_EQ (by omega) (by omega)] at c_43
          exact no _ rfl (fun q => q.2 (by rw [← hza, ← hwb]; omega))
        · rw [nI_EQ (by omega) (by omega)] at c_43
          refine z_lload hE d_Ls_floorOf_46 rfl ?_
          refine z_lconst (v := (1 : Int64)) hE d_Ls_floorOf_48 (by decide) ?_
          refine z_lsub hE d_Ls_floorOf_49 (rfl) ?_
          refine z_goto (tgt := 55) hE d_Ls_floorOf_50 (by decide) ?_
          refine z_lret hE hQ d_Ls_floorOf_55 rfl (Nat.le_refl _) (Nat.le_refl _) ⟨?_, rfl, rfl⟩
          have hh : ¬ (a < 0 ↔ b < 0) := fun q => by
            rw [← hza, ← hwb] at q
            omega
          rw [if_pos ⟨c_18, hh⟩]
      have mid : ∀ (z : Nat) lv, z ≤ 1 → (z = 1 ↔ a < 0) → lG lv 2 = some (.long b) → lG lv 4 = some (.long (a / b)) → zJ E g nx 0 0 32 lv [.int (nI z)] := by
        intro z lv hz hza l2 l4
        refine z_sub (lv' := [(2, .long b), (4, .long (a / b))]) (by simp only [List.map, l2, l4]) ?_
        refine z_lload_n hE d_Ls_floorOf_32 rfl ?_
        refine z_lconst (v := (0 : Int64)) hE d_Ls_floorOf_33 (by decide) ?_
        refine z_lcmp hE d_Ls_floorOf_34 ?_
        refine z_if_ge (tgt := 42) hE d_Ls_floorOf_35 (by decide) (fun c_35 => ?_) (fun c_35 => ?_)
        · rw [lg_cmp_ge] at c_35
          refine z_iconst (v := nI 0) hE d_Ls_floorOf_42 (by decide) ?_
          exact last z 0 _ hz (by omega) hza ⟨fun q => by omega, fun q => by rw [Int64.lt_iff_toInt_lt] at q; rw [Int64.le_iff_toInt_le] at c_35; omega⟩ rfl
        · rw [lg_cmp_ge] at c_35
          refine z_iconst (v := nI 1) hE d_Ls_floorOf_38 (by decide) ?_
          refine z_goto (tgt := 43) hE d_Ls_floorOf_39 (by decide) ?_
          exact last z 1 _ hz (by omega) hza ⟨fun _ => by rw [Int64.lt_iff_toInt_lt]; rw [Int64.le_iff_toInt_le] at c_35; omega, fun _ => rfl⟩ rfl
      refine z_lload_n hE d_Ls_floorOf_21 rfl ?_
      refine z_lconst (v := (0 : Int64)) hE d_Ls_floorOf_22 (by decide) ?_
      refine z_lcmp hE d_Ls_floorOf_23 ?_
      refine z_if_ge (tgt := 31) hE d_Ls_floorOf_24 (by decide) (fun c_24 => ?_) (fun c_24 => ?_)
      · rw [lg_cmp_ge] at c_24
        refine z_iconst (v := nI 0) hE d_Ls_floorOf_31 (by decide) ?_
        exact mid 0 _ (by omega) ⟨fun q => by omega, fun q => by rw [Int64.lt_iff_toInt_lt] at q; rw [Int64.le_iff_toInt_le] at c_24; omega⟩ rfl rfl
      · rw [lg_cmp_ge] at c_24
        refine z_iconst (v := nI 1) hE d_Ls_floorOf_27 (by decide) ?_
        refine z_goto (tgt := 32) hE d_Ls_floorOf_28 (by decide) ?_
        exact mid 1 _ (by omega) ⟨fun _ => by rw [Int64.lt_iff_toInt_lt]; rw [Int64.le_iff_toInt_le] at c_24; omega, fun _ => rfl⟩ rfl rfl
  · rw [lg_cmp_eq] at c_3
    exact absurd c_3 hb
theorem exS {p : Prop} [Decidable p] {x z : Int64} (h : (if p then none else some x) = some z) : x = z := by
  by_cases hp : p
  · rw [if_pos hp] at h; cases h
  · rw [if_neg hp] at h; exact Option.some.inj h
theorem exT {p : Prop} [Decidable p] {x z : Int64} (h : (if p then some x else none) = some z) : x = z := by
  by_cases hp : p
  · rw [if_pos hp] at h; exact Option.some.inj h
  · rw [if_neg hp] at h; cases h
theorem c_Ls_outcome (l : Launch) (g : Gh) (nx k : Nat) (hk : k ≤ 7) (a b z : Int64) (hb : 5 ≤ k → b ≠ 0) (hz : exV k a b = some z) : Ct l m_Ls_outcome 0 0 [.int (nI k), .long a, .long b] g nx (pP (some (.long z)) g nx) := by
  refine Ct.of (by decide) (Nat.le_of_ble_eq_true rfl) (fun E hE hQ => ?_)
  refine z_iload_n hE d_Ls_outcome_0 rfl ?_
  rcases (show k = 0 ∨ k = 1 ∨ k = 2 ∨ k = 3 ∨ k = 4 ∨ k = 5 ∨ k = 6 ∨ k = 7 by omega) with h | h | h | h | h | h | h | h
  · subst h
    have e : a + b = z := exS hz
    refine z_tableIn (tgt := 44) (off := 43) hE d_Ls_outcome_1 (by decide) (by decide) (by decide) (by decide) ?_
    refine z_lload_n hE d_Ls_outcome_44 rfl ?_
    refine z_lload_n hE d_Ls_outcome_45 rfl ?_
    refine z_ladd hE d_Ls_outcome_46 (rfl) ?_
    exact z_lret hE hQ d_Ls_outcome_47 rfl (Nat.le_refl _) (Nat.le_refl _) ⟨by rw [e], rfl, rfl⟩
  · subst h
    have e : a - b = z := exS hz
    refine z_tableIn (tgt := 48) (off := 47) hE d_Ls_outcome_1 (by decide) (by decide) (by decide) (by decide) ?_
    refine z_lload_n hE d_Ls_outcome_48 rfl ?_
    refine z_lload_n hE d_Ls_outcome_49 rfl ?_
    refine z_lsub hE d_Ls_outcome_50 (rfl) ?_
    exact z_lret hE hQ d_Ls_outcome_51 rfl (Nat.le_refl _) (Nat.le_refl _) ⟨by rw [e], rfl, rfl⟩
  · subst h
    have e : a * b = z := exT hz
    refine z_tableIn (tgt := 52) (off := 51) hE d_Ls_outcome_1 (by decide) (by decide) (by decide) (by decide) ?_
    refine z_lload_n hE d_Ls_outcome_52 rfl ?_
    refine z_lload_n hE d_Ls_outcome_53 rfl ?_
    refine z_lmul hE d_Ls_outcome_54 (rfl) ?_
    exact z_lret hE hQ d_Ls_outcome_55 rfl (Nat.le_refl _) (Nat.le_refl _) ⟨by rw [e], rfl, rfl⟩
  · subst h
    have e : -a = z := exS hz
    refine z_tableIn (tgt := 56) (off := 55) hE d_Ls_outcome_1 (by decide) (by decide) (by decide) (by decide) ?_
    refine z_lload_n hE d_Ls_outcome_56 rfl ?_
    refine z_lneg hE d_Ls_outcome_57 (rfl) ?_
    exact z_lret hE hQ d_Ls_outcome_58 rfl (Nat.le_refl _) (Nat.le_refl _) ⟨by rw [e], rfl, rfl⟩
  · subst h
    have e : a = z := exT hz
    refine z_tableIn (tgt := 59) (off := 58) hE d_Ls_outcome_1 (by decide) (by decide) (by decide) (by decide) ?_
    refine z_lload_n hE d_Ls_outcome_59 rfl ?_
    exact z_lret hE hQ d_Ls_outcome_60 rfl (Nat.le_refl _) (Nat.le_refl _) ⟨by rw [e], rfl, rfl⟩
  · subst h
    have e : a / b = z := exS hz
    have hb0 := hb (by omega)
    refine z_tableIn (tgt := 61) (off := 60) hE d_Ls_outcome_1 (by decide) (by decide) (by decide) (by decide) ?_
    refine z_lload_n hE d_Ls_outcome_61 rfl ?_
    refine z_lconst (v := (0 : Int64)) hE d_Ls_outcome_62 (by decide) ?_
    refine z_lcmp hE d_Ls_outcome_63 ?_
    refine z_if_ne (tgt := 71) hE d_Ls_outcome_64 (by decide) (fun c_64 => ?_) (fun c_64 => ?_)
    · rw [lg_cmp_eq] at c_64
      refine z_lload_n hE d_Ls_outcome_71 rfl ?_
      refine z_lload_n hE d_Ls_outcome_72 rfl ?_
      refine z_ldiv hE d_Ls_outcome_73 (c_64) (rfl) ?_
      exact z_lret hE hQ d_Ls_outcome_74 rfl (Nat.le_refl _) (Nat.le_refl _) ⟨by rw [e], rfl, rfl⟩
    · rw [lg_cmp_eq] at c_64
      exact absurd c_64 hb0
  · subst h
    have e : a - a / b * b = z := Option.some.inj hz
    have hb0 := hb (by omega)
    refine z_tableIn (tgt := 75) (off := 74) hE d_Ls_outcome_1 (by decide) (by decide) (by decide) (by decide) ?_
    refine z_lload_n hE d_Ls_outcome_75 rfl ?_
    refine z_lconst (v := (0 : Int64)) hE d_Ls_outcome_76 (by decide) ?_
    refine z_lcmp hE d_Ls_outcome_77 ?_
    refine z_if_ne (tgt := 85) hE d_Ls_outcome_78 (by decide) (fun c_78 => ?_) (fun c_78 => ?_)
    · rw [lg_cmp_eq] at c_78
      refine z_lload_n hE d_Ls_outcome_85 rfl ?_
      refine z_lload_n hE d_Ls_outcome_86 rfl ?_
      refine z_lrem hE d_Ls_outcome_87 (c_78) (rfl) ?_
      exact z_lret hE hQ d_Ls_outcome_88 rfl (Nat.le_refl _) (Nat.le_refl _) ⟨by rw [e], rfl, rfl⟩
    · rw [lg_cmp_eq] at c_78
      exact absurd c_78 hb0
  · subst h
    have e : (if ¬ a - a / b * b = 0 ∧ ¬ (a < 0 ↔ b < 0) then a / b - 1 else a / b) = z := exS hz
    have hb0 := hb (by omega)
    refine z_tableOut (tgt := 89) hE d_Ls_outcome_1 (Or.inr (by decide)) (by decide) ?_
    refine z_lload_n hE d_Ls_outcome_89 rfl ?_
    refine z_lconst (v := (0 : Int64)) hE d_Ls_outcome_90 (by decide) ?_
    refine z_lcmp hE d_Ls_outcome_91 ?_
    refine z_if_ne (tgt := 99) hE d_Ls_outcome_92 (by decide) (fun c_92 => ?_) (fun c_92 => ?_)
    · refine z_lload_n hE d_Ls_outcome_99 rfl ?_
      refine z_lload_n hE d_Ls_outcome_100 rfl ?_
      refine z_callS hE d_Ls_outcome_101 cl_Ls_19 (c_Ls_floorOf l g nx a b hb0) rfl (Nat.le_of_ble_eq_true rfl) ⟨by decide, by decide⟩ ⟨by omega, by omega⟩ (fun r_101 g_101 nx_101 hp_101 => ?_) rfl
      obtain ⟨rfl, rfl, rfl⟩ := hp_101
      try dsimp only [Option.toList, List.nil_append, List.cons_append]
      exact z_lret hE hQ d_Ls_outcome_104 rfl (Nat.le_refl _) (Nat.le_refl _) ⟨by rw [e], rfl, rfl⟩
    · rw [lg_cmp_eq] at c_92
      exact absurd c_92 hb0

