/-! OddsFractions: work, round, real, from, exact -/
theorem d_Od_work_0 : decode b_Od_work 0 = .ok (.iload_n 1, 1) := by decide +kernel
theorem d_Od_work_1 : decode b_Od_work 1 = .ok (.iconst 0, 1) := by decide +kernel
theorem d_Od_work_2 : decode b_Od_work 2 = .ok (.iconst 5, 1) := by decide +kernel
theorem d_Od_work_3 : decode b_Od_work 3 = .ok (.invokestatic 73, 3) := by decide +kernel
theorem d_Od_work_6 : decode b_Od_work 6 = .ok (.ifCond .ne 10, 3) := by decide +kernel
theorem d_Od_work_9 : decode b_Od_work 9 = .ok (.iload_n 2, 1) := by decide +kernel
theorem d_Od_work_10 : decode b_Od_work 10 = .ok (.invokestatic 43, 3) := by decide +kernel
theorem d_Od_work_13 : decode b_Od_work 13 = .ok (.ifCond .eq 6, 3) := by decide +kernel
theorem d_Od_work_16 : decode b_Od_work 16 = .ok (.ldc 47, 2) := by decide +kernel
theorem d_Od_work_18 : decode b_Od_work 18 = .ok (.ireturn, 1) := by decide +kernel
theorem d_Od_work_19 : decode b_Od_work 19 = .ok (.iload_n 3, 1) := by decide +kernel
theorem d_Od_work_20 : decode b_Od_work 20 = .ok (.invokestatic 43, 3) := by decide +kernel
theorem d_Od_work_23 : decode b_Od_work 23 = .ok (.ifCond .ne 11, 3) := by decide +kernel
theorem d_Od_work_26 : decode b_Od_work 26 = .ok (.iload 4, 2) := by decide +kernel
theorem d_Od_work_28 : decode b_Od_work 28 = .ok (.invokestatic 43, 3) := by decide +kernel
theorem d_Od_work_31 : decode b_Od_work 31 = .ok (.ifCond .eq 6, 3) := by decide +kernel
theorem d_Od_work_34 : decode b_Od_work 34 = .ok (.ldc 47, 2) := by decide +kernel
theorem d_Od_work_36 : decode b_Od_work 36 = .ok (.ireturn, 1) := by decide +kernel
theorem d_Od_work_37 : decode b_Od_work 37 = .ok (.aload_n 0, 1) := by decide +kernel
theorem d_Od_work_38 : decode b_Od_work 38 = .ok (.iload_n 3, 1) := by decide +kernel
theorem d_Od_work_39 : decode b_Od_work 39 = .ok (.invokevirtual 59, 3) := by decide +kernel
theorem d_Od_work_42 : decode b_Od_work 42 = .ok (.astore 5, 2) := by decide +kernel
theorem d_Od_work_44 : decode b_Od_work 44 = .ok (.aload_n 0, 1) := by decide +kernel
theorem d_Od_work_45 : decode b_Od_work 45 = .ok (.iload 4, 2) := by decide +kernel
theorem d_Od_work_47 : decode b_Od_work 47 = .ok (.invokevirtual 59, 3) := by decide +kernel
theorem d_Od_work_50 : decode b_Od_work 50 = .ok (.astore 6, 2) := by decide +kernel
theorem d_Od_work_52 : decode b_Od_work 52 = .ok (.aload 5, 2) := by decide +kernel
theorem d_Od_work_54 : decode b_Od_work 54 = .ok (.ifnull 8, 3) := by decide +kernel
theorem d_Od_work_57 : decode b_Od_work 57 = .ok (.aload 6, 2) := by decide +kernel
theorem d_Od_work_59 : decode b_Od_work 59 = .ok (.ifnonnull 9, 3) := by decide +kernel
theorem d_Od_work_62 : decode b_Od_work 62 = .ok (.aload_n 0, 1) := by decide +kernel
theorem d_Od_work_63 : decode b_Od_work 63 = .ok (.iconst 1, 1) := by decide +kernel
theorem d_Od_work_64 : decode b_Od_work 64 = .ok (.invokevirtual 48, 3) := by decide +kernel
theorem d_Od_work_67 : decode b_Od_work 67 = .ok (.ireturn, 1) := by decide +kernel
theorem d_Od_work_68 : decode b_Od_work 68 = .ok (.iload_n 1, 1) := by decide +kernel
theorem d_Od_work_69 : decode b_Od_work 69 = .ok (.iconst 3, 1) := by decide +kernel
theorem d_Od_work_70 : decode b_Od_work 70 = .ok (.if_icmp .ne 17, 3) := by decide +kernel
theorem d_Od_work_73 : decode b_Od_work 73 = .ok (.aload 6, 2) := by decide +kernel
theorem d_Od_work_75 : decode b_Od_work 75 = .ok (.getfield 67, 3) := by decide +kernel
theorem d_Od_work_78 : decode b_Od_work 78 = .ok (.ifCond .ne 9, 3) := by decide +kernel
theorem d_Od_work_81 : decode b_Od_work 81 = .ok (.aload_n 0, 1) := by decide +kernel
theorem d_Od_work_82 : decode b_Od_work 82 = .ok (.iconst 5, 1) := by decide +kernel
theorem d_Od_work_83 : decode b_Od_work 83 = .ok (.invokevirtual 48, 3) := by decide +kernel
theorem d_Od_work_86 : decode b_Od_work 86 = .ok (.ireturn, 1) := by decide +kernel
theorem d_Od_work_87 : decode b_Od_work 87 = .ok (.aload_n 0, 1) := by decide +kernel
theorem d_Od_work_88 : decode b_Od_work 88 = .ok (.iload_n 1, 1) := by decide +kernel
theorem d_Od_work_89 : decode b_Od_work 89 = .ok (.aload 5, 2) := by decide +kernel
theorem d_Od_work_91 : decode b_Od_work 91 = .ok (.aload 6, 2) := by decide +kernel
theorem d_Od_work_93 : decode b_Od_work 93 = .ok (.invokevirtual 77, 3) := by decide +kernel
theorem d_Od_work_96 : decode b_Od_work 96 = .ok (.aload_n 0, 1) := by decide +kernel
theorem d_Od_work_97 : decode b_Od_work 97 = .ok (.iload_n 2, 1) := by decide +kernel
theorem d_Od_work_98 : decode b_Od_work 98 = .ok (.invokevirtual 56, 3) := by decide +kernel
theorem d_Od_work_101 : decode b_Od_work 101 = .ok (.ireturn, 1) := by decide +kernel
theorem d_Od_workOut_0 : decode b_Od_workOut 0 = .ok (.iload_n 1, 1) := by decide +kernel
theorem d_Od_workOut_1 : decode b_Od_workOut 1 = .ok (.tableswitch 154 0 4 #[35, 51, 68, 96, 124], 35) := by decide +kernel
theorem d_Od_workOut_36 : decode b_Od_workOut 36 = .ok (.aload_n 0, 1) := by decide +kernel
theorem d_Od_workOut_37 : decode b_Od_workOut 37 = .ok (.getfield 25, 3) := by decide +kernel
theorem d_Od_workOut_40 : decode b_Od_workOut 40 = .ok (.aload_n 2, 1) := by decide +kernel
theorem d_Od_workOut_41 : decode b_Od_workOut 41 = .ok (.aload_n 3, 1) := by decide +kernel
theorem d_Od_workOut_42 : decode b_Od_workOut 42 = .ok (.aload_n 3, 1) := by decide +kernel
theorem d_Od_workOut_43 : decode b_Od_workOut 43 = .ok (.getfield 67, 3) := by decide +kernel
theorem d_Od_workOut_46 : decode b_Od_workOut 46 = .ok (.invokevirtual 199, 3) := by decide +kernel
theorem d_Od_workOut_49 : decode b_Od_workOut 49 = .ok (.goto 133, 3) := by decide +kernel
theorem d_Od_workOut_52 : decode b_Od_workOut 52 = .ok (.aload_n 0, 1) := by decide +kernel
theorem d_Od_workOut_53 : decode b_Od_workOut 53 = .ok (.getfield 25, 3) := by decide +kernel
theorem d_Od_workOut_56 : decode b_Od_workOut 56 = .ok (.aload_n 2, 1) := by decide +kernel
theorem d_Od_workOut_57 : decode b_Od_workOut 57 = .ok (.aload_n 3, 1) := by decide +kernel
theorem d_Od_workOut_58 : decode b_Od_workOut 58 = .ok (.aload_n 3, 1) := by decide +kernel
theorem d_Od_workOut_59 : decode b_Od_workOut 59 = .ok (.getfield 67, 3) := by decide +kernel
theorem d_Od_workOut_62 : decode b_Od_workOut 62 = .ok (.ineg, 1) := by decide +kernel
theorem d_Od_workOut_63 : decode b_Od_workOut 63 = .ok (.invokevirtual 199, 3) := by decide +kernel
theorem d_Od_workOut_66 : decode b_Od_workOut 66 = .ok (.goto 116, 3) := by decide +kernel
theorem d_Od_workOut_69 : decode b_Od_workOut 69 = .ok (.aload_n 0, 1) := by decide +kernel
theorem d_Od_workOut_70 : decode b_Od_workOut 70 = .ok (.getfield 25, 3) := by decide +kernel
theorem d_Od_workOut_73 : decode b_Od_workOut 73 = .ok (.aload_n 2, 1) := by decide +kernel
theorem d_Od_workOut_74 : decode b_Od_workOut 74 = .ok (.getfield 67, 3) := by decide +kernel
theorem d_Od_workOut_77 : decode b_Od_workOut 77 = .ok (.aload_n 3, 1) := by decide +kernel
theorem d_Od_workOut_78 : decode b_Od_workOut 78 = .ok (.getfield 67, 3) := by decide +kernel
theorem d_Od_workOut_81 : decode b_Od_workOut 81 = .ok (.imul, 1) := by decide +kernel
theorem d_Od_workOut_82 : decode b_Od_workOut 82 = .ok (.aload_n 2, 1) := by decide +kernel
theorem d_Od_workOut_83 : decode b_Od_workOut 83 = .ok (.aload_n 3, 1) := by decide +kernel
theorem d_Od_workOut_84 : decode b_Od_workOut 84 = .ok (.getfield 213, 3) := by decide +kernel
theorem d_Od_workOut_87 : decode b_Od_workOut 87 = .ok (.aload_n 3, 1) := by decide +kernel
theorem d_Od_workOut_88 : decode b_Od_workOut 88 = .ok (.getfield 217, 3) := by decide +kernel
theorem d_Od_workOut_91 : decode b_Od_workOut 91 = .ok (.invokevirtual 220, 3) := by decide +kernel
theorem d_Od_workOut_94 : decode b_Od_workOut 94 = .ok (.goto 88, 3) := by decide +kernel
theorem d_Od_workOut_97 : decode b_Od_workOut 97 = .ok (.aload_n 0, 1) := by decide +kernel
theorem d_Od_workOut_98 : decode b_Od_workOut 98 = .ok (.getfield 25, 3) := by decide +kernel
theorem d_Od_workOut_101 : decode b_Od_workOut 101 = .ok (.aload_n 2, 1) := by decide +kernel
theorem d_Od_workOut_102 : decode b_Od_workOut 102 = .ok (.getfield 67, 3) := by decide +kernel
theorem d_Od_workOut_105 : decode b_Od_workOut 105 = .ok (.aload_n 3, 1) := by decide +kernel
theorem d_Od_workOut_106 : decode b_Od_workOut 106 = .ok (.getfield 67, 3) := by decide +kernel
theorem d_Od_workOut_109 : decode b_Od_workOut 109 = .ok (.imul, 1) := by decide +kernel
theorem d_Od_workOut_110 : decode b_Od_workOut 110 = .ok (.aload_n 2, 1) := by decide +kernel
theorem d_Od_workOut_111 : decode b_Od_workOut 111 = .ok (.aload_n 3, 1) := by decide +kernel
theorem d_Od_workOut_112 : decode b_Od_workOut 112 = .ok (.getfield 217, 3) := by decide +kernel
theorem d_Od_workOut_115 : decode b_Od_workOut 115 = .ok (.aload_n 3, 1) := by decide +kernel
theorem d_Od_workOut_116 : decode b_Od_workOut 116 = .ok (.getfield 213, 3) := by decide +kernel
theorem d_Od_workOut_119 : decode b_Od_workOut 119 = .ok (.invokevirtual 220, 3) := by decide +kernel
theorem d_Od_workOut_122 : decode b_Od_workOut 122 = .ok (.goto 60, 3) := by decide +kernel
theorem d_Od_workOut_125 : decode b_Od_workOut 125 = .ok (.aload_n 0, 1) := by decide +kernel
theorem d_Od_workOut_126 : decode b_Od_workOut 126 = .ok (.getfield 25, 3) := by decide +kernel
theorem d_Od_workOut_129 : decode b_Od_workOut 129 = .ok (.getfield 182, 3) := by decide +kernel
theorem d_Od_workOut_132 : decode b_Od_workOut 132 = .ok (.aload_n 0, 1) := by decide +kernel
theorem d_Od_workOut_133 : decode b_Od_workOut 133 = .ok (.getfield 25, 3) := by decide +kernel
theorem d_Od_workOut_136 : decode b_Od_workOut 136 = .ok (.aload_n 2, 1) := by decide +kernel
theorem d_Od_workOut_137 : decode b_Od_workOut 137 = .ok (.aload_n 3, 1) := by decide +kernel
theorem d_Od_workOut_138 : decode b_Od_workOut 138 = .ok (.invokevirtual 97, 3) := by decide +kernel
theorem d_Od_workOut_141 : decode b_Od_workOut 141 = .ok (.ifCond .gt 7, 3) := by decide +kernel
theorem d_Od_workOut_144 : decode b_Od_workOut 144 = .ok (.aload_n 2, 1) := by decide +kernel
theorem d_Od_workOut_145 : decode b_Od_workOut 145 = .ok (.goto 4, 3) := by decide +kernel
theorem d_Od_workOut_148 : decode b_Od_workOut 148 = .ok (.aload_n 3, 1) := by decide +kernel
theorem d_Od_workOut_149 : decode b_Od_workOut 149 = .ok (.invokevirtual 224, 3) := by decide +kernel
theorem d_Od_workOut_152 : decode b_Od_workOut 152 = .ok (.goto 30, 3) := by decide +kernel
theorem d_Od_workOut_155 : decode b_Od_workOut 155 = .ok (.aload_n 0, 1) := by decide +kernel
theorem d_Od_workOut_156 : decode b_Od_workOut 156 = .ok (.getfield 25, 3) := by decide +kernel
theorem d_Od_workOut_159 : decode b_Od_workOut 159 = .ok (.getfield 182, 3) := by decide +kernel
theorem d_Od_workOut_162 : decode b_Od_workOut 162 = .ok (.aload_n 0, 1) := by decide +kernel
theorem d_Od_workOut_163 : decode b_Od_workOut 163 = .ok (.getfield 25, 3) := by decide +kernel
theorem d_Od_workOut_166 : decode b_Od_workOut 166 = .ok (.aload_n 2, 1) := by decide +kernel
theorem d_Od_workOut_167 : decode b_Od_workOut 167 = .ok (.aload_n 3, 1) := by decide +kernel
theorem d_Od_workOut_168 : decode b_Od_workOut 168 = .ok (.invokevirtual 97, 3) := by decide +kernel
theorem d_Od_workOut_171 : decode b_Od_workOut 171 = .ok (.ifCond .lt 7, 3) := by decide +kernel
theorem d_Od_workOut_174 : decode b_Od_workOut 174 = .ok (.aload_n 2, 1) := by decide +kernel
theorem d_Od_workOut_175 : decode b_Od_workOut 175 = .ok (.goto 4, 3) := by decide +kernel
theorem d_Od_workOut_178 : decode b_Od_workOut 178 = .ok (.aload_n 3, 1) := by decide +kernel
theorem d_Od_workOut_179 : decode b_Od_workOut 179 = .ok (.invokevirtual 224, 3) := by decide +kernel
theorem d_Od_workOut_182 : decode b_Od_workOut 182 = .ok (.return_, 1) := by decide +kernel
theorem d_Od_round_0 : decode b_Od_round 0 = .ok (.iload_n 1, 1) := by decide +kernel
theorem d_Od_round_1 : decode b_Od_round 1 = .ok (.invokestatic 43, 3) := by decide +kernel
theorem d_Od_round_4 : decode b_Od_round 4 = .ok (.ifCond .ne 22, 3) := by decide +kernel
theorem d_Od_round_7 : decode b_Od_round 7 = .ok (.iload_n 2, 1) := by decide +kernel
theorem d_Od_round_8 : decode b_Od_round 8 = .ok (.iconst 0, 1) := by decide +kernel
theorem d_Od_round_9 : decode b_Od_round 9 = .ok (.bipush 18, 2) := by decide +kernel
theorem d_Od_round_11 : decode b_Od_round 11 = .ok (.invokestatic 73, 3) := by decide +kernel
theorem d_Od_round_14 : decode b_Od_round 14 = .ok (.ifCond .ne 12, 3) := by decide +kernel
theorem d_Od_round_17 : decode b_Od_round 17 = .ok (.iload_n 3, 1) := by decide +kernel
theorem d_Od_round_18 : decode b_Od_round 18 = .ok (.iconst 0, 1) := by decide +kernel
theorem d_Od_round_19 : decode b_Od_round 19 = .ok (.iconst 3, 1) := by decide +kernel
theorem d_Od_round_20 : decode b_Od_round 20 = .ok (.invokestatic 73, 3) := by decide +kernel
theorem d_Od_round_23 : decode b_Od_round 23 = .ok (.ifCond .eq 7, 3) := by decide +kernel
theorem d_Od_round_26 : decode b_Od_round 26 = .ok (.ldc2_w 113, 3) := by decide +kernel
theorem d_Od_round_29 : decode b_Od_round 29 = .ok (.lreturn, 1) := by decide +kernel
theorem d_Od_round_30 : decode b_Od_round 30 = .ok (.aload_n 0, 1) := by decide +kernel
theorem d_Od_round_31 : decode b_Od_round 31 = .ok (.iload_n 1, 1) := by decide +kernel
theorem d_Od_round_32 : decode b_Od_round 32 = .ok (.invokevirtual 59, 3) := by decide +kernel
theorem d_Od_round_35 : decode b_Od_round 35 = .ok (.astore 4, 2) := by decide +kernel
theorem d_Od_round_37 : decode b_Od_round 37 = .ok (.aload 4, 2) := by decide +kernel
theorem d_Od_round_39 : decode b_Od_round 39 = .ok (.ifnonnull 10, 3) := by decide +kernel
theorem d_Od_round_42 : decode b_Od_round 42 = .ok (.aload_n 0, 1) := by decide +kernel
theorem d_Od_round_43 : decode b_Od_round 43 = .ok (.iconst 1, 1) := by decide +kernel
theorem d_Od_round_44 : decode b_Od_round 44 = .ok (.invokevirtual 48, 3) := by decide +kernel
theorem d_Od_round_47 : decode b_Od_round 47 = .ok (.i2l, 1) := by decide +kernel
theorem d_Od_round_48 : decode b_Od_round 48 = .ok (.lreturn, 1) := by decide +kernel
theorem d_Od_round_49 : decode b_Od_round 49 = .ok (.aload_n 0, 1) := by decide +kernel
theorem d_Od_round_50 : decode b_Od_round 50 = .ok (.getfield 32, 3) := by decide +kernel
theorem d_Od_round_53 : decode b_Od_round 53 = .ok (.aload 4, 2) := by decide +kernel
theorem d_Od_round_55 : decode b_Od_round 55 = .ok (.iload_n 2, 1) := by decide +kernel
theorem d_Od_round_56 : decode b_Od_round 56 = .ok (.iload_n 3, 1) := by decide +kernel
theorem d_Od_round_57 : decode b_Od_round 57 = .ok (.invokevirtual 119, 3) := by decide +kernel
theorem d_Od_round_60 : decode b_Od_round 60 = .ok (.aload_n 0, 1) := by decide +kernel
theorem d_Od_round_61 : decode b_Od_round 61 = .ok (.getfield 32, 3) := by decide +kernel
theorem d_Od_round_64 : decode b_Od_round 64 = .ok (.aload 4, 2) := by decide +kernel
theorem d_Od_round_66 : decode b_Od_round 66 = .ok (.getfield 67, 3) := by decide +kernel
theorem d_Od_round_69 : decode b_Od_round 69 = .ok (.invokevirtual 123, 3) := by decide +kernel
theorem d_Od_round_72 : decode b_Od_round 72 = .ok (.ifCond .ne 11, 3) := by decide +kernel
theorem d_Od_round_75 : decode b_Od_round 75 = .ok (.aload_n 0, 1) := by decide +kernel
theorem d_Od_round_76 : decode b_Od_round 76 = .ok (.bipush 7, 2) := by decide +kernel
theorem d_Od_round_78 : decode b_Od_round 78 = .ok (.invokevirtual 48, 3) := by decide +kernel
theorem d_Od_round_81 : decode b_Od_round 81 = .ok (.i2l, 1) := by decide +kernel
theorem d_Od_round_82 : decode b_Od_round 82 = .ok (.lreturn, 1) := by decide +kernel
theorem d_Od_round_83 : decode b_Od_round 83 = .ok (.aload_n 0, 1) := by decide +kernel
theorem d_Od_round_84 : decode b_Od_round 84 = .ok (.iconst 0, 1) := by decide +kernel
theorem d_Od_round_85 : decode b_Od_round 85 = .ok (.invokevirtual 48, 3) := by decide +kernel
theorem d_Od_round_88 : decode b_Od_round 88 = .ok (.pop, 1) := by decide +kernel
theorem d_Od_round_89 : decode b_Od_round 89 = .ok (.aload_n 0, 1) := by decide +kernel
theorem d_Od_round_90 : decode b_Od_round 90 = .ok (.getfield 32, 3) := by decide +kernel
theorem d_Od_round_93 : decode b_Od_round 93 = .ok (.aload 4, 2) := by decide +kernel
theorem d_Od_round_95 : decode b_Od_round 95 = .ok (.getfield 67, 3) := by decide +kernel
theorem d_Od_round_98 : decode b_Od_round 98 = .ok (.invokevirtual 126, 3) := by decide +kernel
theorem d_Od_round_101 : decode b_Od_round 101 = .ok (.lreturn, 1) := by decide +kernel
theorem d_Od_real_0 : decode b_Od_real 0 = .ok (.iload_n 1, 1) := by decide +kernel
theorem d_Od_real_1 : decode b_Od_real 1 = .ok (.invokestatic 43, 3) := by decide +kernel
theorem d_Od_real_4 : decode b_Od_real 4 = .ok (.ifCond .ne 12, 3) := by decide +kernel
theorem d_Od_real_7 : decode b_Od_real 7 = .ok (.iload_n 2, 1) := by decide +kernel
theorem d_Od_real_8 : decode b_Od_real 8 = .ok (.iconst 0, 1) := by decide +kernel
theorem d_Od_real_9 : decode b_Od_real 9 = .ok (.iconst 1, 1) := by decide +kernel
theorem d_Od_real_10 : decode b_Od_real 10 = .ok (.invokestatic 73, 3) := by decide +kernel
theorem d_Od_real_13 : decode b_Od_real 13 = .ok (.ifCond .eq 7, 3) := by decide +kernel
theorem d_Od_real_16 : decode b_Od_real 16 = .ok (.ldc2_w 113, 3) := by decide +kernel
theorem d_Od_real_19 : decode b_Od_real 19 = .ok (.lreturn, 1) := by decide +kernel
theorem d_Od_real_20 : decode b_Od_real 20 = .ok (.aload_n 0, 1) := by decide +kernel
theorem d_Od_real_21 : decode b_Od_real 21 = .ok (.iload_n 1, 1) := by decide +kernel
theorem d_Od_real_22 : decode b_Od_real 22 = .ok (.invokevirtual 59, 3) := by decide +kernel
theorem d_Od_real_25 : decode b_Od_real 25 = .ok (.astore_n 3, 1) := by decide +kernel
theorem d_Od_real_26 : decode b_Od_real 26 = .ok (.aload_n 3, 1) := by decide +kernel
theorem d_Od_real_27 : decode b_Od_real 27 = .ok (.ifnonnull 10, 3) := by decide +kernel
theorem d_Od_real_30 : decode b_Od_real 30 = .ok (.aload_n 0, 1) := by decide +kernel
theorem d_Od_real_31 : decode b_Od_real 31 = .ok (.iconst 1, 1) := by decide +kernel
theorem d_Od_real_32 : decode b_Od_real 32 = .ok (.invokevirtual 48, 3) := by decide +kernel
theorem d_Od_real_35 : decode b_Od_real 35 = .ok (.i2l, 1) := by decide +kernel
theorem d_Od_real_36 : decode b_Od_real 36 = .ok (.lreturn, 1) := by decide +kernel
theorem d_Od_real_37 : decode b_Od_real 37 = .ok (.aload_n 0, 1) := by decide +kernel
theorem d_Od_real_38 : decode b_Od_real 38 = .ok (.iconst 0, 1) := by decide +kernel
theorem d_Od_real_39 : decode b_Od_real 39 = .ok (.invokevirtual 48, 3) := by decide +kernel
theorem d_Od_real_42 : decode b_Od_real 42 = .ok (.pop, 1) := by decide +kernel
theorem d_Od_real_43 : decode b_Od_real 43 = .ok (.aload_n 0, 1) := by decide +kernel
theorem d_Od_real_44 : decode b_Od_real 44 = .ok (.getfield 32, 3) := by decide +kernel
theorem d_Od_real_47 : decode b_Od_real 47 = .ok (.aload_n 3, 1) := by decide +kernel
theorem d_Od_real_48 : decode b_Od_real 48 = .ok (.iload_n 2, 1) := by decide +kernel
theorem d_Od_real_49 : decode b_Od_real 49 = .ok (.invokevirtual 129, 3) := by decide +kernel
theorem d_Od_real_52 : decode b_Od_real 52 = .ok (.lreturn, 1) := by decide +kernel
theorem d_Od_from_0 : decode b_Od_from 0 = .ok (.iload_n 1, 1) := by decide +kernel
theorem d_Od_from_1 : decode b_Od_from 1 = .ok (.invokestatic 43, 3) := by decide +kernel
theorem d_Od_from_4 : decode b_Od_from 4 = .ok (.ifCond .eq 6, 3) := by decide +kernel
theorem d_Od_from_7 : decode b_Od_from 7 = .ok (.ldc 47, 2) := by decide +kernel
theorem d_Od_from_9 : decode b_Od_from 9 = .ok (.ireturn, 1) := by decide +kernel
theorem d_Od_from_10 : decode b_Od_from 10 = .ok (.lload_n 2, 1) := by decide +kernel
theorem d_Od_from_11 : decode b_Od_from 11 = .ok (.invokestatic 133, 3) := by decide +kernel
theorem d_Od_from_14 : decode b_Od_from 14 = .ok (.ifCond .eq 10, 3) := by decide +kernel
theorem d_Od_from_17 : decode b_Od_from 17 = .ok (.aload_n 0, 1) := by decide +kernel
theorem d_Od_from_18 : decode b_Od_from 18 = .ok (.bipush 7, 2) := by decide +kernel
theorem d_Od_from_20 : decode b_Od_from 20 = .ok (.invokevirtual 48, 3) := by decide +kernel
theorem d_Od_from_23 : decode b_Od_from 23 = .ok (.ireturn, 1) := by decide +kernel
theorem d_Od_from_24 : decode b_Od_from 24 = .ok (.aload_n 0, 1) := by decide +kernel
theorem d_Od_from_25 : decode b_Od_from 25 = .ok (.getfield 25, 3) := by decide +kernel
theorem d_Od_from_28 : decode b_Od_from 28 = .ok (.lload_n 2, 1) := by decide +kernel
theorem d_Od_from_29 : decode b_Od_from 29 = .ok (.invokevirtual 137, 3) := by decide +kernel
theorem d_Od_from_32 : decode b_Od_from 32 = .ok (.ifCond .ne 10, 3) := by decide +kernel
theorem d_Od_from_35 : decode b_Od_from 35 = .ok (.aload_n 0, 1) := by decide +kernel
theorem d_Od_from_36 : decode b_Od_from 36 = .ok (.bipush 6, 2) := by decide +kernel
theorem d_Od_from_38 : decode b_Od_from 38 = .ok (.invokevirtual 48, 3) := by decide +kernel
theorem d_Od_from_41 : decode b_Od_from 41 = .ok (.ireturn, 1) := by decide +kernel
theorem d_Od_from_42 : decode b_Od_from 42 = .ok (.aload_n 0, 1) := by decide +kernel
theorem d_Od_from_43 : decode b_Od_from 43 = .ok (.iload_n 1, 1) := by decide +kernel
theorem d_Od_from_44 : decode b_Od_from 44 = .ok (.invokevirtual 56, 3) := by decide +kernel
theorem d_Od_from_47 : decode b_Od_from 47 = .ok (.ireturn, 1) := by decide +kernel
theorem d_Od_exact_0 : decode b_Od_exact 0 = .ok (.iload_n 1, 1) := by decide +kernel
theorem d_Od_exact_1 : decode b_Od_exact 1 = .ok (.iconst 0, 1) := by decide +kernel
theorem d_Od_exact_2 : decode b_Od_exact 2 = .ok (.bipush 7, 2) := by decide +kernel
theorem d_Od_exact_4 : decode b_Od_exact 4 = .ok (.invokestatic 73, 3) := by decide +kernel
theorem d_Od_exact_7 : decode b_Od_exact 7 = .ok (.ifCond .eq 7, 3) := by decide +kernel
theorem d_Od_exact_10 : decode b_Od_exact 10 = .ok (.ldc2_w 113, 3) := by decide +kernel
theorem d_Od_exact_13 : decode b_Od_exact 13 = .ok (.lreturn, 1) := by decide +kernel
theorem d_Od_exact_14 : decode b_Od_exact 14 = .ok (.iload_n 1, 1) := by decide +kernel
theorem d_Od_exact_15 : decode b_Od_exact 15 = .ok (.invokestatic 142, 3) := by decide +kernel
theorem d_Od_exact_18 : decode b_Od_exact 18 = .ok (.ifCond .eq 17, 3) := by decide +kernel
theorem d_Od_exact_21 : decode b_Od_exact 21 = .ok (.lload 4, 2) := by decide +kernel
theorem d_Od_exact_23 : decode b_Od_exact 23 = .ok (.lconst 0, 1) := by decide +kernel
theorem d_Od_exact_24 : decode b_Od_exact 24 = .ok (.lcmp, 1) := by decide +kernel
theorem d_Od_exact_25 : decode b_Od_exact 25 = .ok (.ifCond .ne 10, 3) := by decide +kernel
theorem d_Od_exact_28 : decode b_Od_exact 28 = .ok (.aload_n 0, 1) := by decide +kernel
theorem d_Od_exact_29 : decode b_Od_exact 29 = .ok (.iconst 5, 1) := by decide +kernel
theorem d_Od_exact_30 : decode b_Od_exact 30 = .ok (.invokevirtual 48, 3) := by decide +kernel
theorem d_Od_exact_33 : decode b_Od_exact 33 = .ok (.i2l, 1) := by decide +kernel
theorem d_Od_exact_34 : decode b_Od_exact 34 = .ok (.lreturn, 1) := by decide +kernel
theorem d_Od_exact_35 : decode b_Od_exact 35 = .ok (.iload_n 1, 1) := by decide +kernel
theorem d_Od_exact_36 : decode b_Od_exact 36 = .ok (.lload_n 2, 1) := by decide +kernel
theorem d_Od_exact_37 : decode b_Od_exact 37 = .ok (.lload 4, 2) := by decide +kernel
theorem d_Od_exact_39 : decode b_Od_exact 39 = .ok (.invokestatic 145, 3) := by decide +kernel
theorem d_Od_exact_42 : decode b_Od_exact 42 = .ok (.ifCond .ne 11, 3) := by decide +kernel
theorem d_Od_exact_45 : decode b_Od_exact 45 = .ok (.aload_n 0, 1) := by decide +kernel
theorem d_Od_exact_46 : decode b_Od_exact 46 = .ok (.bipush 7, 2) := by decide +kernel
theorem d_Od_exact_48 : decode b_Od_exact 48 = .ok (.invokevirtual 48, 3) := by decide +kernel
theorem d_Od_exact_51 : decode b_Od_exact 51 = .ok (.i2l, 1) := by decide +kernel
theorem d_Od_exact_52 : decode b_Od_exact 52 = .ok (.lreturn, 1) := by decide +kernel
theorem d_Od_exact_53 : decode b_Od_exact 53 = .ok (.aload_n 0, 1) := by decide +kernel
theorem d_Od_exact_54 : decode b_Od_exact 54 = .ok (.iconst 0, 1) := by decide +kernel
theorem d_Od_exact_55 : decode b_Od_exact 55 = .ok (.invokevirtual 48, 3) := by decide +kernel
theorem d_Od_exact_58 : decode b_Od_exact 58 = .ok (.pop, 1) := by decide +kernel
theorem d_Od_exact_59 : decode b_Od_exact 59 = .ok (.iload_n 1, 1) := by decide +kernel
theorem d_Od_exact_60 : decode b_Od_exact 60 = .ok (.lload_n 2, 1) := by decide +kernel
theorem d_Od_exact_61 : decode b_Od_exact 61 = .ok (.lload 4, 2) := by decide +kernel
theorem d_Od_exact_63 : decode b_Od_exact 63 = .ok (.invokestatic 149, 3) := by decide +kernel
theorem d_Od_exact_66 : decode b_Od_exact 66 = .ok (.lreturn, 1) := by decide +kernel
theorem lN_uN (x : Int64) : x = lN (uN x) := wb_inj (by rw [wb_tb]; show x.toBitVec = BitVec.ofNat 64 x.toBitVec.toNat; simp)
theorem isS_neg {s : Int32} {n : Nat} (h : isS s n) : isS (-s) n := by
  rcases h with ⟨z, y⟩ | ⟨z, y⟩ | ⟨z, y⟩
  · exact Or.inl ⟨by rw [z]; rfl, y⟩
  · exact Or.inr (Or.inr ⟨by rw [z], y⟩)
  · exact Or.inr (Or.inl ⟨by rw [z]; rfl, y⟩)
theorem isS_sm {s : Int32} {n : Nat} (h : isS s n) (hn : n ≠ 0) : sm s := by
  rcases h with ⟨z, y⟩ | ⟨z, y⟩ | ⟨z, y⟩
  · exact absurd y hn
  · exact Or.inl z
  · exact Or.inr z
theorem isS_0 {s : Int32} {n : Nat} (h : isS s n) (hn : n = 0) : s = 0 := by
  rcases h with ⟨z, y⟩ | ⟨z, y⟩ | ⟨z, y⟩
  · exact z
  · omega
  · omega
theorem isS_n0 {s : Int32} {n : Nat} (h : isS s n) (hs : s ≠ 0) : n ≠ 0 := fun z => hs (isS_0 h z)
theorem i32_lt0 {x : Int32} : ¬ x ≤ 0 ↔ 0 < x := by rw [Int32.le_iff_toInt_le, Int32.lt_iff_toInt_lt]; omega
/-- the reckoner's answer put anew -/
theorem RV_FR {g g' : Gh} {R a b : Nat} {sg s' : Int32} {v : Nat → Nat} (h : RV g R sg v) (hF : FR g' (R + 1) 20 20 s' a b) (hw : gW g g' (R + 1) (R + 1 + 5)) : ∃ v', RV g' R s' v' ∧ v' 2 = a ∧ v' 4 = b := by
  refine ⟨upN (upN v 2 a) 4 b, ⟨?_, ?_, hF.1, fun j hj => ?_⟩, rfl, rfl⟩
  · unfold RE; rw [hw R (by omega)]; exact h.1
  · unfold DV; rw [hw (R + 6) (by omega)]; exact h.2.1
  · have hn := h.2.2.2 j hj
    by_cases h4 : j = 4
    · rw [h4, upN_s]; exact hF.2.2
    · rw [upN_n h4]
      by_cases h2 : j = 2
      · rw [h2, upN_s]; exact hF.2.1
      · rw [upN_n h2]
        have : j ∈ kL → j ≠ 4 → j ≠ 2 → 7 ≤ j := by
          have : ∀ k ∈ kL, k ≠ 4 → k ≠ 2 → 7 ≤ k := by decide
          exact this j
        have h7 := this hj h4 h2
        exact NA_W hn hw (by omega)
theorem wkQ_ok {x y : Qf} {act : Nat} (hx : QOK x) (hy : QOK y) (h3 : act = 3 → y.1 ≠ 0) : QOK (wkQ act x y) := by
  unfold wkQ
  split
  · exact addQ_ok hx hy
  · exact addQ_ok hx hy
  · refine mk_ok (fun h => sm_mul (isS_sm hx.1 (fun z => h (by rw [z, Nat.zero_mul]))) (isS_sm hy.1 (fun z => h (by rw [z, Nat.mul_zero])))) (Nat.mul_pos hx.2.2 hy.2.2)
  · have := isS_n0 hy.1 (h3 rfl)
    refine mk_ok (fun h => sm_mul (isS_sm hx.1 (fun z => h (by rw [z, Nat.zero_mul]))) (isS_sm hy.1 this)) (Nat.mul_pos hx.2.2 (by omega))
  · split
    · exact hx
    · exact hy
  · split
    · exact hx
    · exact hy
theorem w820 {a : Nat} (h : a < 4294967296 ^ 8) : a < 4294967296 ^ 20 := Nat.lt_of_lt_of_le h (Nat.pow_le_pow_right (by decide) (by decide))
theorem c_Od_workOut (l : Launch) {g : Gh} {nx O b1 b2 : Nat} {S : Sx} {sg : Int32} {v w : Nat → Nat} {x y : Qf} (hV : OV g O nx S sg v w) (hK1 : KF g O nx b1 x) (hK2 : KF g O nx b2 y) (act : Nat) (ha : act ≤ 5) (h3 : act = 3 → y.1 ≠ 0) : Ct l m_Od_workOut 0 0 [.ref O, .int (nI act), .ref b1, .ref b2] g nx (fun r g' nx' => r = none ∧ nx = nx' ∧ gW g g' (O + 11) (O + 11 + 25) ∧ ∃ s' v', RV g' (O + 11) s' v' ∧ wkQ act x y = (s', v' 2, v' 4)) := by
  have h0 := hV.1
  obtain ⟨k1, k2, ⟨N, M, k3⟩, k4⟩ := id hK1
  obtain ⟨j1, j2, ⟨N', M', j3⟩, j4⟩ := id hK2
  have k31 := k3.1
  have j31 := j3.1
  have R1 := hV.2.2.2.2.1
  have R11 := R1.1
  have R12 := R1.2.2.1
  unfold RE at R11
  have xb := k4.1.2.2
  have yb := j4.1.2.2
  refine Ct.of (by decide) (Nat.le_of_ble_eq_true rfl) (fun E hE hQ => ?_)
  refine z_iload_n hE d_Od_workOut_0 rfl ?_
  rcases (by omega : act = 0 ∨ act = 1 ∨ act = 2 ∨ act = 3 ∨ act = 4 ∨ act = 5) with rfl | rfl | rfl | rfl | rfl | rfl
  · refine z_tableIn (tgt := 36) (off := 35) hE d_Od_workOut_1 (by decide) (by decide) (by decide) (by decide) ?_
    refine z_aload_n hE d_Od_workOut_36 rfl ?_
    refine z_get hE d_Od_workOut_37 fl_Od_25 (by assumption) rfl ?_
    refine z_aload_n hE d_Od_workOut_40 rfl ?_
    refine z_aload_n hE d_Od_workOut_41 rfl ?_
    refine z_aload_n hE d_Od_workOut_42 rfl ?_
    refine z_getN hE d_Od_workOut_43 fl_Od_67 (by assumption) rfl ?_
    refine z_callV hE d_Od_workOut_46 cl_Od_199 (c_Re_add l nx R1 k3 j3 (by omega) (by omega) k4.1.1 j4.1.1 k4.2.1 k4.2.2 j4.2.1 j4.2.2 (by omega) (by omega)) (by assumption) cb_Re rfl (Nat.le_of_ble_eq_true rfl) ⟨by decide, by decide⟩ ⟨by omega, by omega⟩ (fun r_1 g_1 nx_1 hp_1 => ?_) rfl
    try dsimp only [Option.toList, List.nil_append, List.cons_append]
    obtain ⟨rfl, rfl, W, v', V', e2, e4⟩ := hp_1
    try dsimp only [Option.toList, List.nil_append, List.cons_append]
    refine z_goto (tgt := 182) hE d_Od_workOut_49 (by decide) ?_
    refine z_vret hE hQ d_Od_workOut_182 rfl (by omega) (by omega) ⟨rfl, rfl, W, _, v', V', ?_⟩
    show addQ x y y.1 = _
    rw [addQ_eq k4.1 j4.1 j4.1.1, e2, e4]
  · refine z_tableIn (tgt := 52) (off := 51) hE d_Od_workOut_1 (by decide) (by decide) (by decide) (by decide) ?_
    refine z_aload_n hE d_Od_workOut_52 rfl ?_
    refine z_get hE d_Od_workOut_53 fl_Od_25 (by assumption) rfl ?_
    refine z_aload_n hE d_Od_workOut_56 rfl ?_
    refine z_aload_n hE d_Od_workOut_57 rfl ?_
    refine z_aload_n hE d_Od_workOut_58 rfl ?_
    refine z_getN hE d_Od_workOut_59 fl_Od_67 (by assumption) rfl ?_
    refine z_ineg hE d_Od_workOut_62 (rfl) ?_
    refine z_callV hE d_Od_workOut_63 cl_Od_199 (c_Re_add l nx R1 k3 j3 (by omega) (by omega) k4.1.1 (isS_neg j4.1.1) k4.2.1 k4.2.2 j4.2.1 j4.2.2 (by omega) (by omega)) (by assumption) cb_Re rfl (Nat.le_of_ble_eq_true rfl) ⟨by decide, by decide⟩ ⟨by omega, by omega⟩ (fun r_1 g_1 nx_1 hp_1 => ?_) rfl
    try dsimp only [Option.toList, List.nil_append, List.cons_append]
    obtain ⟨rfl, rfl, W, v', V', e2, e4⟩ := hp_1
    try dsimp only [Option.toList, List.nil_append, List.cons_append]
    refine z_goto (tgt := 182) hE d_Od_workOut_66 (by decide) ?_
    refine z_vret hE hQ d_Od_workOut_182 rfl (by omega) (by omega) ⟨rfl, rfl, W, _, v', V', ?_⟩
    show addQ x y (-y.1) = _
    rw [addQ_eq k4.1 j4.1 (isS_neg j4.1.1), e2, e4]
  · refine z_tableIn (tgt := 69) (off := 68) hE d_Od_workOut_1 (by decide) (by decide) (by decide) (by decide) ?_
    refine z_aload_n hE d_Od_workOut_69 rfl ?_
    refine z_get hE d_Od_workOut_70 fl_Od_25 (by assumption) rfl ?_
    refine z_aload_n hE d_Od_workOut_73 rfl ?_
    refine z_getN hE d_Od_workOut_74 fl_Od_67 (by assumption) rfl ?_
    refine z_aload_n hE d_Od_workOut_77 rfl ?_
    refine z_getN hE d_Od_workOut_78 fl_Od_67 (by assumption) rfl ?_
    refine z_imul hE d_Od_workOut_81 (rfl) ?_
    refine z_aload_n hE d_Od_workOut_82 rfl ?_
    refine z_aload_n hE d_Od_workOut_83 rfl ?_
    refine z_getN hE d_Od_workOut_84 fl_Od_213 (by assumption) rfl ?_
    refine z_aload_n hE d_Od_workOut_87 rfl ?_
    refine z_getN hE d_Od_workOut_88 fl_Od_217 (by assumption) rfl ?_
    refine z_callV hE d_Od_workOut_91 cl_Od_220 (c_Re_multiply l nx (s := x.1 * y.1) R1 k3 j3.2.1 j3.2.2 (by omega) (by omega) (by omega) k4.2.1 k4.2.2 j4.2.1 j4.2.2 (by omega) (by omega)) (by assumption) cb_Re rfl (Nat.le_of_ble_eq_true rfl) ⟨by decide, by decide⟩ ⟨by omega, by omega⟩ (fun r_1 g_1 nx_1 hp_1 => ?_) rfl
    try dsimp only [Option.toList, List.nil_append, List.cons_append]
    obtain ⟨rfl, rfl, W, v', V', e2, e4⟩ := hp_1
    try dsimp only [Option.toList, List.nil_append, List.cons_append]
    refine z_goto (tgt := 182) hE d_Od_workOut_94 (by decide) ?_
    refine z_vret hE hQ d_Od_workOut_182 rfl (by omega) (by omega) ⟨rfl, rfl, W, _, v', V', ?_⟩
    show mk (x.1 * y.1) (x.2.1 * y.2.1) (x.2.2 * y.2.2) = _
    rw [mul_eq k4.1.2.1 j4.1.2.1 xb yb (fun z => ?_), e2, e4]
    rcases Nat.mul_eq_zero.mp z with z | z
    · rw [isS_0 k4.1.1 z, Int32.zero_mul]
    · rw [isS_0 j4.1.1 z, Int32.mul_zero]
  · have hy0 := isS_n0 j4.1.1 (h3 rfl)
    refine z_tableIn (tgt := 97) (off := 96) hE d_Od_workOut_1 (by decide) (by decide) (by decide) (by decide) ?_
    refine z_aload_n hE d_Od_workOut_97 rfl ?_
    refine z_get hE d_Od_workOut_98 fl_Od_25 (by assumption) rfl ?_
    refine z_aload_n hE d_Od_workOut_101 rfl ?_
    refine z_getN hE d_Od_workOut_102 fl_Od_67 (by assumption) rfl ?_
    refine z_aload_n hE d_Od_workOut_105 rfl ?_
    refine z_getN hE d_Od_workOut_106 fl_Od_67 (by assumption) rfl ?_
    refine z_imul hE d_Od_workOut_109 (rfl) ?_
    refine z_aload_n hE d_Od_workOut_110 rfl ?_
    refine z_aload_n hE d_Od_workOut_111 rfl ?_
    refine z_getN hE d_Od_workOut_112 fl_Od_217 (by assumption) rfl ?_
    refine z_aload_n hE d_Od_workOut_115 rfl ?_
    refine z_getN hE d_Od_workOut_116 fl_Od_213 (by assumption) rfl ?_
    refine z_callV hE d_Od_workOut_119 cl_Od_220 (c_Re_multiply l nx (s := x.1 * y.1) R1 k3 j3.2.2 j3.2.1 (by omega) (by omega) (by omega) k4.2.1 k4.2.2 j4.2.2 j4.2.1 (by omega) hy0) (by assumption) cb_Re rfl (Nat.le_of_ble_eq_true rfl) ⟨by decide, by decide⟩ ⟨by omega, by omega⟩ (fun r_1 g_1 nx_1 hp_1 => ?_) rfl
    try dsimp only [Option.toList, List.nil_append, List.cons_append]
    obtain ⟨rfl, rfl, W, v', V', e2, e4⟩ := hp_1
    try dsimp only [Option.toList, List.nil_append, List.cons_append]
    refine z_goto (tgt := 182) hE d_Od_workOut_122 (by decide) ?_
    refine z_vret hE hQ d_Od_workOut_182 rfl (by omega) (by omega) ⟨rfl, rfl, W, _, v', V', ?_⟩
    show mk (x.1 * y.1) (x.2.1 * y.2.2) (x.2.2 * y.2.1) = _
    rw [mul_eq k4.1.2.1 ((Nat.gcd_comm _ _).trans j4.1.2.1) xb (by omega) (fun z => ?_), e2, e4]
    rcases Nat.mul_eq_zero.mp z with z | z
    · rw [isS_0 k4.1.1 z, Int32.zero_mul]
    · exact absurd z (by omega)
  · refine z_tableIn (tgt := 125) (off := 124) hE d_Od_workOut_1 (by decide) (by decide) (by decide) (by decide) ?_
    refine z_aload_n hE d_Od_workOut_125 rfl ?_
    refine z_get hE d_Od_workOut_126 fl_Od_25 (by assumption) rfl ?_
    refine z_getN hE d_Od_workOut_129 fl_Od_182 (by assumption) rfl ?_
    refine z_aload_n hE d_Od_workOut_132 rfl ?_
    refine z_get hE d_Od_workOut_133 fl_Od_25 (by assumption) rfl ?_
    refine z_aload_n hE d_Od_workOut_136 rfl ?_
    refine z_aload_n hE d_Od_workOut_137 rfl ?_
    refine z_callV hE d_Od_workOut_138 cl_Od_97 (c_Re_compare l nx R1 k3 j3 (by omega) (by omega) k4.2.1 k4.2.2 j4.2.1 j4.2.2) (by assumption) cb_Re rfl (Nat.le_of_ble_eq_true rfl) ⟨by decide, by decide⟩ ⟨by omega, by omega⟩ (fun r_1 g_1 nx_1 hp_1 => ?_) rfl
    try dsimp only [Option.toList, List.nil_append, List.cons_append]
    obtain ⟨rfl, rfl, W, v1, V1, -⟩ := hp_1
    try dsimp only [Option.toList, List.nil_append, List.cons_append]
    have W' : gW g g_1 (O + 11) (O + 11 + 25) := gW_le W (by omega) (by omega)
    have fin : ∀ (b : Nat) (q : Qf) lv, KF g O nx b q → wkQ 4 x y = q → zJ E g_1 nx 0 0 149 lv [.ref b, .ref (O + 11 + 1)] := by
      intro b q lv hK e
      obtain ⟨i1, i2, ⟨N1, M1, i3⟩, i4⟩ := KF_X hK (fun p a b => W' p (by omega)) (Nat.le_refl nx)
      have F1 := RV_F V1
      have F11 := F1.1
      refine z_callV hE d_Od_workOut_149 cl_Od_224 (c_Fr_become l nx F1 i3 (by omega) (w820 i4.2.1) (w820 i4.2.2)) (by assumption) cb_Fr rfl (Nat.le_of_ble_eq_true rfl) ⟨by decide, by decide⟩ ⟨by omega, by omega⟩ (fun r_2 g_2 nx_2 hp_2 => ?_) rfl
      try dsimp only [Option.toList, List.nil_append, List.cons_append]
      obtain ⟨rfl, rfl, F2, W2⟩ := hp_2
      try dsimp only [Option.toList, List.nil_append, List.cons_append]
      obtain ⟨v', V', e2, e4⟩ := RV_FR V1 F2 W2
      refine z_goto (tgt := 182) hE d_Od_workOut_152 (by decide) ?_
      refine z_vret hE hQ d_Od_workOut_182 rfl (by omega) (by omega) ⟨rfl, rfl, gW_t W' (gW_le W2 (by omega) (by omega)), _, v', V', ?_⟩
      rw [e, e2, e4]
    by_cases hc : cmpQ x y ≤ 0
    · refine z_if_gt (tgt := 148) hE d_Od_workOut_141 (by decide) (fun c_ => absurd c_ (fun z => i32_lt0.mpr z hc)) (fun _ => ?_)
      refine z_aload_n hE d_Od_workOut_144 rfl ?_
      refine z_goto (tgt := 149) hE d_Od_workOut_145 (by decide) ?_
      exact fin b1 x _ hK1 (if_pos hc)
    · refine z_if_gt (tgt := 148) hE d_Od_workOut_141 (by decide) (fun _ => ?_) (fun c_ => absurd c_ (fun z => z (i32_lt0.mp hc)))
      refine z_aload_n hE d_Od_workOut_148 rfl ?_
      exact fin b2 y _ hK2 (if_neg hc)
  · refine z_tableOut (tgt := 155) hE d_Od_workOut_1 (Or.inr (by decide)) (by decide) ?_
    refine z_aload_n hE d_Od_workOut_155 rfl ?_
    refine z_get hE d_Od_workOut_156 fl_Od_25 (by assumption) rfl ?_
    refine z_getN hE d_Od_workOut_159 fl_Od_182 (by assumption) rfl ?_
    refine z_aload_n hE d_Od_workOut_162 rfl ?_
    refine z_get hE d_Od_workOut_163 fl_Od_25 (by assumption) rfl ?_
    refine z_aload_n hE d_Od_workOut_166 rfl ?_
    refine z_aload_n hE d_Od_workOut_167 rfl ?_
    refine z_callV hE d_Od_workOut_168 cl_Od_97 (c_Re_compare l nx R1 k3 j3 (by omega) (by omega) k4.2.1 k4.2.2 j4.2.1 j4.2.2) (by assumption) cb_Re rfl (Nat.le_of_ble_eq_true rfl) ⟨by decide, by decide⟩ ⟨by omega, by omega⟩ (fun r_1 g_1 nx_1 hp_1 => ?_) rfl
    try dsimp only [Option.toList, List.nil_append, List.cons_append]
    obtain ⟨rfl, rfl, W, v1, V1, -⟩ := hp_1
    try dsimp only [Option.toList, List.nil_append, List.cons_append]
    have W' : gW g g_1 (O + 11) (O + 11 + 25) := gW_le W (by omega) (by omega)
    have fin : ∀ (b : Nat) (q : Qf) lv, KF g O nx b q → wkQ 5 x y = q → zJ E g_1 nx 0 0 179 lv [.ref b, .ref (O + 11 + 1)] := by
      intro b q lv hK e
      obtain ⟨i1, i2, ⟨N1, M1, i3⟩, i4⟩ := KF_X hK (fun p a b => W' p (by omega)) (Nat.le_refl nx)
      have F1 := RV_F V1
      have F11 := F1.1
      refine z_callV hE d_Od_workOut_179 cl_Od_224 (c_Fr_become l nx F1 i3 (by omega) (w820 i4.2.1) (w820 i4.2.2)) (by assumption) cb_Fr rfl (Nat.le_of_ble_eq_true rfl) ⟨by decide, by decide⟩ ⟨by omega, by omega⟩ (fun r_2 g_2 nx_2 hp_2 => ?_) rfl
      try dsimp only [Option.toList, List.nil_append, List.cons_append]
      obtain ⟨rfl, rfl, F2, W2⟩ := hp_2
      try dsimp only [Option.toList, List.nil_append, List.cons_append]
      obtain ⟨v', V', e2, e4⟩ := RV_FR V1 F2 W2
      refine z_vret hE hQ d_Od_workOut_182 rfl (by omega) (by omega) ⟨rfl, rfl, gW_t W' (gW_le W2 (by omega) (by omega)), _, v', V', ?_⟩
      rw [e, e2, e4]
    by_cases hc : 0 ≤ cmpQ x y
    · refine z_if_lt (tgt := 178) hE d_Od_workOut_171 (by decide) (fun c_ => absurd c_ (fun z => (Int32.not_lt.mpr hc) z)) (fun _ => ?_)
      refine z_aload_n hE d_Od_workOut_174 rfl ?_
      refine z_goto (tgt := 179) hE d_Od_workOut_175 (by decide) ?_
      exact fin b1 x _ hK1 (if_pos hc)
    · refine z_if_lt (tgt := 178) hE d_Od_workOut_171 (by decide) (fun _ => ?_) (fun c_ => absurd c_ (fun z => z (Int32.not_le.mp hc)))
      refine z_aload_n hE d_Od_workOut_178 rfl ?_
      exact fin b2 y _ hK2 (if_neg hc)
theorem c_Od_work (l : Launch) {g : Gh} {nx O : Nat} {S : Sx} (hC : CW g O nx S) (act f a c : Int32) : Ct l m_Od_work 5 47 [.ref O, .int act, .int f, .int a, .int c] g nx (pO g O nx (spWork S act f a c)) := by
  obtain ⟨sg, v, w, hV⟩ := hC
  have h0 := hV.1
  refine Ct.of (by decide) (Nat.le_of_ble_eq_true rfl) (fun E hE hQ => ?_)
  have out : ∀ lv, ¬ (inI act 0 5 ∧ inI f 0 15 ∧ inI a 0 15 ∧ inI c 0 15) → zJ E g nx 0 0 16 lv [] := by
    intro lv h
    refine z_ldc hE d_Od_work_16 cn_Od_47 ?_
    exact z_iret hE hQ d_Od_work_18 rfl (by omega) (by omega) (pO_of (if_neg h) (Nat.le_refl _) hV gX_r)
  have out2 : ∀ lv, ¬ (inI act 0 5 ∧ inI f 0 15 ∧ inI a 0 15 ∧ inI c 0 15) → zJ E g nx 0 0 34 lv [] := by
    intro lv h
    refine z_ldc hE d_Od_work_34 cn_Od_47 ?_
    exact z_iret hE hQ d_Od_work_36 rfl (by omega) (by omega) (pO_of (if_neg h) (Nat.le_refl _) hV gX_r)
  refine z_iload_n hE d_Od_work_0 rfl ?_
  refine z_iconst (v := 0) hE d_Od_work_1 (by decide) ?_
  refine z_iconst (v := 5) hE d_Od_work_2 (by decide) ?_
  refine z_callS hE d_Od_work_3 cl_Od_73 (c_Od_isOut l g nx act 0 5) rfl (Nat.le_of_ble_eq_true rfl) ⟨by decide, by decide⟩ ⟨by omega, by omega⟩ (fun r_3 g_3 nx_3 hp_3 => ?_) rfl
  obtain ⟨rfl, rfl, rfl⟩ := hp_3
  try dsimp only [Option.toList, List.nil_append, List.cons_append]
  rw [show (0 : Int32).toInt = 0 from rfl, show (5 : Int32).toInt = 5 from rfl]
  by_cases hact : inI act 0 5
  case neg =>
    rw [if_neg hact]
    refine z_if_ne (tgt := 16) hE d_Od_work_6 (by decide) (fun _ => ?_) (fun c_ => absurd c_ (by decide))
    exact out _ (fun q => hact q.1)
  rw [if_pos hact]
  refine z_if_ne (tgt := 16) hE d_Od_work_6 (by decide) (fun c_ => absurd c_ (by decide)) (fun _ => ?_)
  refine z_iload_n hE d_Od_work_9 rfl ?_
  refine z_callS hE d_Od_work_10 cl_Od_43 (c_Od_isNoFraction l g nx f) rfl (Nat.le_of_ble_eq_true rfl) ⟨by decide, by decide⟩ ⟨by omega, by omega⟩ (fun r_10 g_10 nx_10 hp_10 => ?_) rfl
  obtain ⟨rfl, rfl, rfl⟩ := hp_10
  try dsimp only [Option.toList, List.nil_append, List.cons_append]
  by_cases hf : inI f 0 15
  case neg =>
    rw [if_neg hf]
    refine z_if_eq (tgt := 19) hE d_Od_work_13 (by decide) (fun c_ => absurd c_ (by decide)) (fun _ => ?_)
    exact out _ (fun q => hf q.2.1)
  rw [if_pos hf]
  refine z_if_eq (tgt := 19) hE d_Od_work_13 (by decide) (fun _ => ?_) (fun c_ => absurd c_ (by decide))
  refine z_iload_n hE d_Od_work_19 rfl ?_
  refine z_callS hE d_Od_work_20 cl_Od_43 (c_Od_isNoFraction l g nx a) rfl (Nat.le_of_ble_eq_true rfl) ⟨by decide, by decide⟩ ⟨by omega, by omega⟩ (fun r_20 g_20 nx_20 hp_20 => ?_) rfl
  obtain ⟨rfl, rfl, rfl⟩ := hp_20
  try dsimp only [Option.toList, List.nil_append, List.cons_append]
  by_cases ha : inI a 0 15
  case neg =>
    rw [if_neg ha]
    refine z_if_ne (tgt := 34) hE d_Od_work_23 (by decide) (fun _ => ?_) (fun c_ => absurd c_ (by decide))
    exact out2 _ (fun q => ha q.2.2.1)
  rw [if_pos ha]
  refine z_if_ne (tgt := 34) hE d_Od_work_23 (by decide) (fun c_ => absurd c_ (by decide)) (fun _ => ?_)
  refine z_iload hE d_Od_work_26 rfl ?_
  refine z_callS hE d_Od_work_28 cl_Od_43 (c_Od_isNoFraction l g nx c) rfl (Nat.le_of_ble_eq_true rfl) ⟨by decide, by decide⟩ ⟨by omega, by omega⟩ (fun r_28 g_28 nx_28 hp_28 => ?_) rfl
  obtain ⟨rfl, rfl, rfl⟩ := hp_28
  try dsimp only [Option.toList, List.nil_append, List.cons_append]
  by_cases hc : inI c 0 15
  case neg =>
    rw [if_neg hc]
    refine z_if_eq (tgt := 37) hE d_Od_work_31 (by decide) (fun c_ => absurd c_ (by decide)) (fun _ => ?_)
    exact out2 _ (fun q => hc q.2.2.2)
  rw [if_pos hc]
  refine z_if_eq (tgt := 37) hE d_Od_work_31 (by decide) (fun _ => ?_) (fun c_ => absurd c_ (by decide))
  obtain ⟨eact, zact, hact2⟩ := fx_of hact (by omega) (by omega)
  obtain ⟨ef, zf, hf2⟩ := fx_of hf (by omega) (by omega)
  obtain ⟨ea, za, ha2⟩ := fx_of ha (by omega) (by omega)
  obtain ⟨ec, zc, hc2⟩ := fx_of hc (by omega) (by omega)
  refine z_aload_n hE d_Od_work_37 rfl ?_
  refine z_iload_n hE d_Od_work_38 rfl ?_
  have none1 : ∀ lv, (S.1 (fx a) = none ∨ S.1 (fx c) = none) → lG lv 0 = some (.ref O) → zJ E g nx 0 0 62 lv [] := by
    intro lv h l0
    refine z_sub (lv' := [(0, .ref O)]) (by simp only [List.map, l0]) ?_
    refine z_aload_n hE d_Od_work_62 rfl ?_
    refine z_iconst (v := 1) hE d_Od_work_63 (by decide) ?_
    refine z_callV hE d_Od_work_64 cl_Od_48 (c_Od_tell l hV 1) (by assumption) cb_Od rfl (Nat.le_of_ble_eq_true rfl) ⟨by decide, by decide⟩ ⟨by omega, by omega⟩ (fun r_1 g_1 nx_1 hp_1 => ?_) rfl
    try dsimp only [Option.toList, List.nil_append, List.cons_append]
    obtain ⟨rfl, rfl, C1, W1⟩ := hp_1
    try dsimp only [Option.toList, List.nil_append, List.cons_append]
    refine z_iret hE hQ d_Od_work_67 rfl (by omega) (by omega) (pO_of ?_ (Nat.le_refl _) C1 (gX_W W1 (Nat.le_refl _) (by omega)))
    unfold spWork
    rw [if_pos ⟨hact, hf, ha, hc⟩]
    rcases h with h | h
    · rw [h]; rfl
    · rw [h]; cases S.1 (fx a) <;> rfl
  rw [ea]
  refine z_callV hE d_Od_work_39 cl_Od_59 (c_Od_fractionAt l hV (fx a) (by omega)) (by assumption) cb_Od rfl (Nat.le_of_ble_eq_true rfl) ⟨by decide, by decide⟩ ⟨by omega, by omega⟩ (fun r_1 g_1 nx_1 hp_1 => ?_) rfl
  try dsimp only [Option.toList, List.nil_append, List.cons_append]
  obtain ⟨rfl, rfl, H1⟩ := hp_1
  obtain ⟨x1, hx1⟩ : ∃ x : Option Nat, r_1 = some (va_rf x) := by
    rcases H1 with ⟨h, -⟩ | ⟨b, q, h, -⟩
    · exact ⟨none, h⟩
    · exact ⟨some b, h⟩
  subst hx1
  try dsimp only [Option.toList, List.nil_append, List.cons_append]
  refine z_astoreq hE d_Od_work_42 (by decide) ?_
  refine z_aload_n hE d_Od_work_44 rfl ?_
  refine z_iload hE d_Od_work_45 rfl ?_
  rw [ec]
  refine z_callV hE d_Od_work_47 cl_Od_59 (c_Od_fractionAt l hV (fx c) (by omega)) (by assumption) cb_Od rfl (Nat.le_of_ble_eq_true rfl) ⟨by decide, by decide⟩ ⟨by omega, by omega⟩ (fun r_2 g_2 nx_2 hp_2 => ?_) rfl
  try dsimp only [Option.toList, List.nil_append, List.cons_append]
  obtain ⟨rfl, rfl, H2⟩ := hp_2
  obtain ⟨x2, hx2⟩ : ∃ x : Option Nat, r_2 = some (va_rf x) := by
    rcases H2 with ⟨h, -⟩ | ⟨b, q, h, -⟩
    · exact ⟨none, h⟩
    · exact ⟨some b, h⟩
  subst hx2
  try dsimp only [Option.toList, List.nil_append, List.cons_append]
  refine z_astoreq hE d_Od_work_50 (by decide) ?_
  obtain ⟨hr1, hq1⟩ | ⟨b, q, hr1, hq1, hK1⟩ := H1
  case inl =>
    cases x1
    · refine z_aloadN hE d_Od_work_52 rfl ?_
      refine z_ifnullZ (tgt := 62) hE d_Od_work_54 (by decide) ?_
      exact none1 _ (Or.inl hq1) (by cases x2 <;> rfl)
    · cases hr1
  obtain rfl : x1 = some b := by cases x1; cases hr1; cases hr1; rfl
  obtain ⟨hr2, hq2⟩ | ⟨b2, q2, hr2, hq2, hK2⟩ := H2
  case inl =>
    cases x2
    · refine z_aload hE d_Od_work_52 rfl ?_
      refine z_ifnullR (tgt := 62) hE d_Od_work_54 (by decide) ?_
      refine z_aloadN hE d_Od_work_57 rfl ?_
      refine z_ifnonnullZ (tgt := 68) hE d_Od_work_59 (by decide) ?_
      exact none1 _ (Or.inr hq2) rfl
    · cases hr2
  obtain rfl : x2 = some b2 := by cases x2; cases hr2; cases hr2; rfl
  obtain ⟨k1, k2, ⟨N, M, k3⟩, k4⟩ := id hK1
  obtain ⟨j1, j2, ⟨N', M', j3⟩, j4⟩ := id hK2
  have k31 := k3.1
  have j31 := j3.1
  refine z_aload hE d_Od_work_52 rfl ?_
  refine z_ifnullR (tgt := 62) hE d_Od_work_54 (by decide) ?_
  refine z_aload hE d_Od_work_57 rfl ?_
  refine z_ifnonnullR (tgt := 68) hE d_Od_work_59 (by decide) ?_
  have hspec : spWork S act f a c = if fx act = 3 ∧ q2.1 = 0 then tellS S 5 else mkS S (fx f) (wkQ (fx act) q q2) := by unfold spWork; rw [if_pos ⟨hact, hf, ha, hc⟩, hq1, hq2]
  have go : ∀ lv, ¬ (fx act = 3 ∧ q2.1 = 0) → lG lv 0 = some (.ref O) → lG lv 1 = some (.int act) → lG lv 2 = some (.int f) → lG lv 5 = some (.ref b) → lG lv 6 = some (.ref b2) → zJ E g nx 0 0 87 lv [] := by
    intro lv hz l0 l1 l2 l5 l6
    refine z_sub (lv' := [(0, .ref O), (1, .int act), (2, .int f), (5, .ref b), (6, .ref b2)]) (by simp only [List.map, l0, l1, l2, l5, l6]) ?_
    have h3 : fx act = 3 → q2.1 ≠ 0 := fun z y => hz ⟨z, y⟩
    refine z_aload_n hE d_Od_work_87 rfl ?_
    refine z_iload_n hE d_Od_work_88 rfl ?_
    refine z_aload hE d_Od_work_89 rfl ?_
    refine z_aload hE d_Od_work_91 rfl ?_
    rw [eact]
    refine z_callV hE d_Od_work_93 cl_Od_77 (c_Od_workOut l hV hK1 hK2 (fx act) (by omega) h3) (by assumption) cb_Od rfl (Nat.le_of_ble_eq_true rfl) ⟨by decide, by decide⟩ ⟨by omega, by omega⟩ (fun r_1 g_1 nx_1 hp_1 => ?_) rfl
    try dsimp only [Option.toList, List.nil_append, List.cons_append]
    obtain ⟨rfl, rfl, W1, s', v', V', e⟩ := hp_1
    try dsimp only [Option.toList, List.nil_append, List.cons_append]
    have C1 := OV_re hV W1 V'
    have m0 := C1.1
    refine z_aload_n hE d_Od_work_96 rfl ?_
    refine z_iload_n hE d_Od_work_97 rfl ?_
    rw [ef]
    refine z_callV hE d_Od_work_98 cl_Od_56 (c_Od_make l C1 e (wkQ_ok k4.1 j4.1 h3) (fx f) (by omega)) (by assumption) cb_Od rfl (Nat.le_of_ble_eq_true rfl) ⟨by decide, by decide⟩ ⟨by omega, by omega⟩ (fun r_9 g_9 nx_9 hp_9 => ?_) rfl
    try dsimp only [Option.toList, List.nil_append, List.cons_append]
    exact z_mkret hE hQ d_Od_work_101 rfl (by omega) (by omega) (gX_W W1 (by omega) (by omega)) (hspec.trans (if_neg hz)) hp_9
  refine z_iload_n hE d_Od_work_68 rfl ?_
  refine z_iconst (v := 3) hE d_Od_work_69 (by decide) ?_
  refine z_icmp_ne (tgt := 87) hE d_Od_work_70 (by decide) (fun c_70 => ?_) (fun c_70 => ?_)
  · exact go _ (fun z => c_70 (by rw [eact, z.1]; rfl)) rfl rfl rfl rfl rfl
  · have c70 : fx act = 3 := by
      have := congrArg Int32.toInt c_70
      rw [show (3 : Int32).toInt = 3 from rfl] at this
      omega
    refine z_aload hE d_Od_work_73 rfl ?_
    refine z_getN hE d_Od_work_75 fl_Od_67 (by assumption) rfl ?_
    refine z_if_ne (tgt := 87) hE d_Od_work_78 (by decide) (fun c_78 => ?_) (fun c_78 => ?_)
    · exact go _ (fun z => c_78 z.2) rfl rfl rfl rfl rfl
    · have c78 : q2.1 = 0 := by simpa using c_78
      refine z_aload_n hE d_Od_work_81 rfl ?_
      refine z_iconst (v := 5) hE d_Od_work_82 (by decide) ?_
      refine z_callV hE d_Od_work_83 cl_Od_48 (c_Od_tell l hV 5) (by assumption) cb_Od rfl (Nat.le_of_ble_eq_true rfl) ⟨by decide, by decide⟩ ⟨by omega, by omega⟩ (fun r_1 g_1 nx_1 hp_1 => ?_) rfl
      try dsimp only [Option.toList, List.nil_append, List.cons_append]
      obtain ⟨rfl, rfl, C1, W1⟩ := hp_1
      try dsimp only [Option.toList, List.nil_append, List.cons_append]
      refine z_iret hE hQ d_Od_work_86 rfl (by omega) (by omega) (pO_of ?_ (Nat.le_refl _) C1 (gX_W W1 (Nat.le_refl _) (by omega)))
      rw [hspec, if_pos ⟨c70, c78⟩]; rfl
theorem c_Od_round (l : Launch) {g : Gh} {nx O : Nat} {S : Sx} (hC : CW g O nx S) (a n y : Int32) : Ct l m_Od_round 0 0 [.ref O, .int a, .int n, .int y] g nx (pO g O nx (spRound S a n y)) := by
  obtain ⟨sg, v, w, hV⟩ := hC
  have h0 := hV.1
  refine Ct.of (by decide) (Nat.le_of_ble_eq_true rfl) (fun E hE hQ => ?_)
  have out : ∀ lv, ¬ (inI a 0 15 ∧ inI n 0 18 ∧ inI y 0 3) → zJ E g nx 0 0 26 lv [] := by
    intro lv h
    refine z_ldc2 hE d_Od_round_26 cn_Od_113 ?_
    exact z_lret hE hQ d_Od_round_29 rfl (by omega) (by omega) (pO_of (if_neg h) (Nat.le_refl _) hV gX_r)
  refine z_iload_n hE d_Od_round_0 rfl ?_
  refine z_callS hE d_Od_round_1 cl_Od_43 (c_Od_isNoFraction l g nx a) rfl (Nat.le_of_ble_eq_true rfl) ⟨by decide, by decide⟩ ⟨by omega, by omega⟩ (fun r_1 g_1 nx_1 hp_1 => ?_) rfl
  obtain ⟨rfl, rfl, rfl⟩ := hp_1
  try dsimp only [Option.toList, List.nil_append, List.cons_append]
  by_cases ha : inI a 0 15
  case neg =>
    rw [if_neg ha]
    refine z_if_ne (tgt := 26) hE d_Od_round_4 (by decide) (fun _ => ?_) (fun c_ => absurd c_ (by decide))
    exact out _ (fun q => ha q.1)
  rw [if_pos ha]
  refine z_if_ne (tgt := 26) hE d_Od_round_4 (by decide) (fun c_ => absurd c_ (by decide)) (fun _ => ?_)
  refine z_iload_n hE d_Od_round_7 rfl ?_
  refine z_iconst (v := 0) hE d_Od_round_8 (by decide) ?_
  refine z_bipush (v := (18 : Int32)) hE d_Od_round_9 (by decide) ?_
  refine z_callS hE d_Od_round_11 cl_Od_73 (c_Od_isOut l g nx n 0 18) rfl (Nat.le_of_ble_eq_true rfl) ⟨by decide, by decide⟩ ⟨by omega, by omega⟩ (fun r_11 g_11 nx_11 hp_11 => ?_) rfl
  obtain ⟨rfl, rfl, rfl⟩ := hp_11
  try dsimp only [Option.toList, List.nil_append, List.cons_append]
  rw [show (0 : Int32).toInt = 0 from rfl, show (18 : Int32).toInt = 18 by decide]
  by_cases hn : inI n 0 18
  case neg =>
    rw [if_neg hn]
    refine z_if_ne (tgt := 26) hE d_Od_round_14 (by decide) (fun _ => ?_) (fun c_ => absurd c_ (by decide))
    exact out _ (fun q => hn q.2.1)
  rw [if_pos hn]
  refine z_if_ne (tgt := 26) hE d_Od_round_14 (by decide) (fun c_ => absurd c_ (by decide)) (fun _ => ?_)
  refine z_iload_n hE d_Od_round_17 rfl ?_
  refine z_iconst (v := 0) hE d_Od_round_18 (by decide) ?_
  refine z_iconst (v := 3) hE d_Od_round_19 (by decide) ?_
  refine z_callS hE d_Od_round_20 cl_Od_73 (c_Od_isOut l g nx y 0 3) rfl (Nat.le_of_ble_eq_true rfl) ⟨by decide, by decide⟩ ⟨by omega, by omega⟩ (fun r_20 g_20 nx_20 hp_20 => ?_) rfl
  obtain ⟨rfl, rfl, rfl⟩ := hp_20
  try dsimp only [Option.toList, List.nil_append, List.cons_append]
  rw [show (0 : Int32).toInt = 0 from rfl, show (3 : Int32).toInt = 3 from rfl]
  by_cases hy : inI y 0 3
  case neg =>
    rw [if_neg hy]
    refine z_if_eq (tgt := 30) hE d_Od_round_23 (by decide) (fun c_ => absurd c_ (by decide)) (fun _ => ?_)
    exact out _ (fun q => hy q.2.2)
  rw [if_pos hy]
  refine z_if_eq (tgt := 30) hE d_Od_round_23 (by decide) (fun _ => ?_) (fun c_ => absurd c_ (by decide))
  obtain ⟨ea, za, ha2⟩ := fx_of ha (by omega) (by omega)
  obtain ⟨en, zn, hn2⟩ := fx_of hn (by omega) (by omega)
  obtain ⟨ey, zy, hy2⟩ := fx_of hy (by omega) (by omega)
  refine z_aload_n hE d_Od_round_30 rfl ?_
  refine z_iload_n hE d_Od_round_31 rfl ?_
  rw [ea]
  refine z_callV hE d_Od_round_32 cl_Od_59 (c_Od_fractionAt l hV (fx a) (by omega)) (by assumption) cb_Od rfl (Nat.le_of_ble_eq_true rfl) ⟨by decide, by decide⟩ ⟨by omega, by omega⟩ (fun r_1 g_1 nx_1 hp_1 => ?_) rfl
  try dsimp only [Option.toList, List.nil_append, List.cons_append]
  obtain ⟨rfl, rfl, ⟨rfl, hq⟩ | ⟨b, q, rfl, hq, hK⟩⟩ := hp_1
  case inl =>
    try dsimp only [Option.toList, List.nil_append, List.cons_append]
    refine z_astoreN hE d_Od_round_35 (by decide) ?_
    refine z_aloadN hE d_Od_round_37 rfl ?_
    refine z_ifnonnullZ (tgt := 49) hE d_Od_round_39 (by decide) ?_
    refine z_aload_n hE d_Od_round_42 rfl ?_
    refine z_iconst (v := 1) hE d_Od_round_43 (by decide) ?_
    refine z_callV hE d_Od_round_44 cl_Od_48 (c_Od_tell l hV 1) (by assumption) cb_Od rfl (Nat.le_of_ble_eq_true rfl) ⟨by decide, by decide⟩ ⟨by omega, by omega⟩ (fun r_1 g_1 nx_1 hp_1 => ?_) rfl
    try dsimp only [Option.toList, List.nil_append, List.cons_append]
    obtain ⟨rfl, rfl, C1, W1⟩ := hp_1
    try dsimp only [Option.toList, List.nil_append, List.cons_append]
    refine z_i2l hE d_Od_round_47 (rfl) ?_
    refine z_lret hE hQ d_Od_round_48 rfl (by omega) (by omega) (pO_of ?_ (Nat.le_refl _) C1 (gX_W W1 (Nat.le_refl _) (by omega)))
    unfold spRound; rw [if_pos ⟨ha, hn, hy⟩, hq]; rfl
  try dsimp only [Option.toList, List.nil_append, List.cons_append]
  obtain ⟨k1, k2, ⟨N, M, k3⟩, k4⟩ := id hK
  have k31 := k3.1
  refine z_astore hE d_Od_round_35 (by decide) ?_
  refine z_aload hE d_Od_round_37 rfl ?_
  refine z_ifnonnullR (tgt := 49) hE d_Od_round_39 (by decide) ?_
  have T1 := hV.2.2.2.2.2.1
  have T11 := T1.1
  have hspec : spRound S a n y = if rnd q.1 q.2.1 q.2.2 (fx n) (fx y) < 9223372036854775808 ∨ q.1 < 0 ∧ rnd q.1 q.2.1 q.2.2 (fx n) (fx y) = 9223372036854775808 then (.long (if q.1 < 0 then -(lN (rnd q.1 q.2.1 q.2.2 (fx n) (fx y))) else lN (rnd q.1 q.2.1 q.2.2 (fx n) (fx y))), sC S 0) else tellL S 7 := by unfold spRound; rw [if_pos ⟨ha, hn, hy⟩, hq]
  refine z_aload_n hE d_Od_round_49 rfl ?_
  refine z_get hE d_Od_round_50 fl_Od_32 (by assumption) rfl ?_
  refine z_aload hE d_Od_round_53 rfl ?_
  refine z_iload_n hE d_Od_round_55 rfl ?_
  refine z_iload_n hE d_Od_round_56 rfl ?_
  rw [en, ey]
  refine z_callV hE d_Od_round_57 cl_Od_119 (c_Te_roundOff l nx T1 k3 (by omega) k4.2.1 (by have := k4.1.2.2; omega) (n := fx n) (way := fx y) (by omega) (by omega) k4.2.2) (by assumption) cb_Te rfl (Nat.le_of_ble_eq_true rfl) ⟨by decide, by decide⟩ ⟨by omega, by omega⟩ (fun r_2 g_2 nx_2 hp_2 => ?_) rfl
  try dsimp only [Option.toList, List.nil_append, List.cons_append]
  obtain ⟨rfl, rfl, W2, w2, T2, e4⟩ := hp_2
  try dsimp only [Option.toList, List.nil_append, List.cons_append]
  have C2 := OV_te hV W2 T2
  have m0 := C2.1
  have T21 := T2.1
  obtain ⟨k5, k6, ⟨N2, M2, k7⟩, k8⟩ := KF_X hK (fun p a b => W2 p (by omega)) (Nat.le_refl nx)
  have k71 := k7.1
  have X2 : gX g g_2 O nx := gX_W W2 (by omega) (by omega)
  refine z_aload_n hE d_Od_round_60 rfl ?_
  refine z_get hE d_Od_round_61 fl_Od_32 (by assumption) rfl ?_
  refine z_aload hE d_Od_round_64 rfl ?_
  refine z_getN hE d_Od_round_66 fl_Od_67 (by assumption) rfl ?_
  refine z_callV hE d_Od_round_69 cl_Od_123 (c_Te_isRoundedLong l nx T2 q.1) (by assumption) cb_Te rfl (Nat.le_of_ble_eq_true rfl) ⟨by decide, by decide⟩ ⟨by omega, by omega⟩ (fun r_69 g_69 nx_69 hp_69 => ?_) rfl
  obtain ⟨rfl, rfl, rfl⟩ := hp_69
  try dsimp only [Option.toList, List.nil_append, List.cons_append]
  rw [e4]
  by_cases hr : rnd q.1 q.2.1 q.2.2 (fx n) (fx y) < 9223372036854775808 ∨ q.1 < 0 ∧ rnd q.1 q.2.1 q.2.2 (fx n) (fx y) = 9223372036854775808
  case neg =>
    rw [if_neg hr]
    refine z_if_ne (tgt := 83) hE d_Od_round_72 (by decide) (fun c_ => absurd c_ (by decide)) (fun _ => ?_)
    refine z_aload_n hE d_Od_round_75 rfl ?_
    refine z_bipush (v := 7) hE d_Od_round_76 (by decide) ?_
    refine z_callV hE d_Od_round_78 cl_Od_48 (c_Od_tell l C2 7) (by assumption) cb_Od rfl (Nat.le_of_ble_eq_true rfl) ⟨by decide, by decide⟩ ⟨by omega, by omega⟩ (fun r_1 g_1 nx_1 hp_1 => ?_) rfl
    try dsimp only [Option.toList, List.nil_append, List.cons_append]
    obtain ⟨rfl, rfl, C1, W1⟩ := hp_1
    try dsimp only [Option.toList, List.nil_append, List.cons_append]
    refine z_i2l hE d_Od_round_81 (rfl) ?_
    refine z_lret hE hQ d_Od_round_82 rfl (by omega) (by omega) (pO_of ?_ (Nat.le_refl _) C1 (gX_t X2 (gX_W W1 (Nat.le_refl _) (by omega)) (Nat.le_refl nx)))
    rw [hspec, if_neg hr]; rfl
  rw [if_pos hr]
  refine z_if_ne (tgt := 83) hE d_Od_round_72 (by decide) (fun _ => ?_) (fun c_ => absurd c_ (by decide))
  refine z_aload_n hE d_Od_round_83 rfl ?_
  refine z_iconst (v := 0) hE d_Od_round_84 (by decide) ?_
  refine z_callV hE d_Od_round_85 cl_Od_48 (c_Od_tell l C2 0) (by assumption) cb_Od rfl (Nat.le_of_ble_eq_true rfl) ⟨by decide, by decide⟩ ⟨by omega, by omega⟩ (fun r_3 g_3 nx_3 hp_3 => ?_) rfl
  try dsimp only [Option.toList, List.nil_append, List.cons_append]
  obtain ⟨rfl, rfl, C3, W3⟩ := hp_3
  try dsimp only [Option.toList, List.nil_append, List.cons_append]
  have m3 := C3.1
  have T3 := C3.2.2.2.2.2.1
  have T31 := T3.1
  obtain ⟨k9, k10, ⟨N3, M3, k11⟩, k12⟩ := KF_X ⟨k5, k6, ⟨N2, M2, k7⟩, k8⟩ (fun p a b => W3 p (by omega)) (Nat.le_refl nx)
  have k111 := k11.1
  refine z_pop hE d_Od_round_88 rfl ?_
  refine z_aload_n hE d_Od_round_89 rfl ?_
  refine z_get hE d_Od_round_90 fl_Od_32 (by assumption) rfl ?_
  refine z_aload hE d_Od_round_93 rfl ?_
  refine z_getN hE d_Od_round_95 fl_Od_67 (by assumption) rfl ?_
  refine z_callV hE d_Od_round_98 cl_Od_126 (c_Te_roundedLong l nx T3 q.1) (by assumption) cb_Te rfl (Nat.le_of_ble_eq_true rfl) ⟨by decide, by decide⟩ ⟨by omega, by omega⟩ (fun r_98 g_98 nx_98 hp_98 => ?_) rfl
  obtain ⟨rfl, rfl, rfl⟩ := hp_98
  try dsimp only [Option.toList, List.nil_append, List.cons_append]
  rw [e4, Nat.mod_eq_of_lt (by rcases hr with z | z; omega; omega)]
  exact z_lret hE hQ d_Od_round_101 rfl (by omega) (by omega) (pO_of (by rw [hspec, if_pos hr]) (Nat.le_refl _) C3 (gX_t X2 (gX_W W3 (Nat.le_refl _) (by omega)) (Nat.le_refl nx)))
theorem c_Od_real (l : Launch) {g : Gh} {nx O : Nat} {S : Sx} (hC : CW g O nx S) (a e : Int32) : Ct l m_Od_real 0 0 [.ref O, .int a, .int e] g nx (pO g O nx (spReal S a e)) := by
  obtain ⟨sg, v, w, hV⟩ := hC
  have h0 := hV.1
  refine Ct.of (by decide) (Nat.le_of_ble_eq_true rfl) (fun E hE hQ => ?_)
  have out : ∀ lv, ¬ (inI a 0 15 ∧ inI e 0 1) → zJ E g nx 0 0 16 lv [] := by
    intro lv h
    refine z_ldc2 hE d_Od_real_16 cn_Od_113 ?_
    exact z_lret hE hQ d_Od_real_19 rfl (by omega) (by omega) (pO_of (if_neg h) (Nat.le_refl _) hV gX_r)
  refine z_iload_n hE d_Od_real_0 rfl ?_
  refine z_callS hE d_Od_real_1 cl_Od_43 (c_Od_isNoFraction l g nx a) rfl (Nat.le_of_ble_eq_true rfl) ⟨by decide, by decide⟩ ⟨by omega, by omega⟩ (fun r_1 g_1 nx_1 hp_1 => ?_) rfl
  obtain ⟨rfl, rfl, rfl⟩ := hp_1
  try dsimp only [Option.toList, List.nil_append, List.cons_append]
  by_cases ha : inI a 0 15
  case neg =>
    rw [if_neg ha]
    refine z_if_ne (tgt := 16) hE d_Od_real_4 (by decide) (fun _ => ?_) (fun c_ => absurd c_ (by decide))
    exact out _ (fun q => ha q.1)
  rw [if_pos ha]
  refine z_if_ne (tgt := 16) hE d_Od_real_4 (by decide) (fun c_ => absurd c_ (by decide)) (fun _ => ?_)
  refine z_iload_n hE d_Od_real_7 rfl ?_
  refine z_iconst (v := 0) hE d_Od_real_8 (by decide) ?_
  refine z_iconst (v := 1) hE d_Od_real_9 (by decide) ?_
  refine z_callS hE d_Od_real_10 cl_Od_73 (c_Od_isOut l g nx e 0 1) rfl (Nat.le_of_ble_eq_true rfl) ⟨by decide, by decide⟩ ⟨by omega, by omega⟩ (fun r_10 g_10 nx_10 hp_10 => ?_) rfl
  obtain ⟨rfl, rfl, rfl⟩ := hp_10
  try dsimp only [Option.toList, List.nil_append, List.cons_append]
  rw [show (0 : Int32).toInt = 0 from rfl, show (1 : Int32).toInt = 1 from rfl]
  by_cases he : inI e 0 1
  case neg =>
    rw [if_neg he]
    refine z_if_eq (tgt := 20) hE d_Od_real_13 (by decide) (fun c_ => absurd c_ (by decide)) (fun _ => ?_)
    exact out _ (fun q => he q.2)
  rw [if_pos he]
  refine z_if_eq (tgt := 20) hE d_Od_real_13 (by decide) (fun _ => ?_) (fun c_ => absurd c_ (by decide))
  obtain ⟨ea, za, ha2⟩ := fx_of ha (by omega) (by omega)
  obtain ⟨ee, ze, he2⟩ := fx_of he (by omega) (by omega)
  refine z_aload_n hE d_Od_real_20 rfl ?_
  refine z_iload_n hE d_Od_real_21 rfl ?_
  rw [ea]
  refine z_callV hE d_Od_real_22 cl_Od_59 (c_Od_fractionAt l hV (fx a) (by omega)) (by assumption) cb_Od rfl (Nat.le_of_ble_eq_true rfl) ⟨by decide, by decide⟩ ⟨by omega, by omega⟩ (fun r_1 g_1 nx_1 hp_1 => ?_) rfl
  try dsimp only [Option.toList, List.nil_append, List.cons_append]
  obtain ⟨rfl, rfl, ⟨rfl, hq⟩ | ⟨b, q, rfl, hq, hK⟩⟩ := hp_1
  case inl =>
    try dsimp only [Option.toList, List.nil_append, List.cons_append]
    refine z_astore_nN hE d_Od_real_25 rfl (by decide) ?_
    refine z_aload_nN hE d_Od_real_26 rfl ?_
    refine z_ifnonnullZ (tgt := 37) hE d_Od_real_27 (by decide) ?_
    refine z_aload_n hE d_Od_real_30 rfl ?_
    refine z_iconst (v := 1) hE d_Od_real_31 (by decide) ?_
    refine z_callV hE d_Od_real_32 cl_Od_48 (c_Od_tell l hV 1) (by assumption) cb_Od rfl (Nat.le_of_ble_eq_true rfl) ⟨by decide, by decide⟩ ⟨by omega, by omega⟩ (fun r_1 g_1 nx_1 hp_1 => ?_) rfl
    try dsimp only [Option.toList, List.nil_append, List.cons_append]
    obtain ⟨rfl, rfl, C1, W1⟩ := hp_1
    try dsimp only [Option.toList, List.nil_append, List.cons_append]
    refine z_i2l hE d_Od_real_35 (rfl) ?_
    refine z_lret hE hQ d_Od_real_36 rfl (by omega) (by omega) (pO_of ?_ (Nat.le_refl _) C1 (gX_W W1 (Nat.le_refl _) (by omega)))
    unfold spReal; rw [if_pos ⟨ha, he⟩, hq]; rfl
  try dsimp only [Option.toList, List.nil_append, List.cons_append]
  obtain ⟨k1, k2, ⟨N, M, k3⟩, k4⟩ := id hK
  have k31 := k3.1
  refine z_astore_n hE d_Od_real_25 rfl (by decide) ?_
  refine z_aload_n hE d_Od_real_26 rfl ?_
  refine z_ifnonnullR (tgt := 37) hE d_Od_real_27 (by decide) ?_
  refine z_aload_n hE d_Od_real_37 rfl ?_
  refine z_iconst (v := 0) hE d_Od_real_38 (by decide) ?_
  refine z_callV hE d_Od_real_39 cl_Od_48 (c_Od_tell l hV 0) (by assumption) cb_Od rfl (Nat.le_of_ble_eq_true rfl) ⟨by decide, by decide⟩ ⟨by omega, by omega⟩ (fun r_3 g_3 nx_3 hp_3 => ?_) rfl
  try dsimp only [Option.toList, List.nil_append, List.cons_append]
  obtain ⟨rfl, rfl, C3, W3⟩ := hp_3
  try dsimp only [Option.toList, List.nil_append, List.cons_append]
  have m3 := C3.1
  have T3 := C3.2.2.2.2.2.1
  have T31 := T3.1
  obtain ⟨k9, k10, ⟨N3, M3, k11⟩, k12⟩ := KF_X hK (fun p a b => W3 p (by omega)) (Nat.le_refl nx)
  refine z_pop hE d_Od_real_42 rfl ?_
  refine z_aload_n hE d_Od_real_43 rfl ?_
  refine z_get hE d_Od_real_44 fl_Od_32 (by assumption) rfl ?_
  refine z_aload_n hE d_Od_real_47 rfl ?_
  refine z_iload_n hE d_Od_real_48 rfl ?_
  rw [ee]
  refine z_callV hE d_Od_real_49 cl_Od_129 (c_Te_doubleBits l nx T3 k11 (by omega) k12.1.1 k12.2.1 k12.2.2 (by have := k12.1.2.2; omega) (e := fx e) (by omega)) (by assumption) cb_Te rfl (Nat.le_of_ble_eq_true rfl) ⟨by decide, by decide⟩ ⟨by omega, by omega⟩ (fun r_4 g_4 nx_4 hp_4 => ?_) rfl
  try dsimp only [Option.toList, List.nil_append, List.cons_append]
  obtain ⟨rfl, rfl, W4, w4, T4⟩ := hp_4
  try dsimp only [Option.toList, List.nil_append, List.cons_append]
  exact z_lret hE hQ d_Od_real_52 rfl (by omega) (by omega) (pO_of (by unfold spReal; rw [if_pos ⟨ha, he⟩, hq]) (Nat.le_refl _) (OV_te C3 W4 T4) (gX_t (gX_W W3 (Nat.le_refl _) (by omega)) (gX_W W4 (by omega) (by omega)) (Nat.le_refl nx)))
theorem c_Od_from (l : Launch) {g : Gh} {nx O : Nat} {S : Sx} (hC : CW g O nx S) (f : Int32) (x : Int64) : Ct l m_Od_from 5 47 [.ref O, .int f, .long x] g nx (pO g O nx (spFrom S f x)) := by
  obtain ⟨sg, v, w, hV⟩ := hC
  have h0 := hV.1
  refine Ct.of (by decide) (Nat.le_of_ble_eq_true rfl) (fun E hE hQ => ?_)
  have out : ∀ lv, ¬ inI f 0 15 → zJ E g nx 0 0 7 lv [] := by
    intro lv h
    refine z_ldc hE d_Od_from_7 cn_Od_47 ?_
    exact z_iret hE hQ d_Od_from_9 rfl (by omega) (by omega) (pO_of (if_neg h) (Nat.le_refl _) hV gX_r)
  refine z_iload_n hE d_Od_from_0 rfl ?_
  refine z_callS hE d_Od_from_1 cl_Od_43 (c_Od_isNoFraction l g nx f) rfl (Nat.le_of_ble_eq_true rfl) ⟨by decide, by decide⟩ ⟨by omega, by omega⟩ (fun r_1 g_1 nx_1 hp_1 => ?_) rfl
  obtain ⟨rfl, rfl, rfl⟩ := hp_1
  try dsimp only [Option.toList, List.nil_append, List.cons_append]
  by_cases hf : inI f 0 15
  case neg =>
    rw [if_neg hf]
    refine z_if_eq (tgt := 10) hE d_Od_from_4 (by decide) (fun c_ => absurd c_ (by decide)) (fun _ => ?_)
    exact out _ (fun q => hf q)
  rw [if_pos hf]
  refine z_if_eq (tgt := 10) hE d_Od_from_4 (by decide) (fun _ => ?_) (fun c_ => absurd c_ (by decide))
  obtain ⟨ef, zf, hf2⟩ := fx_of hf (by omega) (by omega)
  have R1 := hV.2.2.2.2.1
  have R11 := R1.1
  unfold RE at R11
  have hx : x = lN (uN x) := lN_uN x
  have hb : uN x < 18446744073709551616 := uN_lt x
  refine z_lload_n hE d_Od_from_10 rfl ?_
  rw [hx]
  refine z_callS hE d_Od_from_11 cl_Od_133 (c_Te_isNoNumber l g nx (uN x) hb) rfl (Nat.le_of_ble_eq_true rfl) ⟨by decide, by decide⟩ ⟨by omega, by omega⟩ (fun r_11 g_11 nx_11 hp_11 => ?_) rfl
  obtain ⟨rfl, rfl, rfl⟩ := hp_11
  try dsimp only [Option.toList, List.nil_append, List.cons_append]
  have hs0 : ∀ z, uN x / 4503599627370496 % 2048 = 2047 → tellS S 7 = z → spFrom S f x = z := by
    intro z h e; unfold spFrom; rw [if_pos hf, if_pos h]; exact e
  by_cases hn : uN x / 4503599627370496 % 2048 = 2047
  case pos =>
    rw [if_pos hn]
    refine z_if_eq (tgt := 24) hE d_Od_from_14 (by decide) (fun c_ => absurd c_ (by decide)) (fun _ => ?_)
    refine z_aload_n hE d_Od_from_17 rfl ?_
    refine z_bipush (v := 7) hE d_Od_from_18 (by decide) ?_
    refine z_callV hE d_Od_from_20 cl_Od_48 (c_Od_tell l hV 7) (by assumption) cb_Od rfl (Nat.le_of_ble_eq_true rfl) ⟨by decide, by decide⟩ ⟨by omega, by omega⟩ (fun r_1 g_1 nx_1 hp_1 => ?_) rfl
    try dsimp only [Option.toList, List.nil_append, List.cons_append]
    obtain ⟨rfl, rfl, C1, W1⟩ := hp_1
    try dsimp only [Option.toList, List.nil_append, List.cons_append]
    refine z_iret hE hQ d_Od_from_23 rfl (by omega) (by omega) (pO_of ?_ (Nat.le_refl _) C1 (gX_W W1 (Nat.le_refl _) (by omega)))
    exact hs0 _ hn rfl
  rw [if_neg hn]
  refine z_if_eq (tgt := 24) hE d_Od_from_14 (by decide) (fun _ => ?_) (fun c_ => absurd c_ (by decide))
  have hspec : spFrom S f x = mkS S (fx f) (dQ (uN x)) := by unfold spFrom; rw [if_pos hf, if_neg hn]
  refine z_aload_n hE d_Od_from_24 rfl ?_
  refine z_get hE d_Od_from_25 fl_Od_25 (by assumption) rfl ?_
  refine z_lload_n hE d_Od_from_28 rfl ?_
  refine z_callV hE d_Od_from_29 cl_Od_137 (c_Re_readDouble l nx R1 hb) (by assumption) cb_Re rfl (Nat.le_of_ble_eq_true rfl) ⟨by decide, by decide⟩ ⟨by omega, by omega⟩ (fun r_2 g_2 nx_2 hp_2 => ?_) rfl
  try dsimp only [Option.toList, List.nil_append, List.cons_append]
  obtain ⟨rfl, W2, s', v', V', hcase⟩ := hp_2
  have C2 := OV_re hV W2 V'
  have m0 := C2.1
  obtain ⟨hw, rfl, e⟩ | ⟨hw, rfl⟩ := hcase
  · try dsimp only [Option.toList, List.nil_append, List.cons_append]
    refine z_if_ne (tgt := 42) hE d_Od_from_32 (by decide) (fun _ => ?_) (fun c_ => absurd c_ (by decide))
    refine z_aload_n hE d_Od_from_42 rfl ?_
    refine z_iload_n hE d_Od_from_43 rfl ?_
    rw [ef]
    refine z_callV hE d_Od_from_44 cl_Od_56 (c_Od_make l C2 e (dQ_ok (uN x)) (fx f) (by omega)) (by assumption) cb_Od rfl (Nat.le_of_ble_eq_true rfl) ⟨by decide, by decide⟩ ⟨by omega, by omega⟩ (fun r_9 g_9 nx_9 hp_9 => ?_) rfl
    try dsimp only [Option.toList, List.nil_append, List.cons_append]
    exact z_mkret hE hQ d_Od_from_47 rfl (by omega) (by omega) (gX_W W2 (by omega) (by omega)) hspec hp_9
  · try dsimp only [Option.toList, List.nil_append, List.cons_append]
    refine z_if_ne (tgt := 42) hE d_Od_from_32 (by decide) (fun c_ => absurd c_ (by decide)) (fun _ => ?_)
    refine z_aload_n hE d_Od_from_35 rfl ?_
    refine z_bipush (v := 6) hE d_Od_from_36 (by decide) ?_
    refine z_callV hE d_Od_from_38 cl_Od_48 (c_Od_tell l C2 6) (by assumption) cb_Od rfl (Nat.le_of_ble_eq_true rfl) ⟨by decide, by decide⟩ ⟨by omega, by omega⟩ (fun r_1 g_1 nx_1 hp_1 => ?_) rfl
    try dsimp only [Option.toList, List.nil_append, List.cons_append]
    obtain ⟨rfl, rfl, C1, W1⟩ := hp_1
    try dsimp only [Option.toList, List.nil_append, List.cons_append]
    refine z_iret hE hQ d_Od_from_41 rfl (by omega) (by omega) (pO_of ?_ (Nat.le_refl _) C1 (gX_t (gX_W W2 (by omega) (by omega)) (gX_W W1 (Nat.le_refl _) (by omega)) (Nat.le_refl nx)))
    rw [hspec]; exact if_neg hw
theorem c_Od_exact (l : Launch) {g : Gh} {nx O : Nat} {S : Sx} (hC : CW g O nx S) (op : Int32) (a b : Int64) : Ct l m_Od_exact 0 0 [.ref O, .int op, .long a, .long b] g nx (pO g O nx (spExact S op a b)) := by
  obtain ⟨sg, v, w, hV⟩ := hC
  have h0 := hV.1
  refine Ct.of (by decide) (Nat.le_of_ble_eq_true rfl) (fun E hE hQ => ?_)
  have out : ∀ lv, ¬ inI op 0 7 → zJ E g nx 0 0 10 lv [] := by
    intro lv h
    refine z_ldc2 hE d_Od_exact_10 cn_Od_113 ?_
    exact z_lret hE hQ d_Od_exact_13 rfl (by omega) (by omega) (pO_of (if_neg h) (Nat.le_refl _) hV gX_r)
  refine z_iload_n hE d_Od_exact_0 rfl ?_
  refine z_iconst (v := 0) hE d_Od_exact_1 (by decide) ?_
  refine z_bipush (v := (7 : Int32)) hE d_Od_exact_2 (by decide) ?_
  refine z_callS hE d_Od_exact_4 cl_Od_73 (c_Od_isOut l g nx op 0 7) rfl (Nat.le_of_ble_eq_true rfl) ⟨by decide, by decide⟩ ⟨by omega, by omega⟩ (fun r_4 g_4 nx_4 hp_4 => ?_) rfl
  obtain ⟨rfl, rfl, rfl⟩ := hp_4
  try dsimp only [Option.toList, List.nil_append, List.cons_append]
  rw [show (0 : Int32).toInt = 0 from rfl, show (7 : Int32).toInt = 7 by decide]
  by_cases ho : inI op 0 7
  case neg =>
    rw [if_neg ho]
    refine z_if_eq (tgt := 14) hE d_Od_exact_7 (by decide) (fun c_ => absurd c_ (by decide)) (fun _ => ?_)
    exact out _ ho
  rw [if_pos ho]
  refine z_if_eq (tgt := 14) hE d_Od_exact_7 (by decide) (fun _ => ?_) (fun c_ => absurd c_ (by decide))
  obtain ⟨eo, zo, ho2⟩ := fx_of ho (by omega) (by omega)
  have hspec : spExact S op a b = if 5 ≤ fx op ∧ b = 0 then tellL S 5 else match exV (fx op) a b with | none => tellL S 7 | some z => (.long z, sC S 0) := if_pos ho
  have go : ∀ lv, ¬ (5 ≤ fx op ∧ b = 0) → lG lv 0 = some (.ref O) → lG lv 1 = some (.int op) → lG lv 2 = some (.long a) → lG lv 4 = some (.long b) → zJ E g nx 0 0 35 lv [] := by
    intro lv hz l0 l1 l2 l4
    refine z_sub (lv' := [(0, .ref O), (1, .int op), (2, .long a), (4, .long b)]) (by simp only [List.map, l0, l1, l2, l4]) ?_
    rw [if_neg hz] at hspec
    refine z_iload_n hE d_Od_exact_35 rfl ?_
    refine z_lload_n hE d_Od_exact_36 rfl ?_
    refine z_lload hE d_Od_exact_37 rfl ?_
    rw [eo]
    refine z_callS hE d_Od_exact_39 cl_Od_145 (c_Ls_fits l g nx (fx op) (by omega) a b) rfl (Nat.le_of_ble_eq_true rfl) ⟨by decide, by decide⟩ ⟨by omega, by omega⟩ (fun r_39 g_39 nx_39 hp_39 => ?_) rfl
    obtain ⟨rfl, rfl, rfl⟩ := hp_39
    try dsimp only [Option.toList, List.nil_append, List.cons_append]
    obtain ⟨z, hv⟩ : ∃ z, exV (fx op) a b = z := ⟨_, rfl⟩
    rw [hv] at hspec ⊢
    cases z with
    | none =>
      rw [show (none : Option Int64).isSome = false from rfl, if_neg (by decide)]
      refine z_if_ne (tgt := 53) hE d_Od_exact_42 (by decide) (fun c_ => absurd c_ (by decide)) (fun _ => ?_)
      refine z_aload_n hE d_Od_exact_45 rfl ?_
      refine z_bipush (v := 7) hE d_Od_exact_46 (by decide) ?_
      refine z_callV hE d_Od_exact_48 cl_Od_48 (c_Od_tell l hV 7) (by assumption) cb_Od rfl (Nat.le_of_ble_eq_true rfl) ⟨by decide, by decide⟩ ⟨by omega, by omega⟩ (fun r_1 g_1 nx_1 hp_1 => ?_) rfl
      try dsimp only [Option.toList, List.nil_append, List.cons_append]
      obtain ⟨rfl, rfl, C1, W1⟩ := hp_1
      try dsimp only [Option.toList, List.nil_append, List.cons_append]
      refine z_i2l hE d_Od_exact_51 (rfl) ?_
      refine z_lret hE hQ d_Od_exact_52 rfl (by omega) (by omega) (pO_of ?_ (Nat.le_refl _) C1 (gX_W W1 (Nat.le_refl _) (by omega)))
      rw [hspec]; rfl
    | some z =>
      rw [show (some z).isSome = true from rfl, if_pos rfl]
      refine z_if_ne (tgt := 53) hE d_Od_exact_42 (by decide) (fun _ => ?_) (fun c_ => absurd c_ (by decide))
      refine z_aload_n hE d_Od_exact_53 rfl ?_
      refine z_iconst (v := 0) hE d_Od_exact_54 (by decide) ?_
      refine z_callV hE d_Od_exact_55 cl_Od_48 (c_Od_tell l hV 0) (by assumption) cb_Od rfl (Nat.le_of_ble_eq_true rfl) ⟨by decide, by decide⟩ ⟨by omega, by omega⟩ (fun r_3 g_3 nx_3 hp_3 => ?_) rfl
      try dsimp only [Option.toList, List.nil_append, List.cons_append]
      obtain ⟨rfl, rfl, C3, W3⟩ := hp_3
      try dsimp only [Option.toList, List.nil_append, List.cons_append]
      refine z_pop hE d_Od_exact_58 rfl ?_
      refine z_iload_n hE d_Od_exact_59 rfl ?_
      refine z_lload_n hE d_Od_exact_60 rfl ?_
      refine z_lload hE d_Od_exact_61 rfl ?_
      refine z_callS hE d_Od_exact_63 cl_Od_149 (c_Ls_outcome l g_3 nx (fx op) (by omega) a b z (fun h q => hz ⟨h, q⟩) hv) rfl (Nat.le_of_ble_eq_true rfl) ⟨by decide, by decide⟩ ⟨by omega, by omega⟩ (fun r_63 g_63 nx_63 hp_63 => ?_) rfl
      obtain ⟨rfl, rfl, rfl⟩ := hp_63
      try dsimp only [Option.toList, List.nil_append, List.cons_append]
      exact z_lret hE hQ d_Od_exact_66 rfl (by omega) (by omega) (pO_of hspec (Nat.le_refl _) C3 (gX_W W3 (Nat.le_refl _) (by omega)))
  refine z_iload_n hE d_Od_exact_14 rfl ?_
  rw [eo]
  refine z_callS hE d_Od_exact_15 cl_Od_142 (c_Ls_divides l g nx (fx op) (by omega)) rfl (Nat.le_of_ble_eq_true rfl) ⟨by decide, by decide⟩ ⟨by omega, by omega⟩ (fun r_15 g_15 nx_15 hp_15 => ?_) rfl
  obtain ⟨rfl, rfl, rfl⟩ := hp_15
  try dsimp only [Option.toList, List.nil_append, List.cons_append]
  by_cases h5 : 5 ≤ fx op
  case neg =>
    rw [if_neg h5]
    refine z_if_eq (tgt := 35) hE d_Od_exact_18 (by decide) (fun _ => ?_) (fun c_ => absurd c_ (by decide))
    exact go _ (fun z => h5 z.1) rfl (by rw [← eo]; rfl) rfl rfl
  rw [if_pos h5]
  refine z_if_eq (tgt := 35) hE d_Od_exact_18 (by decide) (fun c_ => absurd c_ (by decide)) (fun _ => ?_)
  refine z_lload hE d_Od_exact_21 rfl ?_
  refine z_lconst (v := 0) hE d_Od_exact_23 (by decide) ?_
  refine z_lcmp hE d_Od_exact_24 ?_
  refine z_if_ne (tgt := 35) hE d_Od_exact_25 (by decide) (fun c_25 => ?_) (fun c_25 => ?_)
  · rw [lg_cmp_eq] at c_25
    exact go _ (fun z => c_25 z.2) rfl (by rw [← eo]; rfl) rfl rfl
  · rw [lg_cmp_eq] at c_25
    have c25 : b = 0 := c_25
    refine z_aload_n hE d_Od_exact_28 rfl ?_
    refine z_iconst (v := 5) hE d_Od_exact_29 (by decide) ?_
    refine z_callV hE d_Od_exact_30 cl_Od_48 (c_Od_tell l hV 5) (by assumption) cb_Od rfl (Nat.le_of_ble_eq_true rfl) ⟨by decide, by decide⟩ ⟨by omega, by omega⟩ (fun r_1 g_1 nx_1 hp_1 => ?_) rfl
    try dsimp only [Option.toList, List.nil_append, List.cons_append]
    obtain ⟨rfl, rfl, C1, W1⟩ := hp_1
    try dsimp only [Option.toList, List.nil_append, List.cons_append]
    refine z_i2l hE d_Od_exact_33 (rfl) ?_
    refine z_lret hE hQ d_Od_exact_34 rfl (by omega) (by omega) (pO_of ?_ (Nat.le_refl _) C1 (gX_W W1 (Nat.le_refl _) (by omega)))
    rw [hspec, if_pos ⟨h5, c25⟩]; rfl

