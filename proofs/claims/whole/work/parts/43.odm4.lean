/-! OddsFractions: rows -/
theorem d_Od_row_0 : decode b_Od_row 0 = .ok (.iload_n 1, 1) := by decide +kernel
theorem d_Od_row_1 : decode b_Od_row 1 = .ok (.invokestatic 153, 3) := by decide +kernel
theorem d_Od_row_4 : decode b_Od_row 4 = .ok (.ifCond .ne 9, 3) := by decide +kernel
theorem d_Od_row_7 : decode b_Od_row 7 = .ok (.iload_n 2, 1) := by decide +kernel
theorem d_Od_row_8 : decode b_Od_row 8 = .ok (.bipush 10, 2) := by decide +kernel
theorem d_Od_row_10 : decode b_Od_row 10 = .ok (.if_icmp .le 6, 3) := by decide +kernel
theorem d_Od_row_13 : decode b_Od_row 13 = .ok (.ldc 47, 2) := by decide +kernel
theorem d_Od_row_15 : decode b_Od_row 15 = .ok (.ireturn, 1) := by decide +kernel
theorem d_Od_row_16 : decode b_Od_row 16 = .ok (.iload_n 2, 1) := by decide +kernel
theorem d_Od_row_17 : decode b_Od_row 17 = .ok (.ifCond .ge 9, 3) := by decide +kernel
theorem d_Od_row_20 : decode b_Od_row 20 = .ok (.aload_n 0, 1) := by decide +kernel
theorem d_Od_row_21 : decode b_Od_row 21 = .ok (.iconst 4, 1) := by decide +kernel
theorem d_Od_row_22 : decode b_Od_row 22 = .ok (.invokevirtual 48, 3) := by decide +kernel
theorem d_Od_row_25 : decode b_Od_row 25 = .ok (.ireturn, 1) := by decide +kernel
theorem d_Od_row_26 : decode b_Od_row 26 = .ok (.iload_n 1, 1) := by decide +kernel
theorem d_Od_row_27 : decode b_Od_row 27 = .ok (.ifCond .lt 31, 3) := by decide +kernel
theorem d_Od_row_30 : decode b_Od_row 30 = .ok (.iload_n 1, 1) := by decide +kernel
theorem d_Od_row_31 : decode b_Od_row 31 = .ok (.aload_n 0, 1) := by decide +kernel
theorem d_Od_row_32 : decode b_Od_row 32 = .ok (.getfield 17, 3) := by decide +kernel
theorem d_Od_row_35 : decode b_Od_row 35 = .ok (.arraylength, 1) := by decide +kernel
theorem d_Od_row_36 : decode b_Od_row 36 = .ok (.if_icmp .ge 22, 3) := by decide +kernel
theorem d_Od_row_39 : decode b_Od_row 39 = .ok (.aload_n 0, 1) := by decide +kernel
theorem d_Od_row_40 : decode b_Od_row 40 = .ok (.getfield 17, 3) := by decide +kernel
theorem d_Od_row_43 : decode b_Od_row 43 = .ok (.iload_n 1, 1) := by decide +kernel
theorem d_Od_row_44 : decode b_Od_row 44 = .ok (.aaload, 1) := by decide +kernel
theorem d_Od_row_45 : decode b_Od_row 45 = .ok (.ifnull 13, 3) := by decide +kernel
theorem d_Od_row_48 : decode b_Od_row 48 = .ok (.aload_n 0, 1) := by decide +kernel
theorem d_Od_row_49 : decode b_Od_row 49 = .ok (.getfield 17, 3) := by decide +kernel
theorem d_Od_row_52 : decode b_Od_row 52 = .ok (.iload_n 1, 1) := by decide +kernel
theorem d_Od_row_53 : decode b_Od_row 53 = .ok (.aaload, 1) := by decide +kernel
theorem d_Od_row_54 : decode b_Od_row 54 = .ok (.iload_n 2, 1) := by decide +kernel
theorem d_Od_row_55 : decode b_Od_row 55 = .ok (.invokevirtual 156, 3) := by decide +kernel
theorem d_Od_row_58 : decode b_Od_row 58 = .ok (.aload_n 0, 1) := by decide +kernel
theorem d_Od_row_59 : decode b_Od_row 59 = .ok (.iload_n 2, 1) := by decide +kernel
theorem d_Od_row_60 : decode b_Od_row 60 = .ok (.invokevirtual 70, 3) := by decide +kernel
theorem d_Od_row_63 : decode b_Od_row 63 = .ok (.ireturn, 1) := by decide +kernel
theorem d_Od_put_0 : decode b_Od_put 0 = .ok (.iload_n 1, 1) := by decide +kernel
theorem d_Od_put_1 : decode b_Od_put 1 = .ok (.invokestatic 153, 3) := by decide +kernel
theorem d_Od_put_4 : decode b_Od_put 4 = .ok (.ifCond .ne 10, 3) := by decide +kernel
theorem d_Od_put_7 : decode b_Od_put 7 = .ok (.iload_n 3, 1) := by decide +kernel
theorem d_Od_put_8 : decode b_Od_put 8 = .ok (.invokestatic 43, 3) := by decide +kernel
theorem d_Od_put_11 : decode b_Od_put 11 = .ok (.ifCond .eq 6, 3) := by decide +kernel
theorem d_Od_put_14 : decode b_Od_put 14 = .ok (.ldc 47, 2) := by decide +kernel
theorem d_Od_put_16 : decode b_Od_put 16 = .ok (.ireturn, 1) := by decide +kernel
theorem d_Od_put_17 : decode b_Od_put 17 = .ok (.aload_n 0, 1) := by decide +kernel
theorem d_Od_put_18 : decode b_Od_put 18 = .ok (.iload_n 1, 1) := by decide +kernel
theorem d_Od_put_19 : decode b_Od_put 19 = .ok (.invokevirtual 160, 3) := by decide +kernel
theorem d_Od_put_22 : decode b_Od_put 22 = .ok (.astore 4, 2) := by decide +kernel
theorem d_Od_put_24 : decode b_Od_put 24 = .ok (.aload_n 0, 1) := by decide +kernel
theorem d_Od_put_25 : decode b_Od_put 25 = .ok (.iload_n 3, 1) := by decide +kernel
theorem d_Od_put_26 : decode b_Od_put 26 = .ok (.invokevirtual 59, 3) := by decide +kernel
theorem d_Od_put_29 : decode b_Od_put 29 = .ok (.astore 5, 2) := by decide +kernel
theorem d_Od_put_31 : decode b_Od_put 31 = .ok (.aload 4, 2) := by decide +kernel
theorem d_Od_put_33 : decode b_Od_put 33 = .ok (.ifnull 8, 3) := by decide +kernel
theorem d_Od_put_36 : decode b_Od_put 36 = .ok (.aload 5, 2) := by decide +kernel
theorem d_Od_put_38 : decode b_Od_put 38 = .ok (.ifnonnull 9, 3) := by decide +kernel
theorem d_Od_put_41 : decode b_Od_put 41 = .ok (.aload_n 0, 1) := by decide +kernel
theorem d_Od_put_42 : decode b_Od_put 42 = .ok (.iconst 1, 1) := by decide +kernel
theorem d_Od_put_43 : decode b_Od_put 43 = .ok (.invokevirtual 48, 3) := by decide +kernel
theorem d_Od_put_46 : decode b_Od_put 46 = .ok (.ireturn, 1) := by decide +kernel
theorem d_Od_put_47 : decode b_Od_put 47 = .ok (.aload 4, 2) := by decide +kernel
theorem d_Od_put_49 : decode b_Od_put 49 = .ok (.iload_n 2, 1) := by decide +kernel
theorem d_Od_put_50 : decode b_Od_put 50 = .ok (.iconst 1, 1) := by decide +kernel
theorem d_Od_put_51 : decode b_Od_put 51 = .ok (.invokevirtual 164, 3) := by decide +kernel
theorem d_Od_put_54 : decode b_Od_put 54 = .ok (.ifCond .ne 9, 3) := by decide +kernel
theorem d_Od_put_57 : decode b_Od_put 57 = .ok (.aload_n 0, 1) := by decide +kernel
theorem d_Od_put_58 : decode b_Od_put 58 = .ok (.iconst 3, 1) := by decide +kernel
theorem d_Od_put_59 : decode b_Od_put 59 = .ok (.invokevirtual 48, 3) := by decide +kernel
theorem d_Od_put_62 : decode b_Od_put 62 = .ok (.ireturn, 1) := by decide +kernel
theorem d_Od_put_63 : decode b_Od_put 63 = .ok (.aload 4, 2) := by decide +kernel
theorem d_Od_put_65 : decode b_Od_put 65 = .ok (.iload_n 2, 1) := by decide +kernel
theorem d_Od_put_66 : decode b_Od_put 66 = .ok (.aload 5, 2) := by decide +kernel
theorem d_Od_put_68 : decode b_Od_put 68 = .ok (.invokevirtual 168, 3) := by decide +kernel
theorem d_Od_put_71 : decode b_Od_put 71 = .ok (.aload_n 0, 1) := by decide +kernel
theorem d_Od_put_72 : decode b_Od_put 72 = .ok (.iconst 1, 1) := by decide +kernel
theorem d_Od_put_73 : decode b_Od_put 73 = .ok (.invokevirtual 70, 3) := by decide +kernel
theorem d_Od_put_76 : decode b_Od_put 76 = .ok (.ireturn, 1) := by decide +kernel
theorem d_Od_move_0 : decode b_Od_move 0 = .ok (.iload_n 1, 1) := by decide +kernel
theorem d_Od_move_1 : decode b_Od_move 1 = .ok (.invokestatic 153, 3) := by decide +kernel
theorem d_Od_move_4 : decode b_Od_move 4 = .ok (.ifCond .ne 10, 3) := by decide +kernel
theorem d_Od_move_7 : decode b_Od_move 7 = .ok (.iload_n 3, 1) := by decide +kernel
theorem d_Od_move_8 : decode b_Od_move 8 = .ok (.invokestatic 153, 3) := by decide +kernel
theorem d_Od_move_11 : decode b_Od_move 11 = .ok (.ifCond .eq 6, 3) := by decide +kernel
theorem d_Od_move_14 : decode b_Od_move 14 = .ok (.ldc 47, 2) := by decide +kernel
theorem d_Od_move_16 : decode b_Od_move 16 = .ok (.ireturn, 1) := by decide +kernel
theorem d_Od_move_17 : decode b_Od_move 17 = .ok (.aload_n 0, 1) := by decide +kernel
theorem d_Od_move_18 : decode b_Od_move 18 = .ok (.iload_n 1, 1) := by decide +kernel
theorem d_Od_move_19 : decode b_Od_move 19 = .ok (.invokevirtual 160, 3) := by decide +kernel
theorem d_Od_move_22 : decode b_Od_move 22 = .ok (.astore 6, 2) := by decide +kernel
theorem d_Od_move_24 : decode b_Od_move 24 = .ok (.aload_n 0, 1) := by decide +kernel
theorem d_Od_move_25 : decode b_Od_move 25 = .ok (.iload_n 3, 1) := by decide +kernel
theorem d_Od_move_26 : decode b_Od_move 26 = .ok (.invokevirtual 160, 3) := by decide +kernel
theorem d_Od_move_29 : decode b_Od_move 29 = .ok (.astore 7, 2) := by decide +kernel
theorem d_Od_move_31 : decode b_Od_move 31 = .ok (.aload 6, 2) := by decide +kernel
theorem d_Od_move_33 : decode b_Od_move 33 = .ok (.ifnull 8, 3) := by decide +kernel
theorem d_Od_move_36 : decode b_Od_move 36 = .ok (.aload 7, 2) := by decide +kernel
theorem d_Od_move_38 : decode b_Od_move 38 = .ok (.ifnonnull 9, 3) := by decide +kernel
theorem d_Od_move_41 : decode b_Od_move 41 = .ok (.aload_n 0, 1) := by decide +kernel
theorem d_Od_move_42 : decode b_Od_move 42 = .ok (.iconst 1, 1) := by decide +kernel
theorem d_Od_move_43 : decode b_Od_move 43 = .ok (.invokevirtual 48, 3) := by decide +kernel
theorem d_Od_move_46 : decode b_Od_move 46 = .ok (.ireturn, 1) := by decide +kernel
theorem d_Od_move_47 : decode b_Od_move 47 = .ok (.aload 6, 2) := by decide +kernel
theorem d_Od_move_49 : decode b_Od_move 49 = .ok (.iload_n 2, 1) := by decide +kernel
theorem d_Od_move_50 : decode b_Od_move 50 = .ok (.iload 5, 2) := by decide +kernel
theorem d_Od_move_52 : decode b_Od_move 52 = .ok (.invokevirtual 164, 3) := by decide +kernel
theorem d_Od_move_55 : decode b_Od_move 55 = .ok (.ifCond .eq 15, 3) := by decide +kernel
theorem d_Od_move_58 : decode b_Od_move 58 = .ok (.aload 7, 2) := by decide +kernel
theorem d_Od_move_60 : decode b_Od_move 60 = .ok (.iload 4, 2) := by decide +kernel
theorem d_Od_move_62 : decode b_Od_move 62 = .ok (.iload 5, 2) := by decide +kernel
theorem d_Od_move_64 : decode b_Od_move 64 = .ok (.invokevirtual 164, 3) := by decide +kernel
theorem d_Od_move_67 : decode b_Od_move 67 = .ok (.ifCond .ne 9, 3) := by decide +kernel
theorem d_Od_move_70 : decode b_Od_move 70 = .ok (.aload_n 0, 1) := by decide +kernel
theorem d_Od_move_71 : decode b_Od_move 71 = .ok (.iconst 3, 1) := by decide +kernel
theorem d_Od_move_72 : decode b_Od_move 72 = .ok (.invokevirtual 48, 3) := by decide +kernel
theorem d_Od_move_75 : decode b_Od_move 75 = .ok (.ireturn, 1) := by decide +kernel
theorem d_Od_move_76 : decode b_Od_move 76 = .ok (.aload 7, 2) := by decide +kernel
theorem d_Od_move_78 : decode b_Od_move 78 = .ok (.iload 4, 2) := by decide +kernel
theorem d_Od_move_80 : decode b_Od_move 80 = .ok (.aload 6, 2) := by decide +kernel
theorem d_Od_move_82 : decode b_Od_move 82 = .ok (.iload_n 2, 1) := by decide +kernel
theorem d_Od_move_83 : decode b_Od_move 83 = .ok (.iload 5, 2) := by decide +kernel
theorem d_Od_move_85 : decode b_Od_move 85 = .ok (.invokevirtual 171, 3) := by decide +kernel
theorem d_Od_move_88 : decode b_Od_move 88 = .ok (.aload_n 0, 1) := by decide +kernel
theorem d_Od_move_89 : decode b_Od_move 89 = .ok (.iload 5, 2) := by decide +kernel
theorem d_Od_move_91 : decode b_Od_move 91 = .ok (.invokevirtual 70, 3) := by decide +kernel
theorem d_Od_move_94 : decode b_Od_move 94 = .ok (.ireturn, 1) := by decide +kernel
theorem d_Od_filled_0 : decode b_Od_filled 0 = .ok (.iload_n 1, 1) := by decide +kernel
theorem d_Od_filled_1 : decode b_Od_filled 1 = .ok (.invokestatic 153, 3) := by decide +kernel
theorem d_Od_filled_4 : decode b_Od_filled 4 = .ok (.ifCond .eq 6, 3) := by decide +kernel
theorem d_Od_filled_7 : decode b_Od_filled 7 = .ok (.ldc 47, 2) := by decide +kernel
theorem d_Od_filled_9 : decode b_Od_filled 9 = .ok (.ireturn, 1) := by decide +kernel
theorem d_Od_filled_10 : decode b_Od_filled 10 = .ok (.aload_n 0, 1) := by decide +kernel
theorem d_Od_filled_11 : decode b_Od_filled 11 = .ok (.iload_n 1, 1) := by decide +kernel
theorem d_Od_filled_12 : decode b_Od_filled 12 = .ok (.invokevirtual 160, 3) := by decide +kernel
theorem d_Od_filled_15 : decode b_Od_filled 15 = .ok (.astore_n 2, 1) := by decide +kernel
theorem d_Od_filled_16 : decode b_Od_filled 16 = .ok (.aload_n 2, 1) := by decide +kernel
theorem d_Od_filled_17 : decode b_Od_filled 17 = .ok (.ifnonnull 9, 3) := by decide +kernel
theorem d_Od_filled_20 : decode b_Od_filled 20 = .ok (.aload_n 0, 1) := by decide +kernel
theorem d_Od_filled_21 : decode b_Od_filled 21 = .ok (.iconst 1, 1) := by decide +kernel
theorem d_Od_filled_22 : decode b_Od_filled 22 = .ok (.invokevirtual 48, 3) := by decide +kernel
theorem d_Od_filled_25 : decode b_Od_filled 25 = .ok (.ireturn, 1) := by decide +kernel
theorem d_Od_filled_26 : decode b_Od_filled 26 = .ok (.aload_n 0, 1) := by decide +kernel
theorem d_Od_filled_27 : decode b_Od_filled 27 = .ok (.aload_n 2, 1) := by decide +kernel
theorem d_Od_filled_28 : decode b_Od_filled 28 = .ok (.invokevirtual 175, 3) := by decide +kernel
theorem d_Od_filled_31 : decode b_Od_filled 31 = .ok (.invokevirtual 70, 3) := by decide +kernel
theorem d_Od_filled_34 : decode b_Od_filled 34 = .ok (.ireturn, 1) := by decide +kernel
theorem d_Od_addUpRow_0 : decode b_Od_addUpRow 0 = .ok (.aload_n 0, 1) := by decide +kernel
theorem d_Od_addUpRow_1 : decode b_Od_addUpRow 1 = .ok (.iload_n 1, 1) := by decide +kernel
theorem d_Od_addUpRow_2 : decode b_Od_addUpRow 2 = .ok (.invokevirtual 160, 3) := by decide +kernel
theorem d_Od_addUpRow_5 : decode b_Od_addUpRow 5 = .ok (.astore_n 2, 1) := by decide +kernel
theorem d_Od_addUpRow_6 : decode b_Od_addUpRow 6 = .ok (.aload_n 2, 1) := by decide +kernel
theorem d_Od_addUpRow_7 : decode b_Od_addUpRow 7 = .ok (.ifnull 14, 3) := by decide +kernel
theorem d_Od_addUpRow_10 : decode b_Od_addUpRow 10 = .ok (.aload_n 2, 1) := by decide +kernel
theorem d_Od_addUpRow_11 : decode b_Od_addUpRow 11 = .ok (.invokevirtual 175, 3) := by decide +kernel
theorem d_Od_addUpRow_14 : decode b_Od_addUpRow 14 = .ok (.aload_n 2, 1) := by decide +kernel
theorem d_Od_addUpRow_15 : decode b_Od_addUpRow 15 = .ok (.getfield 193, 3) := by decide +kernel
theorem d_Od_addUpRow_18 : decode b_Od_addUpRow 18 = .ok (.if_icmp .ge 5, 3) := by decide +kernel
theorem d_Od_addUpRow_21 : decode b_Od_addUpRow 21 = .ok (.iconst 1, 1) := by decide +kernel
theorem d_Od_addUpRow_22 : decode b_Od_addUpRow 22 = .ok (.ireturn, 1) := by decide +kernel
theorem d_Od_addUpRow_23 : decode b_Od_addUpRow 23 = .ok (.aload_n 0, 1) := by decide +kernel
theorem d_Od_addUpRow_24 : decode b_Od_addUpRow 24 = .ok (.getfield 25, 3) := by decide +kernel
theorem d_Od_addUpRow_27 : decode b_Od_addUpRow 27 = .ok (.getfield 182, 3) := by decide +kernel
theorem d_Od_addUpRow_30 : decode b_Od_addUpRow 30 = .ok (.astore_n 3, 1) := by decide +kernel
theorem d_Od_addUpRow_31 : decode b_Od_addUpRow 31 = .ok (.aload_n 3, 1) := by decide +kernel
theorem d_Od_addUpRow_32 : decode b_Od_addUpRow 32 = .ok (.lconst 0, 1) := by decide +kernel
theorem d_Od_addUpRow_33 : decode b_Od_addUpRow 33 = .ok (.invokevirtual 189, 3) := by decide +kernel
theorem d_Od_addUpRow_36 : decode b_Od_addUpRow 36 = .ok (.iconst 0, 1) := by decide +kernel
theorem d_Od_addUpRow_37 : decode b_Od_addUpRow 37 = .ok (.istore 4, 2) := by decide +kernel
theorem d_Od_addUpRow_39 : decode b_Od_addUpRow 39 = .ok (.iload 4, 2) := by decide +kernel
theorem d_Od_addUpRow_41 : decode b_Od_addUpRow 41 = .ok (.aload_n 2, 1) := by decide +kernel
theorem d_Od_addUpRow_42 : decode b_Od_addUpRow 42 = .ok (.getfield 193, 3) := by decide +kernel
theorem d_Od_addUpRow_45 : decode b_Od_addUpRow 45 = .ok (.if_icmp .ge 49, 3) := by decide +kernel
theorem d_Od_addUpRow_48 : decode b_Od_addUpRow 48 = .ok (.aload_n 2, 1) := by decide +kernel
theorem d_Od_addUpRow_49 : decode b_Od_addUpRow 49 = .ok (.iload 4, 2) := by decide +kernel
theorem d_Od_addUpRow_51 : decode b_Od_addUpRow 51 = .ok (.invokevirtual 196, 3) := by decide +kernel
theorem d_Od_addUpRow_54 : decode b_Od_addUpRow 54 = .ok (.astore 5, 2) := by decide +kernel
theorem d_Od_addUpRow_56 : decode b_Od_addUpRow 56 = .ok (.aload 5, 2) := by decide +kernel
theorem d_Od_addUpRow_58 : decode b_Od_addUpRow 58 = .ok (.ifnonnull 5, 3) := by decide +kernel
theorem d_Od_addUpRow_61 : decode b_Od_addUpRow 61 = .ok (.iconst 1, 1) := by decide +kernel
theorem d_Od_addUpRow_62 : decode b_Od_addUpRow 62 = .ok (.ireturn, 1) := by decide +kernel
theorem d_Od_addUpRow_63 : decode b_Od_addUpRow 63 = .ok (.aload_n 0, 1) := by decide +kernel
theorem d_Od_addUpRow_64 : decode b_Od_addUpRow 64 = .ok (.getfield 25, 3) := by decide +kernel
theorem d_Od_addUpRow_67 : decode b_Od_addUpRow 67 = .ok (.aload_n 3, 1) := by decide +kernel
theorem d_Od_addUpRow_68 : decode b_Od_addUpRow 68 = .ok (.aload 5, 2) := by decide +kernel
theorem d_Od_addUpRow_70 : decode b_Od_addUpRow 70 = .ok (.aload 5, 2) := by decide +kernel
theorem d_Od_addUpRow_72 : decode b_Od_addUpRow 72 = .ok (.getfield 67, 3) := by decide +kernel
theorem d_Od_addUpRow_75 : decode b_Od_addUpRow 75 = .ok (.invokevirtual 199, 3) := by decide +kernel
theorem d_Od_addUpRow_78 : decode b_Od_addUpRow 78 = .ok (.aload_n 3, 1) := by decide +kernel
theorem d_Od_addUpRow_79 : decode b_Od_addUpRow 79 = .ok (.invokevirtual 203, 3) := by decide +kernel
theorem d_Od_addUpRow_82 : decode b_Od_addUpRow 82 = .ok (.ifCond .ne 6, 3) := by decide +kernel
theorem d_Od_addUpRow_85 : decode b_Od_addUpRow 85 = .ok (.bipush 6, 2) := by decide +kernel
theorem d_Od_addUpRow_87 : decode b_Od_addUpRow 87 = .ok (.ireturn, 1) := by decide +kernel
theorem d_Od_addUpRow_88 : decode b_Od_addUpRow 88 = .ok (.iinc 4 1, 3) := by decide +kernel
theorem d_Od_addUpRow_91 : decode b_Od_addUpRow 91 = .ok (.goto (-52), 3) := by decide +kernel
theorem d_Od_addUpRow_94 : decode b_Od_addUpRow 94 = .ok (.iconst 0, 1) := by decide +kernel
theorem d_Od_addUpRow_95 : decode b_Od_addUpRow 95 = .ok (.ireturn, 1) := by decide +kernel
theorem d_Od_sum_0 : decode b_Od_sum 0 = .ok (.iload_n 1, 1) := by decide +kernel
theorem d_Od_sum_1 : decode b_Od_sum 1 = .ok (.invokestatic 43, 3) := by decide +kernel
theorem d_Od_sum_4 : decode b_Od_sum 4 = .ok (.ifCond .ne 10, 3) := by decide +kernel
theorem d_Od_sum_7 : decode b_Od_sum 7 = .ok (.iload_n 2, 1) := by decide +kernel
theorem d_Od_sum_8 : decode b_Od_sum 8 = .ok (.invokestatic 153, 3) := by decide +kernel
theorem d_Od_sum_11 : decode b_Od_sum 11 = .ok (.ifCond .eq 6, 3) := by decide +kernel
theorem d_Od_sum_14 : decode b_Od_sum 14 = .ok (.ldc 47, 2) := by decide +kernel
theorem d_Od_sum_16 : decode b_Od_sum 16 = .ok (.ireturn, 1) := by decide +kernel
theorem d_Od_sum_17 : decode b_Od_sum 17 = .ok (.aload_n 0, 1) := by decide +kernel
theorem d_Od_sum_18 : decode b_Od_sum 18 = .ok (.iload_n 2, 1) := by decide +kernel
theorem d_Od_sum_19 : decode b_Od_sum 19 = .ok (.invokevirtual 179, 3) := by decide +kernel
theorem d_Od_sum_22 : decode b_Od_sum 22 = .ok (.istore_n 3, 1) := by decide +kernel
theorem d_Od_sum_23 : decode b_Od_sum 23 = .ok (.iload_n 3, 1) := by decide +kernel
theorem d_Od_sum_24 : decode b_Od_sum 24 = .ok (.ifCond .eq 9, 3) := by decide +kernel
theorem d_Od_sum_27 : decode b_Od_sum 27 = .ok (.aload_n 0, 1) := by decide +kernel
theorem d_Od_sum_28 : decode b_Od_sum 28 = .ok (.iload_n 3, 1) := by decide +kernel
theorem d_Od_sum_29 : decode b_Od_sum 29 = .ok (.invokevirtual 48, 3) := by decide +kernel
theorem d_Od_sum_32 : decode b_Od_sum 32 = .ok (.ireturn, 1) := by decide +kernel
theorem d_Od_sum_33 : decode b_Od_sum 33 = .ok (.aload_n 0, 1) := by decide +kernel
theorem d_Od_sum_34 : decode b_Od_sum 34 = .ok (.iload_n 1, 1) := by decide +kernel
theorem d_Od_sum_35 : decode b_Od_sum 35 = .ok (.invokevirtual 56, 3) := by decide +kernel
theorem d_Od_sum_38 : decode b_Od_sum 38 = .ok (.ireturn, 1) := by decide +kernel
theorem d_Od_one_0 : decode b_Od_one 0 = .ok (.iload_n 1, 1) := by decide +kernel
theorem d_Od_one_1 : decode b_Od_one 1 = .ok (.invokestatic 153, 3) := by decide +kernel
theorem d_Od_one_4 : decode b_Od_one 4 = .ok (.ifCond .eq 6, 3) := by decide +kernel
theorem d_Od_one_7 : decode b_Od_one 7 = .ok (.ldc 47, 2) := by decide +kernel
theorem d_Od_one_9 : decode b_Od_one 9 = .ok (.ireturn, 1) := by decide +kernel
theorem d_Od_one_10 : decode b_Od_one 10 = .ok (.aload_n 0, 1) := by decide +kernel
theorem d_Od_one_11 : decode b_Od_one 11 = .ok (.iload_n 1, 1) := by decide +kernel
theorem d_Od_one_12 : decode b_Od_one 12 = .ok (.invokevirtual 179, 3) := by decide +kernel
theorem d_Od_one_15 : decode b_Od_one 15 = .ok (.istore_n 2, 1) := by decide +kernel
theorem d_Od_one_16 : decode b_Od_one 16 = .ok (.iload_n 2, 1) := by decide +kernel
theorem d_Od_one_17 : decode b_Od_one 17 = .ok (.ifCond .eq 9, 3) := by decide +kernel
theorem d_Od_one_20 : decode b_Od_one 20 = .ok (.aload_n 0, 1) := by decide +kernel
theorem d_Od_one_21 : decode b_Od_one 21 = .ok (.iload_n 2, 1) := by decide +kernel
theorem d_Od_one_22 : decode b_Od_one 22 = .ok (.invokevirtual 48, 3) := by decide +kernel
theorem d_Od_one_25 : decode b_Od_one 25 = .ok (.ireturn, 1) := by decide +kernel
theorem d_Od_one_26 : decode b_Od_one 26 = .ok (.aload_n 0, 1) := by decide +kernel
theorem d_Od_one_27 : decode b_Od_one 27 = .ok (.aload_n 0, 1) := by decide +kernel
theorem d_Od_one_28 : decode b_Od_one 28 = .ok (.getfield 25, 3) := by decide +kernel
theorem d_Od_one_31 : decode b_Od_one 31 = .ok (.getfield 182, 3) := by decide +kernel
theorem d_Od_one_34 : decode b_Od_one 34 = .ok (.invokevirtual 186, 3) := by decide +kernel
theorem d_Od_one_37 : decode b_Od_one 37 = .ok (.ifCond .eq 7, 3) := by decide +kernel
theorem d_Od_one_40 : decode b_Od_one 40 = .ok (.iconst 1, 1) := by decide +kernel
theorem d_Od_one_41 : decode b_Od_one 41 = .ok (.goto 4, 3) := by decide +kernel
theorem d_Od_one_44 : decode b_Od_one 44 = .ok (.iconst 0, 1) := by decide +kernel
theorem d_Od_one_45 : decode b_Od_one 45 = .ok (.invokevirtual 70, 3) := by decide +kernel
theorem d_Od_one_48 : decode b_Od_one 48 = .ok (.ireturn, 1) := by decide +kernel
theorem d_Od_pick_0 : decode b_Od_pick 0 = .ok (.iload_n 1, 1) := by decide +kernel
theorem d_Od_pick_1 : decode b_Od_pick 1 = .ok (.invokestatic 153, 3) := by decide +kernel
theorem d_Od_pick_4 : decode b_Od_pick 4 = .ok (.ifCond .ne 10, 3) := by decide +kernel
theorem d_Od_pick_7 : decode b_Od_pick 7 = .ok (.iload_n 2, 1) := by decide +kernel
theorem d_Od_pick_8 : decode b_Od_pick 8 = .ok (.invokestatic 43, 3) := by decide +kernel
theorem d_Od_pick_11 : decode b_Od_pick 11 = .ok (.ifCond .eq 6, 3) := by decide +kernel
theorem d_Od_pick_14 : decode b_Od_pick 14 = .ok (.ldc 47, 2) := by decide +kernel
theorem d_Od_pick_16 : decode b_Od_pick 16 = .ok (.ireturn, 1) := by decide +kernel
theorem d_Od_pick_17 : decode b_Od_pick 17 = .ok (.aload_n 0, 1) := by decide +kernel
theorem d_Od_pick_18 : decode b_Od_pick 18 = .ok (.iload_n 1, 1) := by decide +kernel
theorem d_Od_pick_19 : decode b_Od_pick 19 = .ok (.invokevirtual 160, 3) := by decide +kernel
theorem d_Od_pick_22 : decode b_Od_pick 22 = .ok (.astore_n 3, 1) := by decide +kernel
theorem d_Od_pick_23 : decode b_Od_pick 23 = .ok (.aload_n 0, 1) := by decide +kernel
theorem d_Od_pick_24 : decode b_Od_pick 24 = .ok (.iload_n 2, 1) := by decide +kernel
theorem d_Od_pick_25 : decode b_Od_pick 25 = .ok (.invokevirtual 59, 3) := by decide +kernel
theorem d_Od_pick_28 : decode b_Od_pick 28 = .ok (.astore 4, 2) := by decide +kernel
theorem d_Od_pick_30 : decode b_Od_pick 30 = .ok (.aload_n 3, 1) := by decide +kernel
theorem d_Od_pick_31 : decode b_Od_pick 31 = .ok (.ifnull 8, 3) := by decide +kernel
theorem d_Od_pick_34 : decode b_Od_pick 34 = .ok (.aload 4, 2) := by decide +kernel
theorem d_Od_pick_36 : decode b_Od_pick 36 = .ok (.ifnonnull 9, 3) := by decide +kernel
theorem d_Od_pick_39 : decode b_Od_pick 39 = .ok (.aload_n 0, 1) := by decide +kernel
theorem d_Od_pick_40 : decode b_Od_pick 40 = .ok (.iconst 1, 1) := by decide +kernel
theorem d_Od_pick_41 : decode b_Od_pick 41 = .ok (.invokevirtual 48, 3) := by decide +kernel
theorem d_Od_pick_44 : decode b_Od_pick 44 = .ok (.ireturn, 1) := by decide +kernel
theorem d_Od_pick_45 : decode b_Od_pick 45 = .ok (.aload_n 0, 1) := by decide +kernel
theorem d_Od_pick_46 : decode b_Od_pick 46 = .ok (.getfield 25, 3) := by decide +kernel
theorem d_Od_pick_49 : decode b_Od_pick 49 = .ok (.getfield 182, 3) := by decide +kernel
theorem d_Od_pick_52 : decode b_Od_pick 52 = .ok (.astore 5, 2) := by decide +kernel
theorem d_Od_pick_54 : decode b_Od_pick 54 = .ok (.aload 5, 2) := by decide +kernel
theorem d_Od_pick_56 : decode b_Od_pick 56 = .ok (.lconst 0, 1) := by decide +kernel
theorem d_Od_pick_57 : decode b_Od_pick 57 = .ok (.invokevirtual 189, 3) := by decide +kernel
theorem d_Od_pick_60 : decode b_Od_pick 60 = .ok (.iconst 0, 1) := by decide +kernel
theorem d_Od_pick_61 : decode b_Od_pick 61 = .ok (.istore 6, 2) := by decide +kernel
theorem d_Od_pick_63 : decode b_Od_pick 63 = .ok (.iload 6, 2) := by decide +kernel
theorem d_Od_pick_65 : decode b_Od_pick 65 = .ok (.aload_n 3, 1) := by decide +kernel
theorem d_Od_pick_66 : decode b_Od_pick 66 = .ok (.getfield 193, 3) := by decide +kernel
theorem d_Od_pick_69 : decode b_Od_pick 69 = .ok (.if_icmp .ge 80, 3) := by decide +kernel
theorem d_Od_pick_72 : decode b_Od_pick 72 = .ok (.aload_n 3, 1) := by decide +kernel
theorem d_Od_pick_73 : decode b_Od_pick 73 = .ok (.iload 6, 2) := by decide +kernel
theorem d_Od_pick_75 : decode b_Od_pick 75 = .ok (.invokevirtual 196, 3) := by decide +kernel
theorem d_Od_pick_78 : decode b_Od_pick 78 = .ok (.astore 7, 2) := by decide +kernel
theorem d_Od_pick_80 : decode b_Od_pick 80 = .ok (.aload 7, 2) := by decide +kernel
theorem d_Od_pick_82 : decode b_Od_pick 82 = .ok (.ifnonnull 9, 3) := by decide +kernel
theorem d_Od_pick_85 : decode b_Od_pick 85 = .ok (.aload_n 0, 1) := by decide +kernel
theorem d_Od_pick_86 : decode b_Od_pick 86 = .ok (.iconst 1, 1) := by decide +kernel
theorem d_Od_pick_87 : decode b_Od_pick 87 = .ok (.invokevirtual 48, 3) := by decide +kernel
theorem d_Od_pick_90 : decode b_Od_pick 90 = .ok (.ireturn, 1) := by decide +kernel
theorem d_Od_pick_91 : decode b_Od_pick 91 = .ok (.aload_n 0, 1) := by decide +kernel
theorem d_Od_pick_92 : decode b_Od_pick 92 = .ok (.getfield 25, 3) := by decide +kernel
theorem d_Od_pick_95 : decode b_Od_pick 95 = .ok (.aload 5, 2) := by decide +kernel
theorem d_Od_pick_97 : decode b_Od_pick 97 = .ok (.aload 7, 2) := by decide +kernel
theorem d_Od_pick_99 : decode b_Od_pick 99 = .ok (.aload 7, 2) := by decide +kernel
theorem d_Od_pick_101 : decode b_Od_pick 101 = .ok (.getfield 67, 3) := by decide +kernel
theorem d_Od_pick_104 : decode b_Od_pick 104 = .ok (.invokevirtual 199, 3) := by decide +kernel
theorem d_Od_pick_107 : decode b_Od_pick 107 = .ok (.aload 5, 2) := by decide +kernel
theorem d_Od_pick_109 : decode b_Od_pick 109 = .ok (.invokevirtual 203, 3) := by decide +kernel
theorem d_Od_pick_112 : decode b_Od_pick 112 = .ok (.ifCond .ne 10, 3) := by decide +kernel
theorem d_Od_pick_115 : decode b_Od_pick 115 = .ok (.aload_n 0, 1) := by decide +kernel
theorem d_Od_pick_116 : decode b_Od_pick 116 = .ok (.bipush 6, 2) := by decide +kernel
theorem d_Od_pick_118 : decode b_Od_pick 118 = .ok (.invokevirtual 48, 3) := by decide +kernel
theorem d_Od_pick_121 : decode b_Od_pick 121 = .ok (.ireturn, 1) := by decide +kernel
theorem d_Od_pick_122 : decode b_Od_pick 122 = .ok (.aload_n 0, 1) := by decide +kernel
theorem d_Od_pick_123 : decode b_Od_pick 123 = .ok (.getfield 25, 3) := by decide +kernel
theorem d_Od_pick_126 : decode b_Od_pick 126 = .ok (.aload 5, 2) := by decide +kernel
theorem d_Od_pick_128 : decode b_Od_pick 128 = .ok (.aload 4, 2) := by decide +kernel
theorem d_Od_pick_130 : decode b_Od_pick 130 = .ok (.invokevirtual 97, 3) := by decide +kernel
theorem d_Od_pick_133 : decode b_Od_pick 133 = .ok (.ifCond .le 10, 3) := by decide +kernel
theorem d_Od_pick_136 : decode b_Od_pick 136 = .ok (.aload_n 0, 1) := by decide +kernel
theorem d_Od_pick_137 : decode b_Od_pick 137 = .ok (.iload 6, 2) := by decide +kernel
theorem d_Od_pick_139 : decode b_Od_pick 139 = .ok (.invokevirtual 70, 3) := by decide +kernel
theorem d_Od_pick_142 : decode b_Od_pick 142 = .ok (.ireturn, 1) := by decide +kernel
theorem d_Od_pick_143 : decode b_Od_pick 143 = .ok (.iinc 6 1, 3) := by decide +kernel
theorem d_Od_pick_146 : decode b_Od_pick 146 = .ok (.goto (-83), 3) := by decide +kernel
theorem d_Od_pick_149 : decode b_Od_pick 149 = .ok (.aload_n 0, 1) := by decide +kernel
theorem d_Od_pick_150 : decode b_Od_pick 150 = .ok (.iconst (-1), 1) := by decide +kernel
theorem d_Od_pick_151 : decode b_Od_pick 151 = .ok (.invokevirtual 70, 3) := by decide +kernel
theorem d_Od_pick_154 : decode b_Od_pick 154 = .ok (.ireturn, 1) := by decide +kernel
theorem cnt_cntH {g : Gh} {O nx : Nat} {h : Nat → Option Nat} {H : Nat → Option Qf} {n : Nat} (hh : ∀ k, k < n → HQ g O nx (h k) (H k)) : cntH h n = cntQ H n := by
  induction n with
  | zero => rfl
  | succ n ih =>
    show cntH h n + (if (h n).isSome then 1 else 0) = cntQ H n + (if (H n).isSome then 1 else 0)
    rw [ih (fun k hk => hh k (by omega))]
    rcases hh n (by omega) with ⟨z1, z2⟩ | ⟨w, x, z1, z2, -⟩
    · rw [z1, z2]; rfl
    · rw [z1, z2]; rfl
theorem cntQ_le (H : Nat → Option Qf) : ∀ k, cntQ H k ≤ k
  | 0 => Nat.le_refl 0
  | k + 1 => by
    have := cntQ_le H k
    show cntQ H k + (if (H k).isSome then 1 else 0) ≤ k + 1
    split <;> omega
theorem fx_nI {n : Nat} (h : n ≤ 1000000) : fx (nI n) = n := by unfold fx; rw [nI_ti (by omega)]; omega
theorem nI_m1 {n : Nat} (h : n ≤ 1000000) : nI n ≠ -1 := fun q => by
  have := congrArg Int32.toInt q
  rw [nI_ti (by omega), show (-1 : Int32).toInt = -1 by decide] at this
  omega

theorem cntQ_none {H : Nat → Option Qf} {k p : Nat} (h : H k = none) (hk : k < p) : cntQ H p < p := by
  induction p with
  | zero => omega
  | succ p ih =>
    show cntQ H p + (if (H p).isSome then 1 else 0) < p + 1
    by_cases hkp : k = p
    · subst hkp
      rw [h]
      have := cntQ_le H k
      simp only [Option.isSome_none, Bool.false_eq_true, if_false]
      omega
    · have := ih (by omega)
      split <;> omega
theorem sq_none {H : Nat → Option Qf} {k p : Nat} (h : sq H k = none) (hk : k ≤ p) : sq H p = none := by
  induction p with
  | zero => have : k = 0 := by omega
            rw [this] at h; exact h
  | succ p ih =>
    by_cases hkp : k = p + 1
    · rw [hkp] at h; exact h
    · show (match sq H p, H p with | some t, some q => if QW (addQ t q q.1) then some (addQ t q q.1) else none | _, _ => none) = none
      rw [ih (by omega)]
theorem c_Od_row (l : Launch) {g : Gh} {nx O : Nat} {S : Sx} (hC : CW g O nx S) (r n : Int32) : Ct l m_Od_row 0 0 [.ref O, .int r, .int n] g nx (pO g O nx (spRow S r n)) := by
  obtain ⟨sg, v, w, hV⟩ := hC
  have h0 := hV.1
  refine Ct.of (by decide) (Nat.le_of_ble_eq_true rfl) (fun E hE hQ => ?_)
  have out : ∀ lv, ¬ (inI r 0 3 ∧ n.toInt ≤ 10) → zJ E g nx 0 0 13 lv [] := by
    intro lv h
    refine z_ldc hE d_Od_row_13 cn_Od_47 ?_
    exact z_iret hE hQ d_Od_row_15 rfl (by omega) (by omega) (pO_of (if_neg h) (Nat.le_refl _) hV gX_r)
  refine z_iload_n hE d_Od_row_0 rfl ?_
  refine z_callS hE d_Od_row_1 cl_Od_153 (c_Od_isNoRow l g nx r) rfl (Nat.le_of_ble_eq_true rfl) ⟨by decide, by decide⟩ ⟨by omega, by omega⟩ (fun r_1 g_1 nx_1 hp_1 => ?_) rfl
  obtain ⟨rfl, rfl, rfl⟩ := hp_1
  try dsimp only [Option.toList, List.nil_append, List.cons_append]
  by_cases hr : inI r 0 3
  case neg =>
    rw [if_neg hr]
    refine z_if_ne (tgt := 13) hE d_Od_row_4 (by decide) (fun _ => ?_) (fun c_ => absurd c_ (by decide))
    exact out _ (fun q => hr q.1)
  rw [if_pos hr]
  refine z_if_ne (tgt := 13) hE d_Od_row_4 (by decide) (fun c_ => absurd c_ (by decide)) (fun _ => ?_)
  have i10 : (10 : Int32).toInt = 10 := by decide
  have i00 : (0 : Int32).toInt = 0 := rfl
  refine z_iload_n hE d_Od_row_7 rfl ?_
  refine z_bipush (v := (10 : Int32)) hE d_Od_row_8 (by decide) ?_
  refine z_icmp_le (tgt := 16) hE d_Od_row_10 (by decide) (fun c_10 => ?_) (fun c_10 => ?_)
  · rw [Int32.le_iff_toInt_le, i10] at c_10
    have hspec : spRow S r n = if n.toInt < 0 then tellS S 4 else doneS (sR S (fx r) n) n := if_pos ⟨hr, c_10⟩
    refine z_iload_n hE d_Od_row_16 rfl ?_
    refine z_if_ge (tgt := 26) hE d_Od_row_17 (by decide) (fun c_17 => ?_) (fun c_17 => ?_)
    · rw [Int32.le_iff_toInt_le, i00] at c_17
      rw [if_neg (by omega)] at hspec
      have hn : inI n 0 10 := ⟨c_17, c_10⟩
      obtain ⟨er, zr, hr2⟩ := fx_of hr (by omega) (by omega)
      obtain ⟨en, zn, hn2⟩ := fx_of hn (by omega) (by omega)
      obtain ⟨-, -, ⟨ro, g2, g2'⟩, g3, -⟩ := id hV
      obtain ⟨a1, h, a2, a3⟩ := g3 (fx r) (by omega)
      have a21 := a2.1
      have go : ∀ lv, lG lv 0 = some (.ref O) → lG lv 1 = some (.int (nI (fx r))) → lG lv 2 = some (.int (nI (fx n))) → zJ E g nx 0 0 26 lv [] := by
        intro lv l0 l1 l2
        refine z_sub (lv' := [(0, .ref O), (1, .int (nI (fx r))), (2, .int (nI (fx n)))]) (by simp only [List.map, l0, l1, l2]) ?_
        refine z_iload_n hE d_Od_row_26 rfl ?_
        refine z_if_lt (tgt := 58) hE d_Od_row_27 (by decide) (fun c_ => absurd c_ (nI_pos (by omega))) (fun _ => ?_)
        refine z_iload_n hE d_Od_row_30 rfl ?_
        refine z_aload_n hE d_Od_row_31 rfl ?_
        refine z_get hE d_Od_row_32 fl_Od_17 (by assumption) rfl ?_
        refine z_alen hE d_Od_row_35 (by assumption) (by decide) (rfl) ?_
        refine z_icmp_ge (tgt := 58) hE d_Od_row_36 (by decide) (fun c_ => absurd c_ (fun z => absurd ((nI_LE (a := 4) (b := fx r) (by omega) (by omega)).mp z) (by omega))) (fun _ => ?_)
        refine z_aload_n hE d_Od_row_39 rfl ?_
        refine z_get hE d_Od_row_40 fl_Od_17 (by assumption) rfl ?_
        refine z_iload_n hE d_Od_row_43 rfl ?_
        refine z_aald hE d_Od_row_44 (by assumption) (by decide) (nI_in' (by omega : fx r < 4) (by omega)) ?_
        rw [nI_cl (by omega), g2' (fx r) (by omega)]
        show zJ E g nx 0 0 45 _ [Value.ref (O + 3 + 2 * fx r)]
        refine z_ifnullR (tgt := 58) hE d_Od_row_45 (by decide) ?_
        refine z_aload_n hE d_Od_row_48 rfl ?_
        refine z_get hE d_Od_row_49 fl_Od_17 (by assumption) rfl ?_
        refine z_iload_n hE d_Od_row_52 rfl ?_
        refine z_aald hE d_Od_row_53 (by assumption) (by decide) (nI_in' (by omega : fx r < 4) (by omega)) ?_
        rw [nI_cl (by omega), g2' (fx r) (by omega)]
        show zJ E g nx 0 0 54 _ [Value.ref (O + 3 + 2 * fx r)]
        refine z_iload_n hE d_Od_row_54 rfl ?_
        refine z_callV hE d_Od_row_55 cl_Od_156 (c_Ro_empty l nx a2 (fx n) (by omega)) (by assumption) cb_Ro rfl (Nat.le_of_ble_eq_true rfl) ⟨by decide, by decide⟩ ⟨by omega, by omega⟩ (fun r_1 g_1 nx_1 hp_1 => ?_) rfl
        try dsimp only [Option.toList, List.nil_append, List.cons_append]
        obtain ⟨rfl, rfl, h', rfl, hh'⟩ := hp_1
        try dsimp only [Option.toList, List.nil_append, List.cons_append]
        have C1 : OV (gR g (O + 3 + 2 * fx r) (nI (fx n)) h') O nx (sR S (fx r) n) sg v w := OV_ro hV (by omega) rfl rfl (fun j hj hne => ⟨if_neg hne, fun k => if_neg hne⟩) ((if_pos rfl).trans en) (Or.inr ⟨fx n, by omega, rfl⟩) (fun k hk => Or.inl ⟨hh' k hk, if_pos rfl⟩)
        have m1 := C1.1
        have X1 : gX g (gR g (O + 3 + 2 * fx r) (nI (fx n)) h') O nx := fun q a _ => gR_o (by omega) (by omega)
        refine z_aload_n hE d_Od_row_58 rfl ?_
        refine z_iload_n hE d_Od_row_59 rfl ?_
        refine z_callV hE d_Od_row_60 cl_Od_70 (c_Od_done l C1 (nI (fx n))) (by assumption) cb_Od rfl (Nat.le_of_ble_eq_true rfl) ⟨by decide, by decide⟩ ⟨by omega, by omega⟩ (fun r_2 g_2 nx_2 hp_2 => ?_) rfl
        try dsimp only [Option.toList, List.nil_append, List.cons_append]
        obtain ⟨rfl, rfl, C2, W2⟩ := hp_2
        try dsimp only [Option.toList, List.nil_append, List.cons_append]
        exact z_iret hE hQ d_Od_row_63 rfl (by omega) (by omega) (pO_of (by rw [hspec]; unfold doneS; rw [← en]) (Nat.le_refl _) C2 (gX_t X1 (gX_W W2 (Nat.le_refl _) (by omega)) (Nat.le_refl nx)))
      exact go _ rfl (by rw [← er]; rfl) (by rw [← en]; rfl)
    · rw [Int32.le_iff_toInt_le, i00] at c_17
      rw [if_pos (by omega)] at hspec
      refine z_aload_n hE d_Od_row_20 rfl ?_
      refine z_iconst (v := 4) hE d_Od_row_21 (by decide) ?_
      refine z_callV hE d_Od_row_22 cl_Od_48 (c_Od_tell l hV 4) (by assumption) cb_Od rfl (Nat.le_of_ble_eq_true rfl) ⟨by decide, by decide⟩ ⟨by omega, by omega⟩ (fun r_1 g_1 nx_1 hp_1 => ?_) rfl
      try dsimp only [Option.toList, List.nil_append, List.cons_append]
      obtain ⟨rfl, rfl, C1, W1⟩ := hp_1
      try dsimp only [Option.toList, List.nil_append, List.cons_append]
      refine z_iret hE hQ d_Od_row_25 rfl (by omega) (by omega) (pO_of ?_ (Nat.le_refl _) C1 (gX_W W1 (Nat.le_refl _) (by omega)))
      exact hspec
  · rw [Int32.le_iff_toInt_le, i10] at c_10
    exact out _ (fun q => c_10 q.2)
theorem c_Od_put (l : Launch) {g : Gh} {nx O : Nat} {S : Sx} (hC : CW g O nx S) (r k a : Int32) : Ct l m_Od_put 0 0 [.ref O, .int r, .int k, .int a] g nx (pO g O nx (spPut S r k a)) := by
  obtain ⟨sg, v, w, hV⟩ := hC
  have h0 := hV.1
  refine Ct.of (by decide) (Nat.le_of_ble_eq_true rfl) (fun E hE hQ => ?_)
  have out : ∀ lv, ¬ (inI r 0 3 ∧ inI a 0 15) → zJ E g nx 0 0 14 lv [] := by
    intro lv h
    refine z_ldc hE d_Od_put_14 cn_Od_47 ?_
    exact z_iret hE hQ d_Od_put_16 rfl (by omega) (by omega) (pO_of (if_neg h) (Nat.le_refl _) hV gX_r)
  refine z_iload_n hE d_Od_put_0 rfl ?_
  refine z_callS hE d_Od_put_1 cl_Od_153 (c_Od_isNoRow l g nx r) rfl (Nat.le_of_ble_eq_true rfl) ⟨by decide, by decide⟩ ⟨by omega, by omega⟩ (fun r_1 g_1 nx_1 hp_1 => ?_) rfl
  obtain ⟨rfl, rfl, rfl⟩ := hp_1
  try dsimp only [Option.toList, List.nil_append, List.cons_append]
  by_cases hr : inI r 0 3
  case neg =>
    rw [if_neg hr]
    refine z_if_ne (tgt := 14) hE d_Od_put_4 (by decide) (fun _ => ?_) (fun c_ => absurd c_ (by decide))
    exact out _ (fun q => hr q.1)
  rw [if_pos hr]
  refine z_if_ne (tgt := 14) hE d_Od_put_4 (by decide) (fun c_ => absurd c_ (by decide)) (fun _ => ?_)
  refine z_iload_n hE d_Od_put_7 rfl ?_
  refine z_callS hE d_Od_put_8 cl_Od_43 (c_Od_isNoFraction l g nx a) rfl (Nat.le_of_ble_eq_true rfl) ⟨by decide, by decide⟩ ⟨by omega, by omega⟩ (fun r_8 g_8 nx_8 hp_8 => ?_) rfl
  obtain ⟨rfl, rfl, rfl⟩ := hp_8
  try dsimp only [Option.toList, List.nil_append, List.cons_append]
  by_cases ha : inI a 0 15
  case neg =>
    rw [if_neg ha]
    refine z_if_eq (tgt := 17) hE d_Od_put_11 (by decide) (fun c_ => absurd c_ (by decide)) (fun _ => ?_)
    exact out _ (fun q => ha q.2)
  rw [if_pos ha]
  refine z_if_eq (tgt := 17) hE d_Od_put_11 (by decide) (fun _ => ?_) (fun c_ => absurd c_ (by decide))
  obtain ⟨er, zr, hr2⟩ := fx_of hr (by omega) (by omega)
  obtain ⟨ea, za, ha2⟩ := fx_of ha (by omega) (by omega)
  have none1 : ∀ lv, (S.2.1 (fx r) = -1 ∨ S.1 (fx a) = none) → lG lv 0 = some (.ref O) → zJ E g nx 0 0 41 lv [] := by
    intro lv h l0
    refine z_sub (lv' := [(0, .ref O)]) (by simp only [List.map, l0]) ?_
    refine z_aload_n hE d_Od_put_41 rfl ?_
    refine z_iconst (v := 1) hE d_Od_put_42 (by decide) ?_
    refine z_callV hE d_Od_put_43 cl_Od_48 (c_Od_tell l hV 1) (by assumption) cb_Od rfl (Nat.le_of_ble_eq_true rfl) ⟨by decide, by decide⟩ ⟨by omega, by omega⟩ (fun r_1 g_1 nx_1 hp_1 => ?_) rfl
    try dsimp only [Option.toList, List.nil_append, List.cons_append]
    obtain ⟨rfl, rfl, C1, W1⟩ := hp_1
    try dsimp only [Option.toList, List.nil_append, List.cons_append]
    refine z_iret hE hQ d_Od_put_46 rfl (by omega) (by omega) (pO_of ?_ (Nat.le_refl _) C1 (gX_W W1 (Nat.le_refl _) (by omega)))
    unfold spPut
    rw [if_pos ⟨hr, ha⟩]
    cases hq : S.1 (fx a) with
    | none => rfl
    | some q =>
      rcases h with h | h
      · exact if_pos h
      · rw [hq] at h; cases h
  refine z_aload_n hE d_Od_put_17 rfl ?_
  refine z_iload_n hE d_Od_put_18 rfl ?_
  rw [er]
  refine z_callV hE d_Od_put_19 cl_Od_160 (c_Od_rowAt l hV (fx r) (by omega)) (by assumption) cb_Od rfl (Nat.le_of_ble_eq_true rfl) ⟨by decide, by decide⟩ ⟨by omega, by omega⟩ (fun r_1 g_1 nx_1 hp_1 => ?_) rfl
  try dsimp only [Option.toList, List.nil_append, List.cons_append]
  obtain ⟨rfl, rfl, H1⟩ := hp_1
  obtain ⟨x1, hx1⟩ : ∃ x : Option Nat, r_1 = some (va_rf x) := by
    rcases H1 with ⟨h, -⟩ | ⟨h, -⟩
    · exact ⟨none, h⟩
    · exact ⟨some _, h⟩
  subst hx1
  try dsimp only [Option.toList, List.nil_append, List.cons_append]
  refine z_astoreq hE d_Od_put_22 (by decide) ?_
  refine z_aload_n hE d_Od_put_24 rfl ?_
  refine z_iload_n hE d_Od_put_25 rfl ?_
  rw [ea]
  refine z_callV hE d_Od_put_26 cl_Od_59 (c_Od_fractionAt l hV (fx a) (by omega)) (by assumption) cb_Od rfl (Nat.le_of_ble_eq_true rfl) ⟨by decide, by decide⟩ ⟨by omega, by omega⟩ (fun r_2 g_2 nx_2 hp_2 => ?_) rfl
  try dsimp only [Option.toList, List.nil_append, List.cons_append]
  obtain ⟨rfl, rfl, H2⟩ := hp_2
  obtain ⟨x2, hx2⟩ : ∃ x : Option Nat, r_2 = some (va_rf x) := by
    rcases H2 with ⟨h, -⟩ | ⟨b, q, h, -⟩
    · exact ⟨none, h⟩
    · exact ⟨some b, h⟩
  subst hx2
  try dsimp only [Option.toList, List.nil_append, List.cons_append]
  refine z_astoreq hE d_Od_put_29 (by decide) ?_
  obtain ⟨hr1, hq1⟩ | ⟨hr1, hne, p, h, hp, hpe, hR, hH⟩ := H1
  case inl =>
    cases x1
    · refine z_aloadN hE d_Od_put_31 rfl ?_
      refine z_ifnullZ (tgt := 41) hE d_Od_put_33 (by decide) ?_
      exact none1 _ (Or.inl hq1) (by cases x2 <;> rfl)
    · cases hr1
  obtain rfl : x1 = some (O + 3 + 2 * fx r) := by cases x1; cases hr1; cases hr1; rfl
  obtain ⟨hr2, hq2⟩ | ⟨b, q, hr2, hq2, hK2⟩ := H2
  case inl =>
    cases x2
    · refine z_aload hE d_Od_put_31 rfl ?_
      refine z_ifnullR (tgt := 41) hE d_Od_put_33 (by decide) ?_
      refine z_aloadN hE d_Od_put_36 rfl ?_
      refine z_ifnonnullZ (tgt := 47) hE d_Od_put_38 (by decide) ?_
      exact none1 _ (Or.inr hq2) rfl
    · cases hr2
  obtain rfl : x2 = some b := by cases x2; cases hr2; cases hr2; rfl
  obtain ⟨k1, k2, ⟨N, M, k3⟩, k4⟩ := id hK2
  have k31 := k3.1
  have hR1 := hR.1
  have hspec : spPut S r k a = if 0 ≤ k.toInt ∧ k.toInt < (S.2.1 (fx r)).toInt then doneS (sP S (fx r) (fx k) (some q)) 1 else tellS S 3 := by unfold spPut; rw [if_pos ⟨hr, ha⟩, hq2]; exact if_neg hne
  rw [hpe, nI_ti (by omega)] at hspec
  refine z_aload hE d_Od_put_31 rfl ?_
  refine z_ifnullR (tgt := 41) hE d_Od_put_33 (by decide) ?_
  refine z_aload hE d_Od_put_36 rfl ?_
  refine z_ifnonnullR (tgt := 47) hE d_Od_put_38 (by decide) ?_
  refine z_aload hE d_Od_put_47 rfl ?_
  refine z_iload_n hE d_Od_put_49 rfl ?_
  refine z_iconst (v := 1) hE d_Od_put_50 (by decide) ?_
  refine z_callV hE d_Od_put_51 cl_Od_164 (c_Ro_hasPlaces l nx hR hp k 1) (by assumption) cb_Ro rfl (Nat.le_of_ble_eq_true rfl) ⟨by decide, by decide⟩ ⟨by omega, by omega⟩ (fun r_51 g_51 nx_51 hp_51 => ?_) rfl
  obtain ⟨rfl, rfl, rfl⟩ := hp_51
  try dsimp only [Option.toList, List.nil_append, List.cons_append]
  rw [show (1 : Int32).toInt = 1 from rfl]
  by_cases hk : 0 ≤ k.toInt ∧ (0 : Int) ≤ 1 ∧ k.toInt + 1 ≤ p
  case neg =>
    rw [if_neg hk]
    refine z_if_ne (tgt := 63) hE d_Od_put_54 (by decide) (fun c_ => absurd c_ (by decide)) (fun _ => ?_)
    refine z_aload_n hE d_Od_put_57 rfl ?_
    refine z_iconst (v := 3) hE d_Od_put_58 (by decide) ?_
    refine z_callV hE d_Od_put_59 cl_Od_48 (c_Od_tell l hV 3) (by assumption) cb_Od rfl (Nat.le_of_ble_eq_true rfl) ⟨by decide, by decide⟩ ⟨by omega, by omega⟩ (fun r_1 g_1 nx_1 hp_1 => ?_) rfl
    try dsimp only [Option.toList, List.nil_append, List.cons_append]
    obtain ⟨rfl, rfl, C1, W1⟩ := hp_1
    try dsimp only [Option.toList, List.nil_append, List.cons_append]
    refine z_iret hE hQ d_Od_put_62 rfl (by omega) (by omega) (pO_of ?_ (Nat.le_refl _) C1 (gX_W W1 (Nat.le_refl _) (by omega)))
    rw [hspec, if_neg (by omega)]; rfl
  rw [if_pos hk]
  refine z_if_ne (tgt := 63) hE d_Od_put_54 (by decide) (fun _ => ?_) (fun c_ => absurd c_ (by decide))
  rw [if_pos (by omega)] at hspec
  have hk' : inI k 0 9 := ⟨hk.1, by omega⟩
  obtain ⟨ek, zk, hk2⟩ := fx_of hk' (by omega) (by omega)
  refine z_aload hE d_Od_put_63 rfl ?_
  refine z_iload_n hE d_Od_put_65 rfl ?_
  refine z_aload hE d_Od_put_66 rfl ?_
  rw [ek]
  refine z_callV hE d_Od_put_68 cl_Od_168 (c_Ro_hold l nx hR (fx k) (by omega) (some b) (fun w hw => by cases hw; exact ⟨_, k31⟩)) (by assumption) cb_Ro rfl (Nat.le_of_ble_eq_true rfl) ⟨by decide, by decide⟩ ⟨by omega, by omega⟩ (fun r_68 g_68 nx_68 hp_68 => ?_) rfl
  obtain ⟨rfl, rfl, rfl⟩ := hp_68
  try dsimp only [Option.toList, List.nil_append, List.cons_append]
  have C1 : OV (gR g (O + 3 + 2 * fx r) (nI p) (va_up h (fx k) (some b))) O nx (sP S (fx r) (fx k) (some q)) sg v w := OV_ro hV (by omega) rfl rfl (fun j hj hne => ⟨rfl, fun k => if_neg (fun z => hne z.1)⟩) hpe (Or.inr ⟨p, hp, rfl⟩) (fun j hj => by
    show HQ g O nx (va_up h (fx k) (some b) j) (if fx r = fx r ∧ j = fx k then some q else S.2.2.1 (fx r) j)
    unfold va_up
    by_cases hjk : j = fx k
    · rw [if_pos hjk, if_pos ⟨rfl, hjk⟩]; exact Or.inr ⟨b, q, rfl, rfl, hK2⟩
    · rw [if_neg hjk, if_neg (fun z => hjk z.2)]; exact hH j hj)
  have m1 := C1.1
  have X1 : gX g (gR g (O + 3 + 2 * fx r) (nI p) (va_up h (fx k) (some b))) O nx := fun q a _ => gR_o (by omega) (by omega)
  refine z_aload_n hE d_Od_put_71 rfl ?_
  refine z_iconst (v := 1) hE d_Od_put_72 (by decide) ?_
  refine z_callV hE d_Od_put_73 cl_Od_70 (c_Od_done l C1 1) (by assumption) cb_Od rfl (Nat.le_of_ble_eq_true rfl) ⟨by decide, by decide⟩ ⟨by omega, by omega⟩ (fun r_4 g_4 nx_4 hp_4 => ?_) rfl
  try dsimp only [Option.toList, List.nil_append, List.cons_append]
  obtain ⟨rfl, rfl, C2, W2⟩ := hp_4
  try dsimp only [Option.toList, List.nil_append, List.cons_append]
  exact z_iret hE hQ d_Od_put_76 rfl (by omega) (by omega) (pO_of hspec (Nat.le_refl _) C2 (gX_t X1 (gX_W W2 (Nat.le_refl _) (by omega)) (Nat.le_refl nx)))
theorem c_Od_move (l : Launch) {g : Gh} {nx O : Nat} {S : Sx} (hC : CW g O nx S) (r i q j n : Int32) : Ct l m_Od_move 0 0 [.ref O, .int r, .int i, .int q, .int j, .int n] g nx (pO g O nx (spMove S r i q j n)) := by
  obtain ⟨sg, v, w, hV⟩ := hC
  have h0 := hV.1
  refine Ct.of (by decide) (Nat.le_of_ble_eq_true rfl) (fun E hE hQ => ?_)
  have out : ∀ lv, ¬ (inI r 0 3 ∧ inI q 0 3) → zJ E g nx 0 0 14 lv [] := by
    intro lv h
    refine z_ldc hE d_Od_move_14 cn_Od_47 ?_
    exact z_iret hE hQ d_Od_move_16 rfl (by omega) (by omega) (pO_of (if_neg h) (Nat.le_refl _) hV gX_r)
  refine z_iload_n hE d_Od_move_0 rfl ?_
  refine z_callS hE d_Od_move_1 cl_Od_153 (c_Od_isNoRow l g nx r) rfl (Nat.le_of_ble_eq_true rfl) ⟨by decide, by decide⟩ ⟨by omega, by omega⟩ (fun r_1 g_1 nx_1 hp_1 => ?_) rfl
  obtain ⟨rfl, rfl, rfl⟩ := hp_1
  try dsimp only [Option.toList, List.nil_append, List.cons_append]
  by_cases hr : inI r 0 3
  case neg =>
    rw [if_neg hr]
    refine z_if_ne (tgt := 14) hE d_Od_move_4 (by decide) (fun _ => ?_) (fun c_ => absurd c_ (by decide))
    exact out _ (fun z => hr z.1)
  rw [if_pos hr]
  refine z_if_ne (tgt := 14) hE d_Od_move_4 (by decide) (fun c_ => absurd c_ (by decide)) (fun _ => ?_)
  refine z_iload_n hE d_Od_move_7 rfl ?_
  refine z_callS hE d_Od_move_8 cl_Od_153 (c_Od_isNoRow l g nx q) rfl (Nat.le_of_ble_eq_true rfl) ⟨by decide, by decide⟩ ⟨by omega, by omega⟩ (fun r_8 g_8 nx_8 hp_8 => ?_) rfl
  obtain ⟨rfl, rfl, rfl⟩ := hp_8
  try dsimp only [Option.toList, List.nil_append, List.cons_append]
  by_cases hq : inI q 0 3
  case neg =>
    rw [if_neg hq]
    refine z_if_eq (tgt := 17) hE d_Od_move_11 (by decide) (fun c_ => absurd c_ (by decide)) (fun _ => ?_)
    exact out _ (fun z => hq z.2)
  rw [if_pos hq]
  refine z_if_eq (tgt := 17) hE d_Od_move_11 (by decide) (fun _ => ?_) (fun c_ => absurd c_ (by decide))
  obtain ⟨er, zr, hr2⟩ := fx_of hr (by omega) (by omega)
  obtain ⟨eq, zq, hq2⟩ := fx_of hq (by omega) (by omega)
  have none1 : ∀ lv, (S.2.1 (fx r) = -1 ∨ S.2.1 (fx q) = -1) → lG lv 0 = some (.ref O) → zJ E g nx 0 0 41 lv [] := by
    intro lv h l0
    refine z_sub (lv' := [(0, .ref O)]) (by simp only [List.map, l0]) ?_
    refine z_aload_n hE d_Od_move_41 rfl ?_
    refine z_iconst (v := 1) hE d_Od_move_42 (by decide) ?_
    refine z_callV hE d_Od_move_43 cl_Od_48 (c_Od_tell l hV 1) (by assumption) cb_Od rfl (Nat.le_of_ble_eq_true rfl) ⟨by decide, by decide⟩ ⟨by omega, by omega⟩ (fun r_1 g_1 nx_1 hp_1 => ?_) rfl
    try dsimp only [Option.toList, List.nil_append, List.cons_append]
    obtain ⟨rfl, rfl, C1, W1⟩ := hp_1
    try dsimp only [Option.toList, List.nil_append, List.cons_append]
    refine z_iret hE hQ d_Od_move_46 rfl (by omega) (by omega) (pO_of ?_ (Nat.le_refl _) C1 (gX_W W1 (Nat.le_refl _) (by omega)))
    unfold spMove; rw [if_pos ⟨hr, hq⟩]; exact if_pos h
  refine z_aload_n hE d_Od_move_17 rfl ?_
  refine z_iload_n hE d_Od_move_18 rfl ?_
  rw [er]
  refine z_callV hE d_Od_move_19 cl_Od_160 (c_Od_rowAt l hV (fx r) (by omega)) (by assumption) cb_Od rfl (Nat.le_of_ble_eq_true rfl) ⟨by decide, by decide⟩ ⟨by omega, by omega⟩ (fun r_1 g_1 nx_1 hp_1 => ?_) rfl
  try dsimp only [Option.toList, List.nil_append, List.cons_append]
  obtain ⟨rfl, rfl, H1⟩ := hp_1
  obtain ⟨x1, hx1⟩ : ∃ x : Option Nat, r_1 = some (va_rf x) := by
    rcases H1 with ⟨h, -⟩ | ⟨h, -⟩
    · exact ⟨none, h⟩
    · exact ⟨some _, h⟩
  subst hx1
  try dsimp only [Option.toList, List.nil_append, List.cons_append]
  refine z_astoreq hE d_Od_move_22 (by decide) ?_
  refine z_aload_n hE d_Od_move_24 rfl ?_
  refine z_iload_n hE d_Od_move_25 rfl ?_
  rw [eq]
  refine z_callV hE d_Od_move_26 cl_Od_160 (c_Od_rowAt l hV (fx q) (by omega)) (by assumption) cb_Od rfl (Nat.le_of_ble_eq_true rfl) ⟨by decide, by decide⟩ ⟨by omega, by omega⟩ (fun r_2 g_2 nx_2 hp_2 => ?_) rfl
  try dsimp only [Option.toList, List.nil_append, List.cons_append]
  obtain ⟨rfl, rfl, H2⟩ := hp_2
  obtain ⟨x2, hx2⟩ : ∃ x : Option Nat, r_2 = some (va_rf x) := by
    rcases H2 with ⟨h, -⟩ | ⟨h, -⟩
    · exact ⟨none, h⟩
    · exact ⟨some _, h⟩
  subst hx2
  try dsimp only [Option.toList, List.nil_append, List.cons_append]
  refine z_astoreq hE d_Od_move_29 (by decide) ?_
  obtain ⟨hr1, hq1⟩ | ⟨hr1, hne1, p, h, hp, hpe, hR, hH⟩ := H1
  case inl =>
    cases x1
    · refine z_aloadN hE d_Od_move_31 rfl ?_
      refine z_ifnullZ (tgt := 41) hE d_Od_move_33 (by decide) ?_
      exact none1 _ (Or.inl hq1) (by cases x2 <;> rfl)
    · cases hr1
  obtain rfl : x1 = some (O + 3 + 2 * fx r) := by cases x1; cases hr1; cases hr1; rfl
  obtain ⟨hr2, hq2⟩ | ⟨hr2, hne2, p2, h2, hp2, hpe2, hR2, hH2⟩ := H2
  case inl =>
    cases x2
    · refine z_aload hE d_Od_move_31 rfl ?_
      refine z_ifnullR (tgt := 41) hE d_Od_move_33 (by decide) ?_
      refine z_aloadN hE d_Od_move_36 rfl ?_
      refine z_ifnonnullZ (tgt := 47) hE d_Od_move_38 (by decide) ?_
      exact none1 _ (Or.inr hq2) rfl
    · cases hr2
  obtain rfl : x2 = some (O + 3 + 2 * fx q) := by cases x2; cases hr2; cases hr2; rfl
  have hR1 := hR.1
  have hR21 := hR2.1
  have hspec : spMove S r i q j n = if (0 ≤ i.toInt ∧ 0 ≤ n.toInt ∧ i.toInt + n.toInt ≤ (S.2.1 (fx r)).toInt) ∧ 0 ≤ j.toInt ∧ 0 ≤ n.toInt ∧ j.toInt + n.toInt ≤ (S.2.1 (fx q)).toInt then doneS (sM S (fx r) (fx i) (fx q) (fx j) (fx n)) n else tellS S 3 := by unfold spMove; rw [if_pos ⟨hr, hq⟩]; exact if_neg (fun z => z.elim hne1 hne2)
  rw [hpe, hpe2, nI_ti (by omega), nI_ti (by omega)] at hspec
  have bad : ∀ lv, ¬ ((0 ≤ i.toInt ∧ 0 ≤ n.toInt ∧ i.toInt + n.toInt ≤ (p : Int)) ∧ 0 ≤ j.toInt ∧ 0 ≤ n.toInt ∧ j.toInt + n.toInt ≤ (p2 : Int)) → lG lv 0 = some (.ref O) → zJ E g nx 0 0 70 lv [] := by
    intro lv h l0
    refine z_sub (lv' := [(0, .ref O)]) (by simp only [List.map, l0]) ?_
    refine z_aload_n hE d_Od_move_70 rfl ?_
    refine z_iconst (v := 3) hE d_Od_move_71 (by decide) ?_
    refine z_callV hE d_Od_move_72 cl_Od_48 (c_Od_tell l hV 3) (by assumption) cb_Od rfl (Nat.le_of_ble_eq_true rfl) ⟨by decide, by decide⟩ ⟨by omega, by omega⟩ (fun r_1 g_1 nx_1 hp_1 => ?_) rfl
    try dsimp only [Option.toList, List.nil_append, List.cons_append]
    obtain ⟨rfl, rfl, C1, W1⟩ := hp_1
    try dsimp only [Option.toList, List.nil_append, List.cons_append]
    refine z_iret hE hQ d_Od_move_75 rfl (by omega) (by omega) (pO_of ?_ (Nat.le_refl _) C1 (gX_W W1 (Nat.le_refl _) (by omega)))
    rw [hspec, if_neg h]; rfl
  refine z_aload hE d_Od_move_31 rfl ?_
  refine z_ifnullR (tgt := 41) hE d_Od_move_33 (by decide) ?_
  refine z_aload hE d_Od_move_36 rfl ?_
  refine z_ifnonnullR (tgt := 47) hE d_Od_move_38 (by decide) ?_
  refine z_aload hE d_Od_move_47 rfl ?_
  refine z_iload_n hE d_Od_move_49 rfl ?_
  refine z_iload hE d_Od_move_50 rfl ?_
  refine z_callV hE d_Od_move_52 cl_Od_164 (c_Ro_hasPlaces l nx hR hp i n) (by assumption) cb_Ro rfl (Nat.le_of_ble_eq_true rfl) ⟨by decide, by decide⟩ ⟨by omega, by omega⟩ (fun r_52 g_52 nx_52 hp_52 => ?_) rfl
  obtain ⟨rfl, rfl, rfl⟩ := hp_52
  try dsimp only [Option.toList, List.nil_append, List.cons_append]
  by_cases hi : 0 ≤ i.toInt ∧ 0 ≤ n.toInt ∧ i.toInt + n.toInt ≤ (p : Int)
  case neg =>
    rw [if_neg hi]
    refine z_if_eq (tgt := 70) hE d_Od_move_55 (by decide) (fun _ => ?_) (fun c_ => absurd c_ (by decide))
    exact bad _ (fun z => hi z.1) rfl
  rw [if_pos hi]
  refine z_if_eq (tgt := 70) hE d_Od_move_55 (by decide) (fun c_ => absurd c_ (by decide)) (fun _ => ?_)
  refine z_aload hE d_Od_move_58 rfl ?_
  refine z_iload hE d_Od_move_60 rfl ?_
  refine z_iload hE d_Od_move_62 rfl ?_
  refine z_callV hE d_Od_move_64 cl_Od_164 (c_Ro_hasPlaces l nx hR2 hp2 j n) (by assumption) cb_Ro rfl (Nat.le_of_ble_eq_true rfl) ⟨by decide, by decide⟩ ⟨by omega, by omega⟩ (fun r_64 g_64 nx_64 hp_64 => ?_) rfl
  obtain ⟨rfl, rfl, rfl⟩ := hp_64
  try dsimp only [Option.toList, List.nil_append, List.cons_append]
  by_cases hj : 0 ≤ j.toInt ∧ 0 ≤ n.toInt ∧ j.toInt + n.toInt ≤ (p2 : Int)
  case neg =>
    rw [if_neg hj]
    refine z_if_ne (tgt := 76) hE d_Od_move_67 (by decide) (fun c_ => absurd c_ (by decide)) (fun _ => ?_)
    exact bad _ (fun z => hj z.2) rfl
  rw [if_pos hj]
  refine z_if_ne (tgt := 76) hE d_Od_move_67 (by decide) (fun _ => ?_) (fun c_ => absurd c_ (by decide))
  rw [if_pos ⟨hi, hj⟩] at hspec
  obtain ⟨ei, zi, hi2⟩ := fx_of (x := i) (a := 0) (b := 10) ⟨hi.1, by omega⟩ (by omega) (by omega)
  obtain ⟨ej, zj, hj2⟩ := fx_of (x := j) (a := 0) (b := 10) ⟨hj.1, by omega⟩ (by omega) (by omega)
  obtain ⟨en, zn, hn2⟩ := fx_of (x := n) (a := 0) (b := 10) ⟨hi.2.1, by omega⟩ (by omega) (by omega)
  have go : ∀ lv, lG lv 0 = some (.ref O) → lG lv 2 = some (.int (nI (fx i))) → lG lv 4 = some (.int (nI (fx j))) → lG lv 5 = some (.int (nI (fx n))) → lG lv 6 = some (.ref (O + 3 + 2 * fx r)) → lG lv 7 = some (.ref (O + 3 + 2 * fx q)) → zJ E g nx 0 0 76 lv [] := by
    intro lv l0 l2 l4 l5 l6 l7
    refine z_sub (lv' := [(0, .ref O), (2, .int (nI (fx i))), (4, .int (nI (fx j))), (5, .int (nI (fx n))), (6, .ref (O + 3 + 2 * fx r)), (7, .ref (O + 3 + 2 * fx q))]) (by simp only [List.map, l0, l2, l4, l5, l6, l7]) ?_
    have hfr : ∀ k, k < 10 → ∀ w, h k = some w → ∃ vs, g w = some (.inr (1, vs)) := by
      intro k hk w hw
      rcases hH k hk with ⟨z1, z2⟩ | ⟨a1, q1, z1, z2, z3⟩
      · rw [z1] at hw; cases hw
      · rw [z1] at hw; cases hw; obtain ⟨_, _, ⟨_, _, y⟩, _⟩ := z3; exact ⟨_, y.1⟩
    refine z_aload hE d_Od_move_76 rfl ?_
    refine z_iload hE d_Od_move_78 rfl ?_
    refine z_aload hE d_Od_move_80 rfl ?_
    refine z_iload_n hE d_Od_move_82 rfl ?_
    refine z_iload hE d_Od_move_83 rfl ?_
    refine z_callV hE d_Od_move_85 cl_Od_171 (c_Ro_take l nx (i := fx i) (j := fx j) (n := fx n) hR2 hR (by omega) (by omega) hfr) (by assumption) cb_Ro rfl (Nat.le_of_ble_eq_true rfl) ⟨by decide, by decide⟩ ⟨by omega, by omega⟩ (fun r_3 g_3 nx_3 hp_3 => ?_) rfl
    try dsimp only [Option.toList, List.nil_append, List.cons_append]
    obtain ⟨rfl, rfl, h', rfl, hh'⟩ := hp_3
    try dsimp only [Option.toList, List.nil_append, List.cons_append]
    have C1 : OV (gR g (O + 3 + 2 * fx q) (nI p2) h') O nx (sM S (fx r) (fx i) (fx q) (fx j) (fx n)) sg v w := OV_ro hV (by omega) rfl rfl (fun j hj hne => ⟨rfl, fun k => if_neg (fun z => hne z.1)⟩) hpe2 (Or.inr ⟨p2, hp2, rfl⟩) (fun x hx => by
      show HQ g O nx (h' x) (if fx q = fx q ∧ fx j ≤ x ∧ x < fx j + fx n then S.2.2.1 (fx r) (fx i + (x - fx j)) else S.2.2.1 (fx q) x)
      rw [hh' x]
      by_cases hjk : fx j ≤ x ∧ x < fx j + fx n
      · rw [if_pos hjk, if_pos ⟨rfl, hjk⟩]; exact hH _ (by omega)
      · rw [if_neg hjk, if_neg (fun z => hjk z.2)]; exact hH2 x hx)
    have m1 := C1.1
    have X1 : gX g (gR g (O + 3 + 2 * fx q) (nI p2) h') O nx := fun q a _ => gR_o (by omega) (by omega)
    refine z_aload_n hE d_Od_move_88 rfl ?_
    refine z_iload hE d_Od_move_89 rfl ?_
    refine z_callV hE d_Od_move_91 cl_Od_70 (c_Od_done l C1 (nI (fx n))) (by assumption) cb_Od rfl (Nat.le_of_ble_eq_true rfl) ⟨by decide, by decide⟩ ⟨by omega, by omega⟩ (fun r_4 g_4 nx_4 hp_4 => ?_) rfl
    try dsimp only [Option.toList, List.nil_append, List.cons_append]
    obtain ⟨rfl, rfl, C2, W2⟩ := hp_4
    try dsimp only [Option.toList, List.nil_append, List.cons_append]
    exact z_iret hE hQ d_Od_move_94 rfl (by omega) (by omega) (pO_of (by rw [hspec]; unfold doneS; rw [← en]) (Nat.le_refl _) C2 (gX_t X1 (gX_W W2 (Nat.le_refl _) (by omega)) (Nat.le_refl nx)))
  exact go _ rfl (by rw [← ei]; rfl) (by rw [← ej]; rfl) (by rw [← en]; rfl) rfl rfl
theorem c_Od_filled (l : Launch) {g : Gh} {nx O : Nat} {S : Sx} (hC : CW g O nx S) (r : Int32) : Ct l m_Od_filled 0 0 [.ref O, .int r] g nx (pO g O nx (spFilled S r)) := by
  obtain ⟨sg, v, w, hV⟩ := hC
  have h0 := hV.1
  refine Ct.of (by decide) (Nat.le_of_ble_eq_true rfl) (fun E hE hQ => ?_)
  have out : ∀ lv, ¬ inI r 0 3 → zJ E g nx 0 0 7 lv [] := by
    intro lv h
    refine z_ldc hE d_Od_filled_7 cn_Od_47 ?_
    exact z_iret hE hQ d_Od_filled_9 rfl (by omega) (by omega) (pO_of (if_neg h) (Nat.le_refl _) hV gX_r)
  refine z_iload_n hE d_Od_filled_0 rfl ?_
  refine z_callS hE d_Od_filled_1 cl_Od_153 (c_Od_isNoRow l g nx r) rfl (Nat.le_of_ble_eq_true rfl) ⟨by decide, by decide⟩ ⟨by omega, by omega⟩ (fun r_1 g_1 nx_1 hp_1 => ?_) rfl
  obtain ⟨rfl, rfl, rfl⟩ := hp_1
  try dsimp only [Option.toList, List.nil_append, List.cons_append]
  by_cases hr : inI r 0 3
  case neg =>
    rw [if_neg hr]
    refine z_if_eq (tgt := 10) hE d_Od_filled_4 (by decide) (fun c_ => absurd c_ (by decide)) (fun _ => ?_)
    exact out _ (fun q => hr q)
  rw [if_pos hr]
  refine z_if_eq (tgt := 10) hE d_Od_filled_4 (by decide) (fun _ => ?_) (fun c_ => absurd c_ (by decide))
  obtain ⟨er, zr, hr2⟩ := fx_of hr (by omega) (by omega)
  refine z_aload_n hE d_Od_filled_10 rfl ?_
  refine z_iload_n hE d_Od_filled_11 rfl ?_
  rw [er]
  refine z_callV hE d_Od_filled_12 cl_Od_160 (c_Od_rowAt l hV (fx r) (by omega)) (by assumption) cb_Od rfl (Nat.le_of_ble_eq_true rfl) ⟨by decide, by decide⟩ ⟨by omega, by omega⟩ (fun r_1 g_1 nx_1 hp_1 => ?_) rfl
  try dsimp only [Option.toList, List.nil_append, List.cons_append]
  obtain ⟨rfl, rfl, H1⟩ := hp_1
  obtain ⟨x1, hx1⟩ : ∃ x : Option Nat, r_1 = some (va_rf x) := by
    rcases H1 with ⟨h, -⟩ | ⟨h, -⟩
    · exact ⟨none, h⟩
    · exact ⟨some _, h⟩
  subst hx1
  try dsimp only [Option.toList, List.nil_append, List.cons_append]
  refine z_astore_nq hE d_Od_filled_15 rfl (by decide) ?_
  obtain ⟨hr1, hq1⟩ | ⟨hr1, hne1, p, h, hp, hpe, hR, hH⟩ := H1
  case inl =>
    cases x1
    · refine z_aload_nN hE d_Od_filled_16 rfl ?_
      refine z_ifnonnullZ (tgt := 26) hE d_Od_filled_17 (by decide) ?_
      refine z_aload_n hE d_Od_filled_20 rfl ?_
      refine z_iconst (v := 1) hE d_Od_filled_21 (by decide) ?_
      refine z_callV hE d_Od_filled_22 cl_Od_48 (c_Od_tell l hV 1) (by assumption) cb_Od rfl (Nat.le_of_ble_eq_true rfl) ⟨by decide, by decide⟩ ⟨by omega, by omega⟩ (fun r_1 g_1 nx_1 hp_1 => ?_) rfl
      try dsimp only [Option.toList, List.nil_append, List.cons_append]
      obtain ⟨rfl, rfl, C1, W1⟩ := hp_1
      try dsimp only [Option.toList, List.nil_append, List.cons_append]
      refine z_iret hE hQ d_Od_filled_25 rfl (by omega) (by omega) (pO_of ?_ (Nat.le_refl _) C1 (gX_W W1 (Nat.le_refl _) (by omega)))
      unfold spFilled; rw [if_pos hr]; exact if_pos hq1
    · cases hr1
  obtain rfl : x1 = some (O + 3 + 2 * fx r) := by cases x1; cases hr1; cases hr1; rfl
  have hR1 := hR.1
  refine z_aload_n hE d_Od_filled_16 rfl ?_
  refine z_ifnonnullR (tgt := 26) hE d_Od_filled_17 (by decide) ?_
  refine z_aload_n hE d_Od_filled_26 rfl ?_
  refine z_aload_n hE d_Od_filled_27 rfl ?_
  refine z_callV hE d_Od_filled_28 cl_Od_175 (c_Ro_countHeld l nx hR hp) (by assumption) cb_Ro rfl (Nat.le_of_ble_eq_true rfl) ⟨by decide, by decide⟩ ⟨by omega, by omega⟩ (fun r_28 g_28 nx_28 hp_28 => ?_) rfl
  obtain ⟨rfl, rfl, rfl⟩ := hp_28
  try dsimp only [Option.toList, List.nil_append, List.cons_append]
  refine z_callV hE d_Od_filled_31 cl_Od_70 (c_Od_done l hV (nI (cntH h p))) (by assumption) cb_Od rfl (Nat.le_of_ble_eq_true rfl) ⟨by decide, by decide⟩ ⟨by omega, by omega⟩ (fun r_4 g_4 nx_4 hp_4 => ?_) rfl
  try dsimp only [Option.toList, List.nil_append, List.cons_append]
  obtain ⟨rfl, rfl, C2, W2⟩ := hp_4
  try dsimp only [Option.toList, List.nil_append, List.cons_append]
  exact z_iret hE hQ d_Od_filled_34 rfl (by omega) (by omega) (pO_of (by unfold spFilled; rw [if_pos hr, if_neg hne1, hpe, fx_nI (by omega), cnt_cntH (fun k hk => hH k (by omega))]; rfl) (Nat.le_refl _) C2 (gX_W W2 (Nat.le_refl _) (by omega)))
theorem c_Od_addUpRow (l : Launch) {g : Gh} {nx O : Nat} {S : Sx} {sg : Int32} {v w : Nat → Nat} (hV : OV g O nx S sg v w) (r : Nat) (hr : r < 4) : Ct l m_Od_addUpRow 0 0 [.ref O, .int (nI r)] g nx (fun z g' nx' => nx = nx' ∧ gW g g' (O + 11) (O + 11 + 25) ∧ ∃ s' v', OV g' O nx S s' v' w ∧ ((S.2.1 r = -1 ∨ cntQ (S.2.2.1 r) (fx (S.2.1 r)) < fx (S.2.1 r)) ∧ z = some (.int 1) ∨ ¬ (S.2.1 r = -1 ∨ cntQ (S.2.2.1 r) (fx (S.2.1 r)) < fx (S.2.1 r)) ∧ (sq (S.2.2.1 r) (fx (S.2.1 r)) = none ∧ z = some (.int 6) ∨ ∃ t, sq (S.2.2.1 r) (fx (S.2.1 r)) = some t ∧ QOK t ∧ QW t ∧ t = (s', v' 2, v' 4) ∧ z = some (.int 0)))) := by
  have h0 := hV.1
  refine Ct.of (by decide) (Nat.le_of_ble_eq_true rfl) (fun E hE hQ => ?_)
  have no : ∀ lv, (S.2.1 r = -1 ∨ cntQ (S.2.2.1 r) (fx (S.2.1 r)) < fx (S.2.1 r)) → zJ E g nx 0 0 21 lv [] := by
    intro lv h
    refine z_iconst (v := 1) hE d_Od_addUpRow_21 (by decide) ?_
    exact z_iret hE hQ d_Od_addUpRow_22 rfl (by omega) (by omega) ⟨rfl, gW_r, sg, v, hV, Or.inl ⟨h, rfl⟩⟩
  refine z_aload_n hE d_Od_addUpRow_0 rfl ?_
  refine z_iload_n hE d_Od_addUpRow_1 rfl ?_
  refine z_callV hE d_Od_addUpRow_2 cl_Od_160 (c_Od_rowAt l hV r hr) (by assumption) cb_Od rfl (Nat.le_of_ble_eq_true rfl) ⟨by decide, by decide⟩ ⟨by omega, by omega⟩ (fun r_1 g_1 nx_1 hp_1 => ?_) rfl
  try dsimp only [Option.toList, List.nil_append, List.cons_append]
  obtain ⟨rfl, rfl, ⟨rfl, hq1⟩ | ⟨rfl, hne1, p, h, hp, hpe, hR, hH⟩⟩ := hp_1
  case inl =>
    try dsimp only [Option.toList, List.nil_append, List.cons_append]
    refine z_astore_nN hE d_Od_addUpRow_5 rfl (by decide) ?_
    refine z_aload_nN hE d_Od_addUpRow_6 rfl ?_
    refine z_ifnullZ (tgt := 21) hE d_Od_addUpRow_7 (by decide) ?_
    exact no _ (Or.inl hq1)
  try dsimp only [Option.toList, List.nil_append, List.cons_append]
  have hR1 := hR.1
  refine z_astore_n hE d_Od_addUpRow_5 rfl (by decide) ?_
  refine z_aload_n hE d_Od_addUpRow_6 rfl ?_
  refine z_ifnullR (tgt := 21) hE d_Od_addUpRow_7 (by decide) ?_
  refine z_aload_n hE d_Od_addUpRow_10 rfl ?_
  refine z_callV hE d_Od_addUpRow_11 cl_Od_175 (c_Ro_countHeld l nx hR hp) (by assumption) cb_Ro rfl (Nat.le_of_ble_eq_true rfl) ⟨by decide, by decide⟩ ⟨by omega, by omega⟩ (fun r_11 g_11 nx_11 hp_11 => ?_) rfl
  obtain ⟨rfl, rfl, rfl⟩ := hp_11
  try dsimp only [Option.toList, List.nil_append, List.cons_append]
  rw [cnt_cntH (fun k hk => hH k (by omega))]
  have hcl := cntQ_le (S.2.2.1 r) p
  refine z_aload_n hE d_Od_addUpRow_14 rfl ?_
  refine z_getN hE d_Od_addUpRow_15 fl_Od_193 (by assumption) rfl ?_
  have hfe : fx (S.2.1 r) = p := by rw [hpe, fx_nI (by omega)]
  rw [hfe] at hQ no
  by_cases hc : cntQ (S.2.2.1 r) p < p
  case pos =>
    refine z_icmp_ge (tgt := 23) hE d_Od_addUpRow_18 (by decide) (fun c_ => absurd c_ (fun z => absurd ((nI_LE (by omega) (by omega)).mp z) (by omega))) (fun _ => ?_)
    exact no _ (Or.inr hc)
  refine z_icmp_ge (tgt := 23) hE d_Od_addUpRow_18 (by decide) (fun _ => ?_) (fun c_ => absurd c_ (fun z => z ((nI_LE (by omega) (by omega)).mpr (by omega))))
  have hno : ¬ (S.2.1 r = -1 ∨ cntQ (S.2.2.1 r) p < p) := fun z => z.elim hne1 hc
  have R1 := hV.2.2.2.2.1
  have R11 := R1.1
  unfold RE at R11
  have F1 := RV_F R1
  have F11 := F1.1
  refine z_aload_n hE d_Od_addUpRow_23 rfl ?_
  refine z_get hE d_Od_addUpRow_24 fl_Od_25 (by assumption) rfl ?_
  refine z_getN hE d_Od_addUpRow_27 fl_Od_182 (by assumption) rfl ?_
  refine z_astore_n hE d_Od_addUpRow_30 rfl (by decide) ?_
  refine z_aload_n hE d_Od_addUpRow_31 rfl ?_
  refine z_lconst (v := (0 : Int64)) hE d_Od_addUpRow_32 (by decide) ?_
  refine z_callV hE d_Od_addUpRow_33 cl_Od_189 (c_Fr_becomeWhole l nx F1 0) (by assumption) cb_Fr rfl (Nat.le_of_ble_eq_true rfl) ⟨by decide, by decide⟩ ⟨by omega, by omega⟩ (fun r_2 g_2 nx_2 hp_2 => ?_) rfl
  try dsimp only [Option.toList, List.nil_append, List.cons_append]
  obtain ⟨rfl, rfl, F2, W2⟩ := hp_2
  try dsimp only [Option.toList, List.nil_append, List.cons_append]
  obtain ⟨v2, V2, e2, e4⟩ := RV_FR R1 F2 W2
  have W2' : gW g g_2 (O + 11) (O + 11 + 25) := gW_le W2 (by omega) (by omega)
  have C2 := OV_re hV W2' V2
  have loop : ∀ (u k : Nat) (g3 : Gh) (s3 : Int32) (v3 : Nat → Nat) (t : Qf), k + u = p → OV g3 O nx S s3 v3 w → gW g g3 (O + 11) (O + 11 + 25) → sq (S.2.2.1 r) k = some t → QOK t → QW t → t = (s3, v3 2, v3 4) → ∀ lv, lG lv 0 = some (.ref O) → lG lv 2 = some (.ref (O + 3 + 2 * r)) → lG lv 3 = some (.ref (O + 11 + 1)) → lG lv 4 = some (.int (nI k)) → zJ E g3 nx 0 0 39 lv [] := by
    intro u
    induction u with
    | zero =>
      intro k g3 s3 v3 t hk C3 W3 hs ht hw e lv l0 l2 l3 l4
      refine z_sub (lv' := [(0, .ref O), (2, .ref (O + 3 + 2 * r)), (3, .ref (O + 11 + 1)), (4, .int (nI k))]) (by simp only [List.map, l0, l2, l3, l4]) ?_
      have hR3 : RO g3 (O + 3 + 2 * r) (nI p) h := RO_E hR (fun q a b => W3 q (by omega))
      have hR31 := hR3.1
      have hkp : k = p := by omega
      subst hkp
      refine z_iload hE d_Od_addUpRow_39 rfl ?_
      refine z_aload_n hE d_Od_addUpRow_41 rfl ?_
      refine z_getN hE d_Od_addUpRow_42 fl_Od_193 (by assumption) rfl ?_
      refine z_icmp_ge (tgt := 94) hE d_Od_addUpRow_45 (by decide) (fun _ => ?_) (fun c_ => absurd c_ (fun z => z ((nI_LE (by omega) (by omega)).mpr (Nat.le_refl _))))
      refine z_iconst (v := 0) hE d_Od_addUpRow_94 (by decide) ?_
      exact z_iret hE hQ d_Od_addUpRow_95 rfl (by omega) (by omega) ⟨rfl, W3, s3, v3, C3, Or.inr ⟨hno, Or.inr ⟨t, hs, ht, hw, e, rfl⟩⟩⟩
    | succ u ih =>
      intro k g3 s3 v3 t hk C3 W3 hs ht hw e lv l0 l2 l3 l4
      refine z_sub (lv' := [(0, .ref O), (2, .ref (O + 3 + 2 * r)), (3, .ref (O + 11 + 1)), (4, .int (nI k))]) (by simp only [List.map, l0, l2, l3, l4]) ?_
      have hR3 : RO g3 (O + 3 + 2 * r) (nI p) h := RO_E hR (fun q a b => W3 q (by omega))
      have hR31 := hR3.1
      have m3 := C3.1
      have V3 := C3.2.2.2.2.1
      have V31 := V3.1
      unfold RE at V31
      have F3 := RV_F V3
      have F31 := F3.1
      refine z_iload hE d_Od_addUpRow_39 rfl ?_
      refine z_aload_n hE d_Od_addUpRow_41 rfl ?_
      refine z_getN hE d_Od_addUpRow_42 fl_Od_193 (by assumption) rfl ?_
      refine z_icmp_ge (tgt := 94) hE d_Od_addUpRow_45 (by decide) (fun c_ => absurd c_ (fun z => absurd ((nI_LE (by omega) (by omega)).mp z) (by omega))) (fun _ => ?_)
      refine z_aload_n hE d_Od_addUpRow_48 rfl ?_
      refine z_iload hE d_Od_addUpRow_49 rfl ?_
      refine z_callV hE d_Od_addUpRow_51 cl_Od_196 (c_Ro_heldAt l nx hR3 k (by omega)) (by assumption) cb_Ro rfl (Nat.le_of_ble_eq_true rfl) ⟨by decide, by decide⟩ ⟨by omega, by omega⟩ (fun r_51 g_51 nx_51 hp_51 => ?_) rfl
      obtain ⟨rfl, rfl, rfl⟩ := hp_51
      try dsimp only [Option.toList, List.nil_append, List.cons_append]
      rcases hH k (by omega) with ⟨z1, z2⟩ | ⟨b, q, z1, z2, z3⟩
      case inl =>
        exact absurd (cntQ_none z2 (by omega : k < p)) (by omega)
      rw [z1]
      show zJ E g3 nx 0 0 54 _ [Value.ref b]
      obtain ⟨k1, k2, ⟨N, M, k3⟩, k4⟩ := KF_X z3 (fun p a b => W3 p (by omega)) (Nat.le_refl nx)
      have k31 := k3.1
      refine z_astore hE d_Od_addUpRow_54 (by decide) ?_
      refine z_aload hE d_Od_addUpRow_56 rfl ?_
      refine z_ifnonnullR (tgt := 63) hE d_Od_addUpRow_58 (by decide) ?_
      refine z_aload_n hE d_Od_addUpRow_63 rfl ?_
      refine z_get hE d_Od_addUpRow_64 fl_Od_25 (by assumption) rfl ?_
      refine z_aload_n hE d_Od_addUpRow_67 rfl ?_
      refine z_aload hE d_Od_addUpRow_68 rfl ?_
      refine z_aload hE d_Od_addUpRow_70 rfl ?_
      refine z_getN hE d_Od_addUpRow_72 fl_Od_67 (by assumption) rfl ?_
      have t1 := ht.1
      rw [e] at t1
      have tb := ht.2.2
      rw [e] at tb
      have tw := id hw
      rw [e] at tw
      refine z_callV hE d_Od_addUpRow_75 cl_Od_199 (c_Re_add l nx V3 F3 k3 (by omega) (by omega) t1 k4.1.1 tw.1 tw.2 k4.2.1 k4.2.2 (by exact Nat.ne_of_gt tb) (by have := k4.1.2.2; omega)) (by assumption) cb_Re rfl (Nat.le_of_ble_eq_true rfl) ⟨by decide, by decide⟩ ⟨by omega, by omega⟩ (fun r_3 g_3 nx_3 hp_3 => ?_) rfl
      try dsimp only [Option.toList, List.nil_append, List.cons_append]
      obtain ⟨rfl, rfl, W4, v4, V4, e42, e44⟩ := hp_3
      try dsimp only [Option.toList, List.nil_append, List.cons_append]
      obtain ⟨s4, hs4⟩ : ∃ s4, sgI (adT s3 (v3 2) (v3 4) q.1 q.2.1 q.2.2) = s4 := ⟨_, rfl⟩
      rw [hs4] at V4
      have C4 := OV_re C3 W4 V4
      have eq4 : addQ t q q.1 = (s4, v4 2, v4 4) := by rw [addQ_eq ht k4.1 k4.1.1, e42, e44, ← hs4, e]
      have F4 := RV_F V4
      have F41 := F4.1
      have hsk : sq (S.2.2.1 r) (k + 1) = if QW (addQ t q q.1) then some (addQ t q q.1) else none := by
        show (match sq (S.2.2.1 r) k, S.2.2.1 r k with | some t, some q => if QW (addQ t q q.1) then some (addQ t q q.1) else none | _, _ => none) = _
        rw [hs, z2]
      refine z_aload_n hE d_Od_addUpRow_78 rfl ?_
      refine z_callV hE d_Od_addUpRow_79 cl_Od_203 (c_Fr_isWide l nx F4) (by assumption) cb_Fr rfl (Nat.le_of_ble_eq_true rfl) ⟨by decide, by decide⟩ ⟨by omega, by omega⟩ (fun r_79 g_79 nx_79 hp_79 => ?_) rfl
      obtain ⟨rfl, rfl, rfl⟩ := hp_79
      try dsimp only [Option.toList, List.nil_append, List.cons_append]
      have hwe : (v4 2 < 4294967296 ^ 8 ∧ v4 4 < 4294967296 ^ 8) ↔ QW (addQ t q q.1) := by rw [eq4]
      by_cases hw4 : QW (addQ t q q.1)
      case neg =>
        rw [if_neg (fun z => hw4 (hwe.mp z))]
        rw [if_neg hw4] at hsk
        refine z_if_ne (tgt := 88) hE d_Od_addUpRow_82 (by decide) (fun c_ => absurd c_ (by decide)) (fun _ => ?_)
        refine z_bipush (v := 6) hE d_Od_addUpRow_85 (by decide) ?_
        exact z_iret hE hQ d_Od_addUpRow_87 rfl (by omega) (by omega) ⟨rfl, gW_t W3 W4, _, v4, C4, Or.inr ⟨hno, Or.inl ⟨sq_none hsk (by omega), rfl⟩⟩⟩
      rw [if_pos (hwe.mpr hw4)]
      rw [if_pos hw4] at hsk
      refine z_if_ne (tgt := 88) hE d_Od_addUpRow_82 (by decide) (fun _ => ?_) (fun c_ => absurd c_ (by decide))
      refine z_iinc (v := nI (k + 1)) hE d_Od_addUpRow_88 rfl (nI_1 k) (by decide) ?_
      refine z_goto (tgt := 39) hE d_Od_addUpRow_91 (by decide) ?_
      exact ih (k + 1) _ _ v4 _ (by omega) C4 (gW_t W3 W4) hsk (addQ_ok ht k4.1) hw4 eq4 _ rfl rfl rfl rfl
  refine z_iconst (v := nI 0) hE d_Od_addUpRow_36 (by decide) ?_
  refine z_istore hE d_Od_addUpRow_37 (by decide) ?_
  refine loop p 0 g_2 _ v2 (0, 0, 1) (by omega) C2 W2' rfl q0_ok (by decide) ?_ _ rfl rfl rfl rfl
  rw [e2, e4]; rfl
theorem c_Od_sum (l : Launch) {g : Gh} {nx O : Nat} {S : Sx} (hC : CW g O nx S) (f r : Int32) : Ct l m_Od_sum 5 47 [.ref O, .int f, .int r] g nx (pO g O nx (spSum S f r)) := by
  obtain ⟨sg, v, w, hV⟩ := hC
  have h0 := hV.1
  refine Ct.of (by decide) (Nat.le_of_ble_eq_true rfl) (fun E hE hQ => ?_)
  have out : ∀ lv, ¬ (inI f 0 15 ∧ inI r 0 3) → zJ E g nx 0 0 14 lv [] := by
    intro lv h
    refine z_ldc hE d_Od_sum_14 cn_Od_47 ?_
    exact z_iret hE hQ d_Od_sum_16 rfl (by omega) (by omega) (pO_of (if_neg h) (Nat.le_refl _) hV gX_r)
  refine z_iload_n hE d_Od_sum_0 rfl ?_
  refine z_callS hE d_Od_sum_1 cl_Od_43 (c_Od_isNoFraction l g nx f) rfl (Nat.le_of_ble_eq_true rfl) ⟨by decide, by decide⟩ ⟨by omega, by omega⟩ (fun r_1 g_1 nx_1 hp_1 => ?_) rfl
  obtain ⟨rfl, rfl, rfl⟩ := hp_1
  try dsimp only [Option.toList, List.nil_append, List.cons_append]
  by_cases hf : inI f 0 15
  case neg =>
    rw [if_neg hf]
    refine z_if_ne (tgt := 14) hE d_Od_sum_4 (by decide) (fun _ => ?_) (fun c_ => absurd c_ (by decide))
    exact out _ (fun q => hf q.1)
  rw [if_pos hf]
  refine z_if_ne (tgt := 14) hE d_Od_sum_4 (by decide) (fun c_ => absurd c_ (by decide)) (fun _ => ?_)
  refine z_iload_n hE d_Od_sum_7 rfl ?_
  refine z_callS hE d_Od_sum_8 cl_Od_153 (c_Od_isNoRow l g nx r) rfl (Nat.le_of_ble_eq_true rfl) ⟨by decide, by decide⟩ ⟨by omega, by omega⟩ (fun r_8 g_8 nx_8 hp_8 => ?_) rfl
  obtain ⟨rfl, rfl, rfl⟩ := hp_8
  try dsimp only [Option.toList, List.nil_append, List.cons_append]
  by_cases hr : inI r 0 3
  case neg =>
    rw [if_neg hr]
    refine z_if_eq (tgt := 17) hE d_Od_sum_11 (by decide) (fun c_ => absurd c_ (by decide)) (fun _ => ?_)
    exact out _ (fun q => hr q.2)
  rw [if_pos hr]
  refine z_if_eq (tgt := 17) hE d_Od_sum_11 (by decide) (fun _ => ?_) (fun c_ => absurd c_ (by decide))
  obtain ⟨ef, zf, hf2⟩ := fx_of hf (by omega) (by omega)
  obtain ⟨er, zr, hr2⟩ := fx_of hr (by omega) (by omega)
  refine z_aload_n hE d_Od_sum_17 rfl ?_
  refine z_iload_n hE d_Od_sum_18 rfl ?_
  rw [er]
  refine z_callV hE d_Od_sum_19 cl_Od_179 (c_Od_addUpRow l hV (fx r) (by omega)) (by assumption) cb_Od rfl (Nat.le_of_ble_eq_true rfl) ⟨by decide, by decide⟩ ⟨by omega, by omega⟩ (fun r_3 g_3 nx_3 hp_3 => ?_) rfl
  try dsimp only [Option.toList, List.nil_append, List.cons_append]
  obtain ⟨rfl, W3, s3, v3, C3, H⟩ := hp_3
  have m3 := C3.1
  obtain ⟨h, rfl⟩ | ⟨h, ⟨hs, rfl⟩ | ⟨t, hs, ht, hw, e, rfl⟩⟩ := H
  · try dsimp only [Option.toList, List.nil_append, List.cons_append]
    refine z_istore_n hE d_Od_sum_22 rfl (by decide) ?_
    refine z_iload_n hE d_Od_sum_23 rfl ?_
    refine z_if_eq (tgt := 33) hE d_Od_sum_24 (by decide) (fun c_ => absurd c_ (by decide)) (fun _ => ?_)
    refine z_aload_n hE d_Od_sum_27 rfl ?_
    refine z_iload_n hE d_Od_sum_28 rfl ?_
    refine z_callV hE d_Od_sum_29 cl_Od_48 (c_Od_tell l C3 1) (by assumption) cb_Od rfl (Nat.le_of_ble_eq_true rfl) ⟨by decide, by decide⟩ ⟨by omega, by omega⟩ (fun r_1 g_1 nx_1 hp_1 => ?_) rfl
    try dsimp only [Option.toList, List.nil_append, List.cons_append]
    obtain ⟨rfl, rfl, C1, W1⟩ := hp_1
    try dsimp only [Option.toList, List.nil_append, List.cons_append]
    refine z_iret hE hQ d_Od_sum_32 rfl (by omega) (by omega) (pO_of ?_ (Nat.le_refl _) C1 (gX_t (gX_W W3 (by omega) (by omega)) (gX_W W1 (Nat.le_refl _) (by omega)) (Nat.le_refl nx)))
    unfold spSum; rw [if_pos ⟨hf, hr⟩]; exact if_pos h
  · try dsimp only [Option.toList, List.nil_append, List.cons_append]
    refine z_istore_n hE d_Od_sum_22 rfl (by decide) ?_
    refine z_iload_n hE d_Od_sum_23 rfl ?_
    refine z_if_eq (tgt := 33) hE d_Od_sum_24 (by decide) (fun c_ => absurd c_ (by decide)) (fun _ => ?_)
    refine z_aload_n hE d_Od_sum_27 rfl ?_
    refine z_iload_n hE d_Od_sum_28 rfl ?_
    refine z_callV hE d_Od_sum_29 cl_Od_48 (c_Od_tell l C3 6) (by assumption) cb_Od rfl (Nat.le_of_ble_eq_true rfl) ⟨by decide, by decide⟩ ⟨by omega, by omega⟩ (fun r_1 g_1 nx_1 hp_1 => ?_) rfl
    try dsimp only [Option.toList, List.nil_append, List.cons_append]
    obtain ⟨rfl, rfl, C1, W1⟩ := hp_1
    try dsimp only [Option.toList, List.nil_append, List.cons_append]
    refine z_iret hE hQ d_Od_sum_32 rfl (by omega) (by omega) (pO_of ?_ (Nat.le_refl _) C1 (gX_t (gX_W W3 (by omega) (by omega)) (gX_W W1 (Nat.le_refl _) (by omega)) (Nat.le_refl nx)))
    unfold spSum; rw [if_pos ⟨hf, hr⟩, if_neg h, hs]; rfl
  · try dsimp only [Option.toList, List.nil_append, List.cons_append]
    refine z_istore_n hE d_Od_sum_22 rfl (by decide) ?_
    refine z_iload_n hE d_Od_sum_23 rfl ?_
    refine z_if_eq (tgt := 33) hE d_Od_sum_24 (by decide) (fun _ => ?_) (fun c_ => absurd c_ (by decide))
    refine z_aload_n hE d_Od_sum_33 rfl ?_
    refine z_iload_n hE d_Od_sum_34 rfl ?_
    rw [ef]
    refine z_callV hE d_Od_sum_35 cl_Od_56 (c_Od_make l C3 e ht (fx f) (by omega)) (by assumption) cb_Od rfl (Nat.le_of_ble_eq_true rfl) ⟨by decide, by decide⟩ ⟨by omega, by omega⟩ (fun r_9 g_9 nx_9 hp_9 => ?_) rfl
    try dsimp only [Option.toList, List.nil_append, List.cons_append]
    exact z_mkret hE hQ d_Od_sum_38 rfl (by omega) (by omega) (gX_W W3 (by omega) (by omega)) (by unfold spSum; rw [if_pos ⟨hf, hr⟩, if_neg h, hs]) hp_9
theorem c_Od_one (l : Launch) {g : Gh} {nx O : Nat} {S : Sx} (hC : CW g O nx S) (r : Int32) : Ct l m_Od_one 0 0 [.ref O, .int r] g nx (pO g O nx (spOne S r)) := by
  obtain ⟨sg, v, w, hV⟩ := hC
  have h0 := hV.1
  refine Ct.of (by decide) (Nat.le_of_ble_eq_true rfl) (fun E hE hQ => ?_)
  have out : ∀ lv, ¬ inI r 0 3 → zJ E g nx 0 0 7 lv [] := by
    intro lv h
    refine z_ldc hE d_Od_one_7 cn_Od_47 ?_
    exact z_iret hE hQ d_Od_one_9 rfl (by omega) (by omega) (pO_of (if_neg h) (Nat.le_refl _) hV gX_r)
  refine z_iload_n hE d_Od_one_0 rfl ?_
  refine z_callS hE d_Od_one_1 cl_Od_153 (c_Od_isNoRow l g nx r) rfl (Nat.le_of_ble_eq_true rfl) ⟨by decide, by decide⟩ ⟨by omega, by omega⟩ (fun r_1 g_1 nx_1 hp_1 => ?_) rfl
  obtain ⟨rfl, rfl, rfl⟩ := hp_1
  try dsimp only [Option.toList, List.nil_append, List.cons_append]
  by_cases hr : inI r 0 3
  case neg =>
    rw [if_neg hr]
    refine z_if_eq (tgt := 10) hE d_Od_one_4 (by decide) (fun c_ => absurd c_ (by decide)) (fun _ => ?_)
    exact out _ (fun q => hr q)
  rw [if_pos hr]
  refine z_if_eq (tgt := 10) hE d_Od_one_4 (by decide) (fun _ => ?_) (fun c_ => absurd c_ (by decide))
  obtain ⟨er, zr, hr2⟩ := fx_of hr (by omega) (by omega)
  refine z_aload_n hE d_Od_one_10 rfl ?_
  refine z_iload_n hE d_Od_one_11 rfl ?_
  rw [er]
  refine z_callV hE d_Od_one_12 cl_Od_179 (c_Od_addUpRow l hV (fx r) (by omega)) (by assumption) cb_Od rfl (Nat.le_of_ble_eq_true rfl) ⟨by decide, by decide⟩ ⟨by omega, by omega⟩ (fun r_3 g_3 nx_3 hp_3 => ?_) rfl
  try dsimp only [Option.toList, List.nil_append, List.cons_append]
  obtain ⟨rfl, W3, s3, v3, C3, H⟩ := hp_3
  have m3 := C3.1
  obtain ⟨h, rfl⟩ | ⟨h, ⟨hs, rfl⟩ | ⟨t, hs, ht, hw, e, rfl⟩⟩ := H
  · try dsimp only [Option.toList, List.nil_append, List.cons_append]
    refine z_istore_n hE d_Od_one_15 rfl (by decide) ?_
    refine z_iload_n hE d_Od_one_16 rfl ?_
    refine z_if_eq (tgt := 26) hE d_Od_one_17 (by decide) (fun c_ => absurd c_ (by decide)) (fun _ => ?_)
    refine z_aload_n hE d_Od_one_20 rfl ?_
    refine z_iload_n hE d_Od_one_21 rfl ?_
    refine z_callV hE d_Od_one_22 cl_Od_48 (c_Od_tell l C3 1) (by assumption) cb_Od rfl (Nat.le_of_ble_eq_true rfl) ⟨by decide, by decide⟩ ⟨by omega, by omega⟩ (fun r_1 g_1 nx_1 hp_1 => ?_) rfl
    try dsimp only [Option.toList, List.nil_append, List.cons_append]
    obtain ⟨rfl, rfl, C1, W1⟩ := hp_1
    try dsimp only [Option.toList, List.nil_append, List.cons_append]
    refine z_iret hE hQ d_Od_one_25 rfl (by omega) (by omega) (pO_of ?_ (Nat.le_refl _) C1 (gX_t (gX_W W3 (by omega) (by omega)) (gX_W W1 (Nat.le_refl _) (by omega)) (Nat.le_refl nx)))
    unfold spOne; rw [if_pos hr]; exact if_pos h
  · try dsimp only [Option.toList, List.nil_append, List.cons_append]
    refine z_istore_n hE d_Od_one_15 rfl (by decide) ?_
    refine z_iload_n hE d_Od_one_16 rfl ?_
    refine z_if_eq (tgt := 26) hE d_Od_one_17 (by decide) (fun c_ => absurd c_ (by decide)) (fun _ => ?_)
    refine z_aload_n hE d_Od_one_20 rfl ?_
    refine z_iload_n hE d_Od_one_21 rfl ?_
    refine z_callV hE d_Od_one_22 cl_Od_48 (c_Od_tell l C3 6) (by assumption) cb_Od rfl (Nat.le_of_ble_eq_true rfl) ⟨by decide, by decide⟩ ⟨by omega, by omega⟩ (fun r_1 g_1 nx_1 hp_1 => ?_) rfl
    try dsimp only [Option.toList, List.nil_append, List.cons_append]
    obtain ⟨rfl, rfl, C1, W1⟩ := hp_1
    try dsimp only [Option.toList, List.nil_append, List.cons_append]
    refine z_iret hE hQ d_Od_one_25 rfl (by omega) (by omega) (pO_of ?_ (Nat.le_refl _) C1 (gX_t (gX_W W3 (by omega) (by omega)) (gX_W W1 (Nat.le_refl _) (by omega)) (Nat.le_refl nx)))
    unfold spOne; rw [if_pos hr, if_neg h, hs]; rfl
  · try dsimp only [Option.toList, List.nil_append, List.cons_append]
    have V3 := C3.2.2.2.2.1
    have V31 := V3.1
    unfold RE at V31
    have F3 := RV_F V3
    have F31 := F3.1
    refine z_istore_n hE d_Od_one_15 rfl (by decide) ?_
    refine z_iload_n hE d_Od_one_16 rfl ?_
    refine z_if_eq (tgt := 26) hE d_Od_one_17 (by decide) (fun _ => ?_) (fun c_ => absurd c_ (by decide))
    refine z_aload_n hE d_Od_one_26 rfl ?_
    refine z_aload_n hE d_Od_one_27 rfl ?_
    refine z_get hE d_Od_one_28 fl_Od_25 (by assumption) rfl ?_
    refine z_getN hE d_Od_one_31 fl_Od_182 (by assumption) rfl ?_
    refine z_callV hE d_Od_one_34 cl_Od_186 (c_Fr_isOne l nx F3) (by assumption) cb_Fr rfl (Nat.le_of_ble_eq_true rfl) ⟨by decide, by decide⟩ ⟨by omega, by omega⟩ (fun r_34 g_34 nx_34 hp_34 => ?_) rfl
    obtain ⟨rfl, rfl, rfl⟩ := hp_34
    try dsimp only [Option.toList, List.nil_append, List.cons_append]
    have go : ∀ (z : Int32) lv, z = (if 0 < t.1 ∧ t.2.1 = 1 ∧ t.2.2 = 1 then 1 else 0) → zJ E g_3 nx 0 0 45 lv [.int z, .ref O] := by
      intro z lv hz
      refine z_callV hE d_Od_one_45 cl_Od_70 (c_Od_done l C3 z) (by assumption) cb_Od rfl (Nat.le_of_ble_eq_true rfl) ⟨by decide, by decide⟩ ⟨by omega, by omega⟩ (fun r_2 g_2 nx_2 hp_2 => ?_) rfl
      try dsimp only [Option.toList, List.nil_append, List.cons_append]
      obtain ⟨rfl, rfl, C2, W2⟩ := hp_2
      try dsimp only [Option.toList, List.nil_append, List.cons_append]
      exact z_iret hE hQ d_Od_one_48 rfl (by omega) (by omega) (pO_of (by unfold spOne; rw [if_pos hr, if_neg h, hs, hz]; rfl) (Nat.le_refl _) C2 (gX_t (gX_W W3 (by omega) (by omega)) (gX_W W2 (Nat.le_refl _) (by omega)) (Nat.le_refl nx)))
    by_cases ho : 0 < s3 ∧ v3 2 = 1 ∧ v3 4 = 1
    · rw [if_pos ho]
      refine z_if_eq (tgt := 44) hE d_Od_one_37 (by decide) (fun c_ => absurd c_ (by decide)) (fun _ => ?_)
      refine z_iconst (v := 1) hE d_Od_one_40 (by decide) ?_
      refine z_goto (tgt := 45) hE d_Od_one_41 (by decide) ?_
      exact go 1 _ (by rw [e, if_pos ho])
    · rw [if_neg ho]
      refine z_if_eq (tgt := 44) hE d_Od_one_37 (by decide) (fun _ => ?_) (fun c_ => absurd c_ (by decide))
      refine z_iconst (v := 0) hE d_Od_one_44 (by decide) ?_
      exact go 0 _ (by rw [e, if_neg ho])
theorem c_Od_pick (l : Launch) {g : Gh} {nx O : Nat} {S : Sx} (hC : CW g O nx S) (r a : Int32) : Ct l m_Od_pick 0 0 [.ref O, .int r, .int a] g nx (pO g O nx (spPick S r a)) := by
  obtain ⟨sg, v, w, hV⟩ := hC
  have h0 := hV.1
  refine Ct.of (by decide) (Nat.le_of_ble_eq_true rfl) (fun E hE hQ => ?_)
  have out : ∀ lv, ¬ (inI r 0 3 ∧ inI a 0 15) → zJ E g nx 0 0 14 lv [] := by
    intro lv h
    refine z_ldc hE d_Od_pick_14 cn_Od_47 ?_
    exact z_iret hE hQ d_Od_pick_16 rfl (by omega) (by omega) (pO_of (if_neg h) (Nat.le_refl _) hV gX_r)
  refine z_iload_n hE d_Od_pick_0 rfl ?_
  refine z_callS hE d_Od_pick_1 cl_Od_153 (c_Od_isNoRow l g nx r) rfl (Nat.le_of_ble_eq_true rfl) ⟨by decide, by decide⟩ ⟨by omega, by omega⟩ (fun r_1 g_1 nx_1 hp_1 => ?_) rfl
  obtain ⟨rfl, rfl, rfl⟩ := hp_1
  try dsimp only [Option.toList, List.nil_append, List.cons_append]
  by_cases hr : inI r 0 3
  case neg =>
    rw [if_neg hr]
    refine z_if_ne (tgt := 14) hE d_Od_pick_4 (by decide) (fun _ => ?_) (fun c_ => absurd c_ (by decide))
    exact out _ (fun q => hr q.1)
  rw [if_pos hr]
  refine z_if_ne (tgt := 14) hE d_Od_pick_4 (by decide) (fun c_ => absurd c_ (by decide)) (fun _ => ?_)
  refine z_iload_n hE d_Od_pick_7 rfl ?_
  refine z_callS hE d_Od_pick_8 cl_Od_43 (c_Od_isNoFraction l g nx a) rfl (Nat.le_of_ble_eq_true rfl) ⟨by decide, by decide⟩ ⟨by omega, by omega⟩ (fun r_8 g_8 nx_8 hp_8 => ?_) rfl
  obtain ⟨rfl, rfl, rfl⟩ := hp_8
  try dsimp only [Option.toList, List.nil_append, List.cons_append]
  by_cases ha : inI a 0 15
  case neg =>
    rw [if_neg ha]
    refine z_if_eq (tgt := 17) hE d_Od_pick_11 (by decide) (fun c_ => absurd c_ (by decide)) (fun _ => ?_)
    exact out _ (fun q => ha q.2)
  rw [if_pos ha]
  refine z_if_eq (tgt := 17) hE d_Od_pick_11 (by decide) (fun _ => ?_) (fun c_ => absurd c_ (by decide))
  obtain ⟨er, zr, hr2⟩ := fx_of hr (by omega) (by omega)
  obtain ⟨ea, za, ha2⟩ := fx_of ha (by omega) (by omega)
  have none1 : ∀ lv, (S.2.1 (fx r) = -1 ∨ S.1 (fx a) = none) → lG lv 0 = some (.ref O) → zJ E g nx 0 0 39 lv [] := by
    intro lv h l0
    refine z_sub (lv' := [(0, .ref O)]) (by simp only [List.map, l0]) ?_
    refine z_aload_n hE d_Od_pick_39 rfl ?_
    refine z_iconst (v := 1) hE d_Od_pick_40 (by decide) ?_
    refine z_callV hE d_Od_pick_41 cl_Od_48 (c_Od_tell l hV 1) (by assumption) cb_Od rfl (Nat.le_of_ble_eq_true rfl) ⟨by decide, by decide⟩ ⟨by omega, by omega⟩ (fun r_1 g_1 nx_1 hp_1 => ?_) rfl
    try dsimp only [Option.toList, List.nil_append, List.cons_append]
    obtain ⟨rfl, rfl, C1, W1⟩ := hp_1
    try dsimp only [Option.toList, List.nil_append, List.cons_append]
    refine z_iret hE hQ d_Od_pick_44 rfl (by omega) (by omega) (pO_of ?_ (Nat.le_refl _) C1 (gX_W W1 (Nat.le_refl _) (by omega)))
    unfold spPick
    rw [if_pos ⟨hr, ha⟩]
    cases hq : S.1 (fx a) with
    | none => rfl
    | some q =>
      rcases h with h | h
      · exact if_pos h
      · rw [hq] at h; cases h
  refine z_aload_n hE d_Od_pick_17 rfl ?_
  refine z_iload_n hE d_Od_pick_18 rfl ?_
  rw [er]
  refine z_callV hE d_Od_pick_19 cl_Od_160 (c_Od_rowAt l hV (fx r) (by omega)) (by assumption) cb_Od rfl (Nat.le_of_ble_eq_true rfl) ⟨by decide, by decide⟩ ⟨by omega, by omega⟩ (fun r_1 g_1 nx_1 hp_1 => ?_) rfl
  try dsimp only [Option.toList, List.nil_append, List.cons_append]
  obtain ⟨rfl, rfl, H1⟩ := hp_1
  obtain ⟨x1, hx1⟩ : ∃ x : Option Nat, r_1 = some (va_rf x) := by
    rcases H1 with ⟨h, -⟩ | ⟨h, -⟩
    · exact ⟨none, h⟩
    · exact ⟨some _, h⟩
  subst hx1
  try dsimp only [Option.toList, List.nil_append, List.cons_append]
  refine z_astore_nq hE d_Od_pick_22 rfl (by decide) ?_
  refine z_aload_n hE d_Od_pick_23 rfl ?_
  refine z_iload_n hE d_Od_pick_24 rfl ?_
  rw [ea]
  refine z_callV hE d_Od_pick_25 cl_Od_59 (c_Od_fractionAt l hV (fx a) (by omega)) (by assumption) cb_Od rfl (Nat.le_of_ble_eq_true rfl) ⟨by decide, by decide⟩ ⟨by omega, by omega⟩ (fun r_2 g_2 nx_2 hp_2 => ?_) rfl
  try dsimp only [Option.toList, List.nil_append, List.cons_append]
  obtain ⟨rfl, rfl, H2⟩ := hp_2
  obtain ⟨x2, hx2⟩ : ∃ x : Option Nat, r_2 = some (va_rf x) := by
    rcases H2 with ⟨h, -⟩ | ⟨b, q, h, -⟩
    · exact ⟨none, h⟩
    · exact ⟨some b, h⟩
  subst hx2
  try dsimp only [Option.toList, List.nil_append, List.cons_append]
  refine z_astoreq hE d_Od_pick_28 (by decide) ?_
  obtain ⟨hr1, hq1⟩ | ⟨hr1, hne, p, h, hp, hpe, hR, hH⟩ := H1
  case inl =>
    cases x1
    · refine z_aload_nN hE d_Od_pick_30 rfl ?_
      refine z_ifnullZ (tgt := 39) hE d_Od_pick_31 (by decide) ?_
      exact none1 _ (Or.inl hq1) (by cases x2 <;> rfl)
    · cases hr1
  obtain rfl : x1 = some (O + 3 + 2 * fx r) := by cases x1; cases hr1; cases hr1; rfl
  obtain ⟨hr2, hq2⟩ | ⟨b, x, hr2, hq2, hK2⟩ := H2
  case inl =>
    cases x2
    · refine z_aload_n hE d_Od_pick_30 rfl ?_
      refine z_ifnullR (tgt := 39) hE d_Od_pick_31 (by decide) ?_
      refine z_aloadN hE d_Od_pick_34 rfl ?_
      refine z_ifnonnullZ (tgt := 45) hE d_Od_pick_36 (by decide) ?_
      exact none1 _ (Or.inr hq2) rfl
    · cases hr2
  obtain rfl : x2 = some b := by cases x2; cases hr2; cases hr2; rfl
  have hspec : spPick S r a = (.int (pq (S.2.2.1 (fx r)) x (fx (S.2.1 (fx r))) 0 (0, 0, 1)).1, sC S (pq (S.2.2.1 (fx r)) x (fx (S.2.1 (fx r))) 0 (0, 0, 1)).2) := by unfold spPick; rw [if_pos ⟨hr, ha⟩, hq2]; exact if_neg hne
  rw [hpe, fx_nI (by omega)] at hspec
  refine z_aload_n hE d_Od_pick_30 rfl ?_
  refine z_ifnullR (tgt := 39) hE d_Od_pick_31 (by decide) ?_
  refine z_aload hE d_Od_pick_34 rfl ?_
  refine z_ifnonnullR (tgt := 45) hE d_Od_pick_36 (by decide) ?_
  have R1 := hV.2.2.2.2.1
  have R11 := R1.1
  unfold RE at R11
  have F1 := RV_F R1
  have F11 := F1.1
  refine z_aload_n hE d_Od_pick_45 rfl ?_
  refine z_get hE d_Od_pick_46 fl_Od_25 (by assumption) rfl ?_
  refine z_getN hE d_Od_pick_49 fl_Od_182 (by assumption) rfl ?_
  refine z_astore hE d_Od_pick_52 (by decide) ?_
  refine z_aload hE d_Od_pick_54 rfl ?_
  refine z_lconst (v := (0 : Int64)) hE d_Od_pick_56 (by decide) ?_
  refine z_callV hE d_Od_pick_57 cl_Od_189 (c_Fr_becomeWhole l nx F1 0) (by assumption) cb_Fr rfl (Nat.le_of_ble_eq_true rfl) ⟨by decide, by decide⟩ ⟨by omega, by omega⟩ (fun r_3 g_3 nx_3 hp_3 => ?_) rfl
  try dsimp only [Option.toList, List.nil_append, List.cons_append]
  obtain ⟨rfl, rfl, F2, W2⟩ := hp_3
  try dsimp only [Option.toList, List.nil_append, List.cons_append]
  obtain ⟨v2, V2, e2, e4⟩ := RV_FR R1 F2 W2
  have W2' : gW g g_3 (O + 11) (O + 11 + 25) := gW_le W2 (by omega) (by omega)
  have C2 := OV_re hV W2' V2
  have loop : ∀ (u k : Nat) (g3 : Gh) (s3 : Int32) (v3 : Nat → Nat) (t : Qf), k + u = p → OV g3 O nx S s3 v3 w → gW g g3 (O + 11) (O + 11 + 25) → spPick S r a = (.int (pq (S.2.2.1 (fx r)) x u k t).1, sC S (pq (S.2.2.1 (fx r)) x u k t).2) → QOK t → QW t → t = (s3, v3 2, v3 4) → ∀ lv, lG lv 0 = some (.ref O) → lG lv 3 = some (.ref (O + 3 + 2 * fx r)) → lG lv 4 = some (.ref b) → lG lv 5 = some (.ref (O + 11 + 1)) → lG lv 6 = some (.int (nI k)) → zJ E g3 nx 0 0 63 lv [] := by
    intro u
    induction u with
    | zero =>
      intro k g3 s3 v3 t hk C3 W3 hs ht hw e lv l0 l3 l4 l5 l6
      refine z_sub (lv' := [(0, .ref O), (3, .ref (O + 3 + 2 * fx r)), (4, .ref b), (5, .ref (O + 11 + 1)), (6, .int (nI k))]) (by simp only [List.map, l0, l3, l4, l5, l6]) ?_
      have hR3 : RO g3 (O + 3 + 2 * fx r) (nI p) h := RO_E hR (fun q a b => W3 q (by omega))
      have hR31 := hR3.1
      have m3 := C3.1
      have hkp : k = p := by omega
      subst hkp
      refine z_iload hE d_Od_pick_63 rfl ?_
      refine z_aload_n hE d_Od_pick_65 rfl ?_
      refine z_getN hE d_Od_pick_66 fl_Od_193 (by assumption) rfl ?_
      refine z_icmp_ge (tgt := 149) hE d_Od_pick_69 (by decide) (fun _ => ?_) (fun c_ => absurd c_ (fun z => z ((nI_LE (by omega) (by omega)).mpr (Nat.le_refl _))))
      refine z_aload_n hE d_Od_pick_149 rfl ?_
      refine z_iconst (v := (-1)) hE d_Od_pick_150 (by decide) ?_
      refine z_callV hE d_Od_pick_151 cl_Od_70 (c_Od_done l C3 (-1)) (by assumption) cb_Od rfl (Nat.le_of_ble_eq_true rfl) ⟨by decide, by decide⟩ ⟨by omega, by omega⟩ (fun r_4 g_4 nx_4 hp_4 => ?_) rfl
      try dsimp only [Option.toList, List.nil_append, List.cons_append]
      obtain ⟨rfl, rfl, C4, W4⟩ := hp_4
      try dsimp only [Option.toList, List.nil_append, List.cons_append]
      exact z_iret hE hQ d_Od_pick_154 rfl (by omega) (by omega) (pO_of hs (Nat.le_refl _) C4 (gX_t (gX_W W3 (by omega) (by omega)) (gX_W W4 (Nat.le_refl _) (by omega)) (Nat.le_refl nx)))
    | succ u ih =>
      intro k g3 s3 v3 t hk C3 W3 hs ht hw e lv l0 l3 l4 l5 l6
      refine z_sub (lv' := [(0, .ref O), (3, .ref (O + 3 + 2 * fx r)), (4, .ref b), (5, .ref (O + 11 + 1)), (6, .int (nI k))]) (by simp only [List.map, l0, l3, l4, l5, l6]) ?_
      have hR3 : RO g3 (O + 3 + 2 * fx r) (nI p) h := RO_E hR (fun q a b => W3 q (by omega))
      have hR31 := hR3.1
      have m3 := C3.1
      have V3 := C3.2.2.2.2.1
      have V31 := V3.1
      unfold RE at V31
      have F3 := RV_F V3
      have F31 := F3.1
      refine z_iload hE d_Od_pick_63 rfl ?_
      refine z_aload_n hE d_Od_pick_65 rfl ?_
      refine z_getN hE d_Od_pick_66 fl_Od_193 (by assumption) rfl ?_
      refine z_icmp_ge (tgt := 149) hE d_Od_pick_69 (by decide) (fun c_ => absurd c_ (fun z => absurd ((nI_LE (by omega) (by omega)).mp z) (by omega))) (fun _ => ?_)
      refine z_aload_n hE d_Od_pick_72 rfl ?_
      refine z_iload hE d_Od_pick_73 rfl ?_
      refine z_callV hE d_Od_pick_75 cl_Od_196 (c_Ro_heldAt l nx hR3 k (by omega)) (by assumption) cb_Ro rfl (Nat.le_of_ble_eq_true rfl) ⟨by decide, by decide⟩ ⟨by omega, by omega⟩ (fun r_75 g_75 nx_75 hp_75 => ?_) rfl
      obtain ⟨rfl, rfl, rfl⟩ := hp_75
      try dsimp only [Option.toList, List.nil_append, List.cons_append]
      rcases hH k (by omega) with ⟨z1, z2⟩ | ⟨c, q, z1, z2, z3⟩
      case inl =>
        rw [z1]
        show zJ E g3 nx 0 0 78 _ [Value.null]
        refine z_astoreN hE d_Od_pick_78 (by decide) ?_
        refine z_aloadN hE d_Od_pick_80 rfl ?_
        refine z_ifnonnullZ (tgt := 91) hE d_Od_pick_82 (by decide) ?_
        have hpq : pq (S.2.2.1 (fx r)) x (u + 1) k t = (0, 1) := by unfold pq; rw [z2]
        rw [hpq] at hs
        refine z_aload_n hE d_Od_pick_85 rfl ?_
        refine z_iconst (v := 1) hE d_Od_pick_86 (by decide) ?_
        refine z_callV hE d_Od_pick_87 cl_Od_48 (c_Od_tell l C3 1) (by assumption) cb_Od rfl (Nat.le_of_ble_eq_true rfl) ⟨by decide, by decide⟩ ⟨by omega, by omega⟩ (fun r_1 g_1 nx_1 hp_1 => ?_) rfl
        try dsimp only [Option.toList, List.nil_append, List.cons_append]
        obtain ⟨rfl, rfl, C1, W1⟩ := hp_1
        try dsimp only [Option.toList, List.nil_append, List.cons_append]
        refine z_iret hE hQ d_Od_pick_90 rfl (by omega) (by omega) (pO_of ?_ (Nat.le_refl _) C1 (gX_t (gX_W W3 (by omega) (by omega)) (gX_W W1 (Nat.le_refl _) (by omega)) (Nat.le_refl nx)))
        exact hs
      rw [z1]
      show zJ E g3 nx 0 0 78 _ [Value.ref c]
      obtain ⟨k1, k2, ⟨N, M, k3⟩, k4⟩ := KF_X z3 (fun p a b => W3 p (by omega)) (Nat.le_refl nx)
      have k31 := k3.1
      have hpq : pq (S.2.2.1 (fx r)) x (u + 1) k t = if QW (addQ t q q.1) then (if 0 < cmpQ (addQ t q q.1) x then (nI k, 0) else pq (S.2.2.1 (fx r)) x u (k + 1) (addQ t q q.1)) else (0, 6) := by
        show (match S.2.2.1 (fx r) k with | none => _ | some q => _) = _
        rw [z2]
      rw [hpq] at hs
      refine z_astore hE d_Od_pick_78 (by decide) ?_
      refine z_aload hE d_Od_pick_80 rfl ?_
      refine z_ifnonnullR (tgt := 91) hE d_Od_pick_82 (by decide) ?_
      refine z_aload_n hE d_Od_pick_91 rfl ?_
      refine z_get hE d_Od_pick_92 fl_Od_25 (by assumption) rfl ?_
      refine z_aload hE d_Od_pick_95 rfl ?_
      refine z_aload hE d_Od_pick_97 rfl ?_
      refine z_aload hE d_Od_pick_99 rfl ?_
      refine z_getN hE d_Od_pick_101 fl_Od_67 (by assumption) rfl ?_
      have t1 := ht.1
      rw [e] at t1
      have tb := ht.2.2
      rw [e] at tb
      have tw := id hw
      rw [e] at tw
      refine z_callV hE d_Od_pick_104 cl_Od_199 (c_Re_add l nx V3 F3 k3 (by omega) (by omega) t1 k4.1.1 tw.1 tw.2 k4.2.1 k4.2.2 (by exact Nat.ne_of_gt tb) (by have := k4.1.2.2; omega)) (by assumption) cb_Re rfl (Nat.le_of_ble_eq_true rfl) ⟨by decide, by decide⟩ ⟨by omega, by omega⟩ (fun r_4 g_4 nx_4 hp_4 => ?_) rfl
      try dsimp only [Option.toList, List.nil_append, List.cons_append]
      obtain ⟨rfl, rfl, W4, v4, V4, e42, e44⟩ := hp_4
      try dsimp only [Option.toList, List.nil_append, List.cons_append]
      obtain ⟨s4, hs4⟩ : ∃ s4, sgI (adT s3 (v3 2) (v3 4) q.1 q.2.1 q.2.2) = s4 := ⟨_, rfl⟩
      rw [hs4] at V4
      have C4 := OV_re C3 W4 V4
      have m4 := C4.1
      have eq4 : addQ t q q.1 = (s4, v4 2, v4 4) := by rw [addQ_eq ht k4.1 k4.1.1, e42, e44, ← hs4, e]
      have V41 := V4.1
      unfold RE at V41
      have F4 := RV_F V4
      have F41 := F4.1
      refine z_aload hE d_Od_pick_107 rfl ?_
      refine z_callV hE d_Od_pick_109 cl_Od_203 (c_Fr_isWide l nx F4) (by assumption) cb_Fr rfl (Nat.le_of_ble_eq_true rfl) ⟨by decide, by decide⟩ ⟨by omega, by omega⟩ (fun r_109 g_109 nx_109 hp_109 => ?_) rfl
      obtain ⟨rfl, rfl, rfl⟩ := hp_109
      try dsimp only [Option.toList, List.nil_append, List.cons_append]
      have hwe : (v4 2 < 4294967296 ^ 8 ∧ v4 4 < 4294967296 ^ 8) ↔ QW (addQ t q q.1) := by rw [eq4]
      by_cases hw4 : QW (addQ t q q.1)
      case neg =>
        rw [if_neg (fun z => hw4 (hwe.mp z))]
        rw [if_neg hw4] at hs
        refine z_if_ne (tgt := 122) hE d_Od_pick_112 (by decide) (fun c_ => absurd c_ (by decide)) (fun _ => ?_)
        refine z_aload_n hE d_Od_pick_115 rfl ?_
        refine z_bipush (v := 6) hE d_Od_pick_116 (by decide) ?_
        refine z_callV hE d_Od_pick_118 cl_Od_48 (c_Od_tell l C4 6) (by assumption) cb_Od rfl (Nat.le_of_ble_eq_true rfl) ⟨by decide, by decide⟩ ⟨by omega, by omega⟩ (fun r_1 g_1 nx_1 hp_1 => ?_) rfl
        try dsimp only [Option.toList, List.nil_append, List.cons_append]
        obtain ⟨rfl, rfl, C1, W1⟩ := hp_1
        try dsimp only [Option.toList, List.nil_append, List.cons_append]
        refine z_iret hE hQ d_Od_pick_121 rfl (by omega) (by omega) (pO_of ?_ (Nat.le_refl _) C1 (gX_t (gX_W (gW_t W3 W4) (by omega) (by omega)) (gX_W W1 (Nat.le_refl _) (by omega)) (Nat.le_refl nx)))
        exact hs
      rw [if_pos (hwe.mpr hw4)]
      rw [if_pos hw4] at hs
      refine z_if_ne (tgt := 122) hE d_Od_pick_112 (by decide) (fun _ => ?_) (fun c_ => absurd c_ (by decide))
      obtain ⟨i1, i2, ⟨N1, M1, i3⟩, i4⟩ := KF_X hK2 (fun p a b => (gW_t W3 W4) p (by omega)) (Nat.le_refl nx)
      have hw5 := hw4
      rw [eq4] at hw5
      refine z_aload_n hE d_Od_pick_122 rfl ?_
      refine z_get hE d_Od_pick_123 fl_Od_25 (by assumption) rfl ?_
      refine z_aload hE d_Od_pick_126 rfl ?_
      refine z_aload hE d_Od_pick_128 rfl ?_
      refine z_callV hE d_Od_pick_130 cl_Od_97 (c_Re_compare l nx V4 F4 i3 (by omega) (by omega) hw5.1 hw5.2 i4.2.1 i4.2.2) (by assumption) cb_Re rfl (Nat.le_of_ble_eq_true rfl) ⟨by decide, by decide⟩ ⟨by omega, by omega⟩ (fun r_5 g_5 nx_5 hp_5 => ?_) rfl
      try dsimp only [Option.toList, List.nil_append, List.cons_append]
      obtain ⟨rfl, rfl, W5, v5, V5, hv5⟩ := hp_5
      try dsimp only [Option.toList, List.nil_append, List.cons_append]
      have W5' : gW g_4 g_5 (O + 11) (O + 11 + 25) := gW_le W5 (by omega) (by omega)
      have C5 := OV_re C4 W5' V5
      have m5 := C5.1
      have X5 : gW g g_5 (O + 11) (O + 11 + 25) := gW_t (gW_t W3 W4) W5'
      have hcm : cmpF s4 (v4 2) (v4 4) x.1 x.2.1 x.2.2 = cmpQ (addQ t q q.1) x := by rw [eq4]; rfl
      rw [hcm]
      by_cases hg : 0 < cmpQ (addQ t q q.1) x
      · rw [if_pos hg] at hs
        refine z_if_le (tgt := 143) hE d_Od_pick_133 (by decide) (fun c_ => absurd c_ (fun z => absurd hg (by rw [← i32_lt0]; exact fun y => y z))) (fun _ => ?_)
        refine z_aload_n hE d_Od_pick_136 rfl ?_
        refine z_iload hE d_Od_pick_137 rfl ?_
        refine z_callV hE d_Od_pick_139 cl_Od_70 (c_Od_done l C5 (nI k)) (by assumption) cb_Od rfl (Nat.le_of_ble_eq_true rfl) ⟨by decide, by decide⟩ ⟨by omega, by omega⟩ (fun r_6 g_6 nx_6 hp_6 => ?_) rfl
        try dsimp only [Option.toList, List.nil_append, List.cons_append]
        obtain ⟨rfl, rfl, C6, W6⟩ := hp_6
        try dsimp only [Option.toList, List.nil_append, List.cons_append]
        exact z_iret hE hQ d_Od_pick_142 rfl (by omega) (by omega) (pO_of hs (Nat.le_refl _) C6 (gX_t (gX_W X5 (by omega) (by omega)) (gX_W W6 (Nat.le_refl _) (by omega)) (Nat.le_refl nx)))
      · rw [if_neg hg] at hs
        refine z_if_le (tgt := 143) hE d_Od_pick_133 (by decide) (fun _ => ?_) (fun c_ => absurd c_ (fun z => hg (i32_lt0.mp z)))
        refine z_iinc (v := nI (k + 1)) hE d_Od_pick_143 rfl (nI_1 k) (by decide) ?_
        refine z_goto (tgt := 63) hE d_Od_pick_146 (by decide) ?_
        refine ih (k + 1) _ _ v5 _ (by omega) C5 X5 hs (addQ_ok ht k4.1) hw4 ?_ _ rfl rfl rfl rfl rfl
        rw [eq4, hv5 2 (by omega), hv5 4 (by omega)]
  refine z_iconst (v := nI 0) hE d_Od_pick_60 (by decide) ?_
  refine z_istore hE d_Od_pick_61 (by decide) ?_
  refine loop p 0 g_3 _ v2 (0, 0, 1) (by omega) C2 W2' hspec q0_ok (by decide) ?_ _ rfl rfl rfl rfl rfl
  rw [e2, e4]; rfl

