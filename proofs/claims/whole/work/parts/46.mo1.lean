/-! the reference: loops over figures -/
theorem d_Mo_in_0 : decode b_Mo_in 0 = .ok (.lload_n 0, 1) := by decide +kernel
theorem d_Mo_in_1 : decode b_Mo_in 1 = .ok (.lload_n 2, 1) := by decide +kernel
theorem d_Mo_in_2 : decode b_Mo_in 2 = .ok (.lcmp, 1) := by decide +kernel
theorem d_Mo_in_3 : decode b_Mo_in 3 = .ok (.ifCond .lt 14, 3) := by decide +kernel
theorem d_Mo_in_6 : decode b_Mo_in 6 = .ok (.lload_n 0, 1) := by decide +kernel
theorem d_Mo_in_7 : decode b_Mo_in 7 = .ok (.lload 4, 2) := by decide +kernel
theorem d_Mo_in_9 : decode b_Mo_in 9 = .ok (.lcmp, 1) := by decide +kernel
theorem d_Mo_in_10 : decode b_Mo_in 10 = .ok (.ifCond .gt 7, 3) := by decide +kernel
theorem d_Mo_in_13 : decode b_Mo_in 13 = .ok (.iconst 1, 1) := by decide +kernel
theorem d_Mo_in_14 : decode b_Mo_in 14 = .ok (.goto 4, 3) := by decide +kernel
theorem d_Mo_in_17 : decode b_Mo_in 17 = .ok (.iconst 0, 1) := by decide +kernel
theorem d_Mo_in_18 : decode b_Mo_in 18 = .ok (.ireturn, 1) := by decide +kernel
theorem d_Mo_clear_0 : decode b_Mo_clear 0 = .ok (.iconst 0, 1) := by decide +kernel
theorem d_Mo_clear_1 : decode b_Mo_clear 1 = .ok (.istore_n 1, 1) := by decide +kernel
theorem d_Mo_clear_2 : decode b_Mo_clear 2 = .ok (.iload_n 1, 1) := by decide +kernel
theorem d_Mo_clear_3 : decode b_Mo_clear 3 = .ok (.bipush 56, 2) := by decide +kernel
theorem d_Mo_clear_5 : decode b_Mo_clear 5 = .ok (.if_icmp .ge 13, 3) := by decide +kernel
theorem d_Mo_clear_8 : decode b_Mo_clear 8 = .ok (.aload_n 0, 1) := by decide +kernel
theorem d_Mo_clear_9 : decode b_Mo_clear 9 = .ok (.iload_n 1, 1) := by decide +kernel
theorem d_Mo_clear_10 : decode b_Mo_clear 10 = .ok (.iconst 0, 1) := by decide +kernel
theorem d_Mo_clear_11 : decode b_Mo_clear 11 = .ok (.iastore, 1) := by decide +kernel
theorem d_Mo_clear_12 : decode b_Mo_clear 12 = .ok (.iinc 1 1, 3) := by decide +kernel
theorem d_Mo_clear_15 : decode b_Mo_clear 15 = .ok (.goto (-13), 3) := by decide +kernel
theorem d_Mo_clear_18 : decode b_Mo_clear 18 = .ok (.return_, 1) := by decide +kernel
theorem d_Mo_lay_0 : decode b_Mo_lay 0 = .ok (.iconst 0, 1) := by decide +kernel
theorem d_Mo_lay_1 : decode b_Mo_lay 1 = .ok (.istore_n 2, 1) := by decide +kernel
theorem d_Mo_lay_2 : decode b_Mo_lay 2 = .ok (.iload_n 2, 1) := by decide +kernel
theorem d_Mo_lay_3 : decode b_Mo_lay 3 = .ok (.bipush 56, 2) := by decide +kernel
theorem d_Mo_lay_5 : decode b_Mo_lay 5 = .ok (.if_icmp .ge 15, 3) := by decide +kernel
theorem d_Mo_lay_8 : decode b_Mo_lay 8 = .ok (.aload_n 1, 1) := by decide +kernel
theorem d_Mo_lay_9 : decode b_Mo_lay 9 = .ok (.iload_n 2, 1) := by decide +kernel
theorem d_Mo_lay_10 : decode b_Mo_lay 10 = .ok (.aload_n 0, 1) := by decide +kernel
theorem d_Mo_lay_11 : decode b_Mo_lay 11 = .ok (.iload_n 2, 1) := by decide +kernel
theorem d_Mo_lay_12 : decode b_Mo_lay 12 = .ok (.iaload, 1) := by decide +kernel
theorem d_Mo_lay_13 : decode b_Mo_lay 13 = .ok (.iastore, 1) := by decide +kernel
theorem d_Mo_lay_14 : decode b_Mo_lay 14 = .ok (.iinc 2 1, 3) := by decide +kernel
theorem d_Mo_lay_17 : decode b_Mo_lay 17 = .ok (.goto (-15), 3) := by decide +kernel
theorem d_Mo_lay_20 : decode b_Mo_lay 20 = .ok (.return_, 1) := by decide +kernel
theorem d_Mo_setLong_0 : decode b_Mo_setLong 0 = .ok (.aload_n 0, 1) := by decide +kernel
theorem d_Mo_setLong_1 : decode b_Mo_setLong 1 = .ok (.invokestatic 54, 3) := by decide +kernel
theorem d_Mo_setLong_4 : decode b_Mo_setLong 4 = .ok (.iconst 0, 1) := by decide +kernel
theorem d_Mo_setLong_5 : decode b_Mo_setLong 5 = .ok (.istore_n 3, 1) := by decide +kernel
theorem d_Mo_setLong_6 : decode b_Mo_setLong 6 = .ok (.iload_n 3, 1) := by decide +kernel
theorem d_Mo_setLong_7 : decode b_Mo_setLong 7 = .ok (.iconst 4, 1) := by decide +kernel
theorem d_Mo_setLong_8 : decode b_Mo_setLong 8 = .ok (.if_icmp .ge 23, 3) := by decide +kernel
theorem d_Mo_setLong_11 : decode b_Mo_setLong 11 = .ok (.aload_n 0, 1) := by decide +kernel
theorem d_Mo_setLong_12 : decode b_Mo_setLong 12 = .ok (.iload_n 3, 1) := by decide +kernel
theorem d_Mo_setLong_13 : decode b_Mo_setLong 13 = .ok (.lload_n 1, 1) := by decide +kernel
theorem d_Mo_setLong_14 : decode b_Mo_setLong 14 = .ok (.bipush 16, 2) := by decide +kernel
theorem d_Mo_setLong_16 : decode b_Mo_setLong 16 = .ok (.iload_n 3, 1) := by decide +kernel
theorem d_Mo_setLong_17 : decode b_Mo_setLong 17 = .ok (.imul, 1) := by decide +kernel
theorem d_Mo_setLong_18 : decode b_Mo_setLong 18 = .ok (.lushr, 1) := by decide +kernel
theorem d_Mo_setLong_19 : decode b_Mo_setLong 19 = .ok (.ldc2_w 58, 3) := by decide +kernel
theorem d_Mo_setLong_22 : decode b_Mo_setLong 22 = .ok (.land, 1) := by decide +kernel
theorem d_Mo_setLong_23 : decode b_Mo_setLong 23 = .ok (.l2i, 1) := by decide +kernel
theorem d_Mo_setLong_24 : decode b_Mo_setLong 24 = .ok (.iastore, 1) := by decide +kernel
theorem d_Mo_setLong_25 : decode b_Mo_setLong 25 = .ok (.iinc 3 1, 3) := by decide +kernel
theorem d_Mo_setLong_28 : decode b_Mo_setLong 28 = .ok (.goto (-22), 3) := by decide +kernel
theorem d_Mo_setLong_31 : decode b_Mo_setLong 31 = .ok (.return_, 1) := by decide +kernel
theorem d_Mo_bitsOf_0 : decode b_Mo_bitsOf 0 = .ok (.iconst 0, 1) := by decide +kernel
theorem d_Mo_bitsOf_1 : decode b_Mo_bitsOf 1 = .ok (.istore_n 1, 1) := by decide +kernel
theorem d_Mo_bitsOf_2 : decode b_Mo_bitsOf 2 = .ok (.iconst 0, 1) := by decide +kernel
theorem d_Mo_bitsOf_3 : decode b_Mo_bitsOf 3 = .ok (.istore_n 2, 1) := by decide +kernel
theorem d_Mo_bitsOf_4 : decode b_Mo_bitsOf 4 = .ok (.iload_n 2, 1) := by decide +kernel
theorem d_Mo_bitsOf_5 : decode b_Mo_bitsOf 5 = .ok (.bipush 56, 2) := by decide +kernel
theorem d_Mo_bitsOf_7 : decode b_Mo_bitsOf 7 = .ok (.if_icmp .ge 53, 3) := by decide +kernel
theorem d_Mo_bitsOf_10 : decode b_Mo_bitsOf 10 = .ok (.iconst 0, 1) := by decide +kernel
theorem d_Mo_bitsOf_11 : decode b_Mo_bitsOf 11 = .ok (.istore_n 3, 1) := by decide +kernel
theorem d_Mo_bitsOf_12 : decode b_Mo_bitsOf 12 = .ok (.iload_n 3, 1) := by decide +kernel
theorem d_Mo_bitsOf_13 : decode b_Mo_bitsOf 13 = .ok (.bipush 16, 2) := by decide +kernel
theorem d_Mo_bitsOf_15 : decode b_Mo_bitsOf 15 = .ok (.if_icmp .ge 39, 3) := by decide +kernel
theorem d_Mo_bitsOf_18 : decode b_Mo_bitsOf 18 = .ok (.aload_n 0, 1) := by decide +kernel
theorem d_Mo_bitsOf_19 : decode b_Mo_bitsOf 19 = .ok (.iload_n 2, 1) := by decide +kernel
theorem d_Mo_bitsOf_20 : decode b_Mo_bitsOf 20 = .ok (.iaload, 1) := by decide +kernel
theorem d_Mo_bitsOf_21 : decode b_Mo_bitsOf 21 = .ok (.ifCond .eq 33, 3) := by decide +kernel
theorem d_Mo_bitsOf_24 : decode b_Mo_bitsOf 24 = .ok (.aload_n 0, 1) := by decide +kernel
theorem d_Mo_bitsOf_25 : decode b_Mo_bitsOf 25 = .ok (.iload_n 2, 1) := by decide +kernel
theorem d_Mo_bitsOf_26 : decode b_Mo_bitsOf 26 = .ok (.iaload, 1) := by decide +kernel
theorem d_Mo_bitsOf_27 : decode b_Mo_bitsOf 27 = .ok (.iload_n 3, 1) := by decide +kernel
theorem d_Mo_bitsOf_28 : decode b_Mo_bitsOf 28 = .ok (.ishr, 1) := by decide +kernel
theorem d_Mo_bitsOf_29 : decode b_Mo_bitsOf 29 = .ok (.iconst 1, 1) := by decide +kernel
theorem d_Mo_bitsOf_30 : decode b_Mo_bitsOf 30 = .ok (.iand, 1) := by decide +kernel
theorem d_Mo_bitsOf_31 : decode b_Mo_bitsOf 31 = .ok (.iconst 1, 1) := by decide +kernel
theorem d_Mo_bitsOf_32 : decode b_Mo_bitsOf 32 = .ok (.if_icmp .ne 14, 3) := by decide +kernel
theorem d_Mo_bitsOf_35 : decode b_Mo_bitsOf 35 = .ok (.bipush 16, 2) := by decide +kernel
theorem d_Mo_bitsOf_37 : decode b_Mo_bitsOf 37 = .ok (.iload_n 2, 1) := by decide +kernel
theorem d_Mo_bitsOf_38 : decode b_Mo_bitsOf 38 = .ok (.imul, 1) := by decide +kernel
theorem d_Mo_bitsOf_39 : decode b_Mo_bitsOf 39 = .ok (.iload_n 3, 1) := by decide +kernel
theorem d_Mo_bitsOf_40 : decode b_Mo_bitsOf 40 = .ok (.iadd, 1) := by decide +kernel
theorem d_Mo_bitsOf_41 : decode b_Mo_bitsOf 41 = .ok (.iconst 1, 1) := by decide +kernel
theorem d_Mo_bitsOf_42 : decode b_Mo_bitsOf 42 = .ok (.iadd, 1) := by decide +kernel
theorem d_Mo_bitsOf_43 : decode b_Mo_bitsOf 43 = .ok (.goto 4, 3) := by decide +kernel
theorem d_Mo_bitsOf_46 : decode b_Mo_bitsOf 46 = .ok (.iload_n 1, 1) := by decide +kernel
theorem d_Mo_bitsOf_47 : decode b_Mo_bitsOf 47 = .ok (.istore_n 1, 1) := by decide +kernel
theorem d_Mo_bitsOf_48 : decode b_Mo_bitsOf 48 = .ok (.iinc 3 1, 3) := by decide +kernel
theorem d_Mo_bitsOf_51 : decode b_Mo_bitsOf 51 = .ok (.goto (-39), 3) := by decide +kernel
theorem d_Mo_bitsOf_54 : decode b_Mo_bitsOf 54 = .ok (.iinc 2 1, 3) := by decide +kernel
theorem d_Mo_bitsOf_57 : decode b_Mo_bitsOf 57 = .ok (.goto (-53), 3) := by decide +kernel
theorem d_Mo_bitsOf_60 : decode b_Mo_bitsOf 60 = .ok (.iload_n 1, 1) := by decide +kernel
theorem d_Mo_bitsOf_61 : decode b_Mo_bitsOf 61 = .ok (.ireturn, 1) := by decide +kernel
theorem d_Mo_isZero_0 : decode b_Mo_isZero 0 = .ok (.iconst 1, 1) := by decide +kernel
theorem d_Mo_isZero_1 : decode b_Mo_isZero 1 = .ok (.istore_n 1, 1) := by decide +kernel
theorem d_Mo_isZero_2 : decode b_Mo_isZero 2 = .ok (.iconst 0, 1) := by decide +kernel
theorem d_Mo_isZero_3 : decode b_Mo_isZero 3 = .ok (.istore_n 2, 1) := by decide +kernel
theorem d_Mo_isZero_4 : decode b_Mo_isZero 4 = .ok (.iload_n 2, 1) := by decide +kernel
theorem d_Mo_isZero_5 : decode b_Mo_isZero 5 = .ok (.bipush 56, 2) := by decide +kernel
theorem d_Mo_isZero_7 : decode b_Mo_isZero 7 = .ok (.if_icmp .ge 25, 3) := by decide +kernel
theorem d_Mo_isZero_10 : decode b_Mo_isZero 10 = .ok (.iload_n 1, 1) := by decide +kernel
theorem d_Mo_isZero_11 : decode b_Mo_isZero 11 = .ok (.ifCond .eq 13, 3) := by decide +kernel
theorem d_Mo_isZero_14 : decode b_Mo_isZero 14 = .ok (.aload_n 0, 1) := by decide +kernel
theorem d_Mo_isZero_15 : decode b_Mo_isZero 15 = .ok (.iload_n 2, 1) := by decide +kernel
theorem d_Mo_isZero_16 : decode b_Mo_isZero 16 = .ok (.iaload, 1) := by decide +kernel
theorem d_Mo_isZero_17 : decode b_Mo_isZero 17 = .ok (.ifCond .ne 7, 3) := by decide +kernel
theorem d_Mo_isZero_20 : decode b_Mo_isZero 20 = .ok (.iconst 1, 1) := by decide +kernel
theorem d_Mo_isZero_21 : decode b_Mo_isZero 21 = .ok (.goto 4, 3) := by decide +kernel
theorem d_Mo_isZero_24 : decode b_Mo_isZero 24 = .ok (.iconst 0, 1) := by decide +kernel
theorem d_Mo_isZero_25 : decode b_Mo_isZero 25 = .ok (.istore_n 1, 1) := by decide +kernel
theorem d_Mo_isZero_26 : decode b_Mo_isZero 26 = .ok (.iinc 2 1, 3) := by decide +kernel
theorem d_Mo_isZero_29 : decode b_Mo_isZero 29 = .ok (.goto (-25), 3) := by decide +kernel
theorem d_Mo_isZero_32 : decode b_Mo_isZero 32 = .ok (.iload_n 1, 1) := by decide +kernel
theorem d_Mo_isZero_33 : decode b_Mo_isZero 33 = .ok (.ireturn, 1) := by decide +kernel
theorem d_Mo_compared_0 : decode b_Mo_compared 0 = .ok (.iconst 0, 1) := by decide +kernel
theorem d_Mo_compared_1 : decode b_Mo_compared 1 = .ok (.istore_n 2, 1) := by decide +kernel
theorem d_Mo_compared_2 : decode b_Mo_compared 2 = .ok (.iconst 0, 1) := by decide +kernel
theorem d_Mo_compared_3 : decode b_Mo_compared 3 = .ok (.istore_n 3, 1) := by decide +kernel
theorem d_Mo_compared_4 : decode b_Mo_compared 4 = .ok (.iload_n 3, 1) := by decide +kernel
theorem d_Mo_compared_5 : decode b_Mo_compared 5 = .ok (.bipush 56, 2) := by decide +kernel
theorem d_Mo_compared_7 : decode b_Mo_compared 7 = .ok (.if_icmp .ge 37, 3) := by decide +kernel
theorem d_Mo_compared_10 : decode b_Mo_compared 10 = .ok (.aload_n 0, 1) := by decide +kernel
theorem d_Mo_compared_11 : decode b_Mo_compared 11 = .ok (.iload_n 3, 1) := by decide +kernel
theorem d_Mo_compared_12 : decode b_Mo_compared 12 = .ok (.iaload, 1) := by decide +kernel
theorem d_Mo_compared_13 : decode b_Mo_compared 13 = .ok (.aload_n 1, 1) := by decide +kernel
theorem d_Mo_compared_14 : decode b_Mo_compared 14 = .ok (.iload_n 3, 1) := by decide +kernel
theorem d_Mo_compared_15 : decode b_Mo_compared 15 = .ok (.iaload, 1) := by decide +kernel
theorem d_Mo_compared_16 : decode b_Mo_compared 16 = .ok (.if_icmp .ne 7, 3) := by decide +kernel
theorem d_Mo_compared_19 : decode b_Mo_compared 19 = .ok (.iload_n 2, 1) := by decide +kernel
theorem d_Mo_compared_20 : decode b_Mo_compared 20 = .ok (.goto 17, 3) := by decide +kernel
theorem d_Mo_compared_23 : decode b_Mo_compared 23 = .ok (.aload_n 0, 1) := by decide +kernel
theorem d_Mo_compared_24 : decode b_Mo_compared 24 = .ok (.iload_n 3, 1) := by decide +kernel
theorem d_Mo_compared_25 : decode b_Mo_compared 25 = .ok (.iaload, 1) := by decide +kernel
theorem d_Mo_compared_26 : decode b_Mo_compared 26 = .ok (.aload_n 1, 1) := by decide +kernel
theorem d_Mo_compared_27 : decode b_Mo_compared 27 = .ok (.iload_n 3, 1) := by decide +kernel
theorem d_Mo_compared_28 : decode b_Mo_compared 28 = .ok (.iaload, 1) := by decide +kernel
theorem d_Mo_compared_29 : decode b_Mo_compared 29 = .ok (.if_icmp .ge 7, 3) := by decide +kernel
theorem d_Mo_compared_32 : decode b_Mo_compared 32 = .ok (.iconst (-1), 1) := by decide +kernel
theorem d_Mo_compared_33 : decode b_Mo_compared 33 = .ok (.goto 4, 3) := by decide +kernel
theorem d_Mo_compared_36 : decode b_Mo_compared 36 = .ok (.iconst 1, 1) := by decide +kernel
theorem d_Mo_compared_37 : decode b_Mo_compared 37 = .ok (.istore_n 2, 1) := by decide +kernel
theorem d_Mo_compared_38 : decode b_Mo_compared 38 = .ok (.iinc 3 1, 3) := by decide +kernel
theorem d_Mo_compared_41 : decode b_Mo_compared 41 = .ok (.goto (-37), 3) := by decide +kernel
theorem d_Mo_compared_44 : decode b_Mo_compared 44 = .ok (.iload_n 2, 1) := by decide +kernel
theorem d_Mo_compared_45 : decode b_Mo_compared 45 = .ok (.ireturn, 1) := by decide +kernel
theorem d_Mo_addTo_0 : decode b_Mo_addTo 0 = .ok (.iconst 0, 1) := by decide +kernel
theorem d_Mo_addTo_1 : decode b_Mo_addTo 1 = .ok (.istore_n 2, 1) := by decide +kernel
theorem d_Mo_addTo_2 : decode b_Mo_addTo 2 = .ok (.iconst 0, 1) := by decide +kernel
theorem d_Mo_addTo_3 : decode b_Mo_addTo 3 = .ok (.istore_n 3, 1) := by decide +kernel
theorem d_Mo_addTo_4 : decode b_Mo_addTo 4 = .ok (.iload_n 3, 1) := by decide +kernel
theorem d_Mo_addTo_5 : decode b_Mo_addTo 5 = .ok (.bipush 56, 2) := by decide +kernel
theorem d_Mo_addTo_7 : decode b_Mo_addTo 7 = .ok (.if_icmp .ge 34, 3) := by decide +kernel
theorem d_Mo_addTo_10 : decode b_Mo_addTo 10 = .ok (.aload_n 0, 1) := by decide +kernel
theorem d_Mo_addTo_11 : decode b_Mo_addTo 11 = .ok (.iload_n 3, 1) := by decide +kernel
theorem d_Mo_addTo_12 : decode b_Mo_addTo 12 = .ok (.iaload, 1) := by decide +kernel
theorem d_Mo_addTo_13 : decode b_Mo_addTo 13 = .ok (.aload_n 1, 1) := by decide +kernel
theorem d_Mo_addTo_14 : decode b_Mo_addTo 14 = .ok (.iload_n 3, 1) := by decide +kernel
theorem d_Mo_addTo_15 : decode b_Mo_addTo 15 = .ok (.iaload, 1) := by decide +kernel
theorem d_Mo_addTo_16 : decode b_Mo_addTo 16 = .ok (.iadd, 1) := by decide +kernel
theorem d_Mo_addTo_17 : decode b_Mo_addTo 17 = .ok (.iload_n 2, 1) := by decide +kernel
theorem d_Mo_addTo_18 : decode b_Mo_addTo 18 = .ok (.iadd, 1) := by decide +kernel
theorem d_Mo_addTo_19 : decode b_Mo_addTo 19 = .ok (.istore 4, 2) := by decide +kernel
theorem d_Mo_addTo_21 : decode b_Mo_addTo 21 = .ok (.aload_n 0, 1) := by decide +kernel
theorem d_Mo_addTo_22 : decode b_Mo_addTo 22 = .ok (.iload_n 3, 1) := by decide +kernel
theorem d_Mo_addTo_23 : decode b_Mo_addTo 23 = .ok (.iload 4, 2) := by decide +kernel
theorem d_Mo_addTo_25 : decode b_Mo_addTo 25 = .ok (.ldc 60, 2) := by decide +kernel
theorem d_Mo_addTo_27 : decode b_Mo_addTo 27 = .ok (.iand, 1) := by decide +kernel
theorem d_Mo_addTo_28 : decode b_Mo_addTo 28 = .ok (.iastore, 1) := by decide +kernel
theorem d_Mo_addTo_29 : decode b_Mo_addTo 29 = .ok (.iload 4, 2) := by decide +kernel
theorem d_Mo_addTo_31 : decode b_Mo_addTo 31 = .ok (.bipush 16, 2) := by decide +kernel
theorem d_Mo_addTo_33 : decode b_Mo_addTo 33 = .ok (.ishr, 1) := by decide +kernel
theorem d_Mo_addTo_34 : decode b_Mo_addTo 34 = .ok (.istore_n 2, 1) := by decide +kernel
theorem d_Mo_addTo_35 : decode b_Mo_addTo 35 = .ok (.iinc 3 1, 3) := by decide +kernel
theorem d_Mo_addTo_38 : decode b_Mo_addTo 38 = .ok (.goto (-34), 3) := by decide +kernel
theorem d_Mo_addTo_41 : decode b_Mo_addTo 41 = .ok (.return_, 1) := by decide +kernel
theorem d_Mo_takeFrom_0 : decode b_Mo_takeFrom 0 = .ok (.iconst 0, 1) := by decide +kernel
theorem d_Mo_takeFrom_1 : decode b_Mo_takeFrom 1 = .ok (.istore_n 2, 1) := by decide +kernel
theorem d_Mo_takeFrom_2 : decode b_Mo_takeFrom 2 = .ok (.iconst 0, 1) := by decide +kernel
theorem d_Mo_takeFrom_3 : decode b_Mo_takeFrom 3 = .ok (.istore_n 3, 1) := by decide +kernel
theorem d_Mo_takeFrom_4 : decode b_Mo_takeFrom 4 = .ok (.iload_n 3, 1) := by decide +kernel
theorem d_Mo_takeFrom_5 : decode b_Mo_takeFrom 5 = .ok (.bipush 56, 2) := by decide +kernel
theorem d_Mo_takeFrom_7 : decode b_Mo_takeFrom 7 = .ok (.if_icmp .ge 39, 3) := by decide +kernel
theorem d_Mo_takeFrom_10 : decode b_Mo_takeFrom 10 = .ok (.aload_n 0, 1) := by decide +kernel
theorem d_Mo_takeFrom_11 : decode b_Mo_takeFrom 11 = .ok (.iload_n 3, 1) := by decide +kernel
theorem d_Mo_takeFrom_12 : decode b_Mo_takeFrom 12 = .ok (.iaload, 1) := by decide +kernel
theorem d_Mo_takeFrom_13 : decode b_Mo_takeFrom 13 = .ok (.aload_n 1, 1) := by decide +kernel
theorem d_Mo_takeFrom_14 : decode b_Mo_takeFrom 14 = .ok (.iload_n 3, 1) := by decide +kernel
theorem d_Mo_takeFrom_15 : decode b_Mo_takeFrom 15 = .ok (.iaload, 1) := by decide +kernel
theorem d_Mo_takeFrom_16 : decode b_Mo_takeFrom 16 = .ok (.isub, 1) := by decide +kernel
theorem d_Mo_takeFrom_17 : decode b_Mo_takeFrom 17 = .ok (.iload_n 2, 1) := by decide +kernel
theorem d_Mo_takeFrom_18 : decode b_Mo_takeFrom 18 = .ok (.isub, 1) := by decide +kernel
theorem d_Mo_takeFrom_19 : decode b_Mo_takeFrom 19 = .ok (.istore 4, 2) := by decide +kernel
theorem d_Mo_takeFrom_21 : decode b_Mo_takeFrom 21 = .ok (.aload_n 0, 1) := by decide +kernel
theorem d_Mo_takeFrom_22 : decode b_Mo_takeFrom 22 = .ok (.iload_n 3, 1) := by decide +kernel
theorem d_Mo_takeFrom_23 : decode b_Mo_takeFrom 23 = .ok (.iload 4, 2) := by decide +kernel
theorem d_Mo_takeFrom_25 : decode b_Mo_takeFrom 25 = .ok (.ldc 60, 2) := by decide +kernel
theorem d_Mo_takeFrom_27 : decode b_Mo_takeFrom 27 = .ok (.iand, 1) := by decide +kernel
theorem d_Mo_takeFrom_28 : decode b_Mo_takeFrom 28 = .ok (.iastore, 1) := by decide +kernel
theorem d_Mo_takeFrom_29 : decode b_Mo_takeFrom 29 = .ok (.iload 4, 2) := by decide +kernel
theorem d_Mo_takeFrom_31 : decode b_Mo_takeFrom 31 = .ok (.ifCond .ge 7, 3) := by decide +kernel
theorem d_Mo_takeFrom_34 : decode b_Mo_takeFrom 34 = .ok (.iconst 1, 1) := by decide +kernel
theorem d_Mo_takeFrom_35 : decode b_Mo_takeFrom 35 = .ok (.goto 4, 3) := by decide +kernel
theorem d_Mo_takeFrom_38 : decode b_Mo_takeFrom 38 = .ok (.iconst 0, 1) := by decide +kernel
theorem d_Mo_takeFrom_39 : decode b_Mo_takeFrom 39 = .ok (.istore_n 2, 1) := by decide +kernel
theorem d_Mo_takeFrom_40 : decode b_Mo_takeFrom 40 = .ok (.iinc 3 1, 3) := by decide +kernel
theorem d_Mo_takeFrom_43 : decode b_Mo_takeFrom 43 = .ok (.goto (-39), 3) := by decide +kernel
theorem d_Mo_takeFrom_46 : decode b_Mo_takeFrom 46 = .ok (.return_, 1) := by decide +kernel
theorem d_Mo_multiply_0 : decode b_Mo_multiply 0 = .ok (.aload_n 2, 1) := by decide +kernel
theorem d_Mo_multiply_1 : decode b_Mo_multiply 1 = .ok (.invokestatic 54, 3) := by decide +kernel
theorem d_Mo_multiply_4 : decode b_Mo_multiply 4 = .ok (.iconst 0, 1) := by decide +kernel
theorem d_Mo_multiply_5 : decode b_Mo_multiply 5 = .ok (.istore_n 3, 1) := by decide +kernel
theorem d_Mo_multiply_6 : decode b_Mo_multiply 6 = .ok (.iload_n 3, 1) := by decide +kernel
theorem d_Mo_multiply_7 : decode b_Mo_multiply 7 = .ok (.bipush 56, 2) := by decide +kernel
theorem d_Mo_multiply_9 : decode b_Mo_multiply 9 = .ok (.if_icmp .ge 79, 3) := by decide +kernel
theorem d_Mo_multiply_12 : decode b_Mo_multiply 12 = .ok (.lconst 0, 1) := by decide +kernel
theorem d_Mo_multiply_13 : decode b_Mo_multiply 13 = .ok (.lstore 4, 2) := by decide +kernel
theorem d_Mo_multiply_15 : decode b_Mo_multiply 15 = .ok (.iconst 0, 1) := by decide +kernel
theorem d_Mo_multiply_16 : decode b_Mo_multiply 16 = .ok (.istore 6, 2) := by decide +kernel
theorem d_Mo_multiply_18 : decode b_Mo_multiply 18 = .ok (.iload_n 3, 1) := by decide +kernel
theorem d_Mo_multiply_19 : decode b_Mo_multiply 19 = .ok (.iload 6, 2) := by decide +kernel
theorem d_Mo_multiply_21 : decode b_Mo_multiply 21 = .ok (.iadd, 1) := by decide +kernel
theorem d_Mo_multiply_22 : decode b_Mo_multiply 22 = .ok (.bipush 56, 2) := by decide +kernel
theorem d_Mo_multiply_24 : decode b_Mo_multiply 24 = .ok (.if_icmp .ge 58, 3) := by decide +kernel
theorem d_Mo_multiply_27 : decode b_Mo_multiply 27 = .ok (.aload_n 0, 1) := by decide +kernel
theorem d_Mo_multiply_28 : decode b_Mo_multiply 28 = .ok (.iload_n 3, 1) := by decide +kernel
theorem d_Mo_multiply_29 : decode b_Mo_multiply 29 = .ok (.iaload, 1) := by decide +kernel
theorem d_Mo_multiply_30 : decode b_Mo_multiply 30 = .ok (.ifCond .eq 52, 3) := by decide +kernel
theorem d_Mo_multiply_33 : decode b_Mo_multiply 33 = .ok (.aload_n 0, 1) := by decide +kernel
theorem d_Mo_multiply_34 : decode b_Mo_multiply 34 = .ok (.iload_n 3, 1) := by decide +kernel
theorem d_Mo_multiply_35 : decode b_Mo_multiply 35 = .ok (.iaload, 1) := by decide +kernel
theorem d_Mo_multiply_36 : decode b_Mo_multiply 36 = .ok (.i2l, 1) := by decide +kernel
theorem d_Mo_multiply_37 : decode b_Mo_multiply 37 = .ok (.aload_n 1, 1) := by decide +kernel
theorem d_Mo_multiply_38 : decode b_Mo_multiply 38 = .ok (.iload 6, 2) := by decide +kernel
theorem d_Mo_multiply_40 : decode b_Mo_multiply 40 = .ok (.iaload, 1) := by decide +kernel
theorem d_Mo_multiply_41 : decode b_Mo_multiply 41 = .ok (.i2l, 1) := by decide +kernel
theorem d_Mo_multiply_42 : decode b_Mo_multiply 42 = .ok (.lmul, 1) := by decide +kernel
theorem d_Mo_multiply_43 : decode b_Mo_multiply 43 = .ok (.aload_n 2, 1) := by decide +kernel
theorem d_Mo_multiply_44 : decode b_Mo_multiply 44 = .ok (.iload_n 3, 1) := by decide +kernel
theorem d_Mo_multiply_45 : decode b_Mo_multiply 45 = .ok (.iload 6, 2) := by decide +kernel
theorem d_Mo_multiply_47 : decode b_Mo_multiply 47 = .ok (.iadd, 1) := by decide +kernel
theorem d_Mo_multiply_48 : decode b_Mo_multiply 48 = .ok (.iaload, 1) := by decide +kernel
theorem d_Mo_multiply_49 : decode b_Mo_multiply 49 = .ok (.i2l, 1) := by decide +kernel
theorem d_Mo_multiply_50 : decode b_Mo_multiply 50 = .ok (.ladd, 1) := by decide +kernel
theorem d_Mo_multiply_51 : decode b_Mo_multiply 51 = .ok (.lload 4, 2) := by decide +kernel
theorem d_Mo_multiply_53 : decode b_Mo_multiply 53 = .ok (.ladd, 1) := by decide +kernel
theorem d_Mo_multiply_54 : decode b_Mo_multiply 54 = .ok (.lstore 7, 2) := by decide +kernel
theorem d_Mo_multiply_56 : decode b_Mo_multiply 56 = .ok (.aload_n 2, 1) := by decide +kernel
theorem d_Mo_multiply_57 : decode b_Mo_multiply 57 = .ok (.iload_n 3, 1) := by decide +kernel
theorem d_Mo_multiply_58 : decode b_Mo_multiply 58 = .ok (.iload 6, 2) := by decide +kernel
theorem d_Mo_multiply_60 : decode b_Mo_multiply 60 = .ok (.iadd, 1) := by decide +kernel
theorem d_Mo_multiply_61 : decode b_Mo_multiply 61 = .ok (.lload 7, 2) := by decide +kernel
theorem d_Mo_multiply_63 : decode b_Mo_multiply 63 = .ok (.ldc2_w 58, 3) := by decide +kernel
theorem d_Mo_multiply_66 : decode b_Mo_multiply 66 = .ok (.land, 1) := by decide +kernel
theorem d_Mo_multiply_67 : decode b_Mo_multiply 67 = .ok (.l2i, 1) := by decide +kernel
theorem d_Mo_multiply_68 : decode b_Mo_multiply 68 = .ok (.iastore, 1) := by decide +kernel
theorem d_Mo_multiply_69 : decode b_Mo_multiply 69 = .ok (.lload 7, 2) := by decide +kernel
theorem d_Mo_multiply_71 : decode b_Mo_multiply 71 = .ok (.bipush 16, 2) := by decide +kernel
theorem d_Mo_multiply_73 : decode b_Mo_multiply 73 = .ok (.lshr, 1) := by decide +kernel
theorem d_Mo_multiply_74 : decode b_Mo_multiply 74 = .ok (.lstore 4, 2) := by decide +kernel
theorem d_Mo_multiply_76 : decode b_Mo_multiply 76 = .ok (.iinc 6 1, 3) := by decide +kernel
theorem d_Mo_multiply_79 : decode b_Mo_multiply 79 = .ok (.goto (-61), 3) := by decide +kernel
theorem d_Mo_multiply_82 : decode b_Mo_multiply 82 = .ok (.iinc 3 1, 3) := by decide +kernel
theorem d_Mo_multiply_85 : decode b_Mo_multiply 85 = .ok (.goto (-79), 3) := by decide +kernel
theorem d_Mo_multiply_88 : decode b_Mo_multiply 88 = .ok (.return_, 1) := by decide +kernel
theorem d_Mo_doubled_0 : decode b_Mo_doubled 0 = .ok (.iload_n 1, 1) := by decide +kernel
theorem d_Mo_doubled_1 : decode b_Mo_doubled 1 = .ok (.istore_n 2, 1) := by decide +kernel
theorem d_Mo_doubled_2 : decode b_Mo_doubled 2 = .ok (.iconst 0, 1) := by decide +kernel
theorem d_Mo_doubled_3 : decode b_Mo_doubled 3 = .ok (.istore_n 3, 1) := by decide +kernel
theorem d_Mo_doubled_4 : decode b_Mo_doubled 4 = .ok (.iload_n 3, 1) := by decide +kernel
theorem d_Mo_doubled_5 : decode b_Mo_doubled 5 = .ok (.bipush 56, 2) := by decide +kernel
theorem d_Mo_doubled_7 : decode b_Mo_doubled 7 = .ok (.if_icmp .ge 32, 3) := by decide +kernel
theorem d_Mo_doubled_10 : decode b_Mo_doubled 10 = .ok (.iconst 2, 1) := by decide +kernel
theorem d_Mo_doubled_11 : decode b_Mo_doubled 11 = .ok (.aload_n 0, 1) := by decide +kernel
theorem d_Mo_doubled_12 : decode b_Mo_doubled 12 = .ok (.iload_n 3, 1) := by decide +kernel
theorem d_Mo_doubled_13 : decode b_Mo_doubled 13 = .ok (.iaload, 1) := by decide +kernel
theorem d_Mo_doubled_14 : decode b_Mo_doubled 14 = .ok (.imul, 1) := by decide +kernel
theorem d_Mo_doubled_15 : decode b_Mo_doubled 15 = .ok (.iload_n 2, 1) := by decide +kernel
theorem d_Mo_doubled_16 : decode b_Mo_doubled 16 = .ok (.iadd, 1) := by decide +kernel
theorem d_Mo_doubled_17 : decode b_Mo_doubled 17 = .ok (.istore 4, 2) := by decide +kernel
theorem d_Mo_doubled_19 : decode b_Mo_doubled 19 = .ok (.aload_n 0, 1) := by decide +kernel
theorem d_Mo_doubled_20 : decode b_Mo_doubled 20 = .ok (.iload_n 3, 1) := by decide +kernel
theorem d_Mo_doubled_21 : decode b_Mo_doubled 21 = .ok (.iload 4, 2) := by decide +kernel
theorem d_Mo_doubled_23 : decode b_Mo_doubled 23 = .ok (.ldc 60, 2) := by decide +kernel
theorem d_Mo_doubled_25 : decode b_Mo_doubled 25 = .ok (.iand, 1) := by decide +kernel
theorem d_Mo_doubled_26 : decode b_Mo_doubled 26 = .ok (.iastore, 1) := by decide +kernel
theorem d_Mo_doubled_27 : decode b_Mo_doubled 27 = .ok (.iload 4, 2) := by decide +kernel
theorem d_Mo_doubled_29 : decode b_Mo_doubled 29 = .ok (.bipush 16, 2) := by decide +kernel
theorem d_Mo_doubled_31 : decode b_Mo_doubled 31 = .ok (.ishr, 1) := by decide +kernel
theorem d_Mo_doubled_32 : decode b_Mo_doubled 32 = .ok (.istore_n 2, 1) := by decide +kernel
theorem d_Mo_doubled_33 : decode b_Mo_doubled 33 = .ok (.iinc 3 1, 3) := by decide +kernel
theorem d_Mo_doubled_36 : decode b_Mo_doubled 36 = .ok (.goto (-32), 3) := by decide +kernel
theorem d_Mo_doubled_39 : decode b_Mo_doubled 39 = .ok (.return_, 1) := by decide +kernel
theorem d_Mo_halved_0 : decode b_Mo_halved 0 = .ok (.iconst 0, 1) := by decide +kernel
theorem d_Mo_halved_1 : decode b_Mo_halved 1 = .ok (.istore_n 1, 1) := by decide +kernel
theorem d_Mo_halved_2 : decode b_Mo_halved 2 = .ok (.iload_n 1, 1) := by decide +kernel
theorem d_Mo_halved_3 : decode b_Mo_halved 3 = .ok (.bipush 56, 2) := by decide +kernel
theorem d_Mo_halved_5 : decode b_Mo_halved 5 = .ok (.if_icmp .ge 42, 3) := by decide +kernel
theorem d_Mo_halved_8 : decode b_Mo_halved 8 = .ok (.iload_n 1, 1) := by decide +kernel
theorem d_Mo_halved_9 : decode b_Mo_halved 9 = .ok (.iconst 1, 1) := by decide +kernel
theorem d_Mo_halved_10 : decode b_Mo_halved 10 = .ok (.iadd, 1) := by decide +kernel
theorem d_Mo_halved_11 : decode b_Mo_halved 11 = .ok (.bipush 56, 2) := by decide +kernel
theorem d_Mo_halved_13 : decode b_Mo_halved 13 = .ok (.if_icmp .ge 13, 3) := by decide +kernel
theorem d_Mo_halved_16 : decode b_Mo_halved 16 = .ok (.aload_n 0, 1) := by decide +kernel
theorem d_Mo_halved_17 : decode b_Mo_halved 17 = .ok (.iload_n 1, 1) := by decide +kernel
theorem d_Mo_halved_18 : decode b_Mo_halved 18 = .ok (.iconst 1, 1) := by decide +kernel
theorem d_Mo_halved_19 : decode b_Mo_halved 19 = .ok (.iadd, 1) := by decide +kernel
theorem d_Mo_halved_20 : decode b_Mo_halved 20 = .ok (.iaload, 1) := by decide +kernel
theorem d_Mo_halved_21 : decode b_Mo_halved 21 = .ok (.iconst 1, 1) := by decide +kernel
theorem d_Mo_halved_22 : decode b_Mo_halved 22 = .ok (.iand, 1) := by decide +kernel
theorem d_Mo_halved_23 : decode b_Mo_halved 23 = .ok (.goto 4, 3) := by decide +kernel
theorem d_Mo_halved_26 : decode b_Mo_halved 26 = .ok (.iconst 0, 1) := by decide +kernel
theorem d_Mo_halved_27 : decode b_Mo_halved 27 = .ok (.istore_n 2, 1) := by decide +kernel
theorem d_Mo_halved_28 : decode b_Mo_halved 28 = .ok (.aload_n 0, 1) := by decide +kernel
theorem d_Mo_halved_29 : decode b_Mo_halved 29 = .ok (.iload_n 1, 1) := by decide +kernel
theorem d_Mo_halved_30 : decode b_Mo_halved 30 = .ok (.aload_n 0, 1) := by decide +kernel
theorem d_Mo_halved_31 : decode b_Mo_halved 31 = .ok (.iload_n 1, 1) := by decide +kernel
theorem d_Mo_halved_32 : decode b_Mo_halved 32 = .ok (.iaload, 1) := by decide +kernel
theorem d_Mo_halved_33 : decode b_Mo_halved 33 = .ok (.iconst 1, 1) := by decide +kernel
theorem d_Mo_halved_34 : decode b_Mo_halved 34 = .ok (.ishr, 1) := by decide +kernel
theorem d_Mo_halved_35 : decode b_Mo_halved 35 = .ok (.iload_n 2, 1) := by decide +kernel
theorem d_Mo_halved_36 : decode b_Mo_halved 36 = .ok (.bipush 15, 2) := by decide +kernel
theorem d_Mo_halved_38 : decode b_Mo_halved 38 = .ok (.ishl, 1) := by decide +kernel
theorem d_Mo_halved_39 : decode b_Mo_halved 39 = .ok (.ior, 1) := by decide +kernel
theorem d_Mo_halved_40 : decode b_Mo_halved 40 = .ok (.iastore, 1) := by decide +kernel
theorem d_Mo_halved_41 : decode b_Mo_halved 41 = .ok (.iinc 1 1, 3) := by decide +kernel
theorem d_Mo_halved_44 : decode b_Mo_halved 44 = .ok (.goto (-42), 3) := by decide +kernel
theorem d_Mo_halved_47 : decode b_Mo_halved 47 = .ok (.return_, 1) := by decide +kernel
theorem d_Mo_shifted_0 : decode b_Mo_shifted 0 = .ok (.iconst 0, 1) := by decide +kernel
theorem d_Mo_shifted_1 : decode b_Mo_shifted 1 = .ok (.istore_n 2, 1) := by decide +kernel
theorem d_Mo_shifted_2 : decode b_Mo_shifted 2 = .ok (.iload_n 2, 1) := by decide +kernel
theorem d_Mo_shifted_3 : decode b_Mo_shifted 3 = .ok (.iload_n 1, 1) := by decide +kernel
theorem d_Mo_shifted_4 : decode b_Mo_shifted 4 = .ok (.if_icmp .ge 14, 3) := by decide +kernel
theorem d_Mo_shifted_7 : decode b_Mo_shifted 7 = .ok (.aload_n 0, 1) := by decide +kernel
theorem d_Mo_shifted_8 : decode b_Mo_shifted 8 = .ok (.iconst 0, 1) := by decide +kernel
theorem d_Mo_shifted_9 : decode b_Mo_shifted 9 = .ok (.invokestatic 61, 3) := by decide +kernel
theorem d_Mo_shifted_12 : decode b_Mo_shifted 12 = .ok (.iinc 2 1, 3) := by decide +kernel
theorem d_Mo_shifted_15 : decode b_Mo_shifted 15 = .ok (.goto (-13), 3) := by decide +kernel
theorem d_Mo_shifted_18 : decode b_Mo_shifted 18 = .ok (.return_, 1) := by decide +kernel
theorem d_Mo_exchange_0 : decode b_Mo_exchange 0 = .ok (.iconst 0, 1) := by decide +kernel
theorem d_Mo_exchange_1 : decode b_Mo_exchange 1 = .ok (.istore_n 2, 1) := by decide +kernel
theorem d_Mo_exchange_2 : decode b_Mo_exchange 2 = .ok (.iload_n 2, 1) := by decide +kernel
theorem d_Mo_exchange_3 : decode b_Mo_exchange 3 = .ok (.bipush 56, 2) := by decide +kernel
theorem d_Mo_exchange_5 : decode b_Mo_exchange 5 = .ok (.if_icmp .ge 23, 3) := by decide +kernel
theorem d_Mo_exchange_8 : decode b_Mo_exchange 8 = .ok (.aload_n 0, 1) := by decide +kernel
theorem d_Mo_exchange_9 : decode b_Mo_exchange 9 = .ok (.iload_n 2, 1) := by decide +kernel
theorem d_Mo_exchange_10 : decode b_Mo_exchange 10 = .ok (.iaload, 1) := by decide +kernel
theorem d_Mo_exchange_11 : decode b_Mo_exchange 11 = .ok (.istore_n 3, 1) := by decide +kernel
theorem d_Mo_exchange_12 : decode b_Mo_exchange 12 = .ok (.aload_n 0, 1) := by decide +kernel
theorem d_Mo_exchange_13 : decode b_Mo_exchange 13 = .ok (.iload_n 2, 1) := by decide +kernel
theorem d_Mo_exchange_14 : decode b_Mo_exchange 14 = .ok (.aload_n 1, 1) := by decide +kernel
theorem d_Mo_exchange_15 : decode b_Mo_exchange 15 = .ok (.iload_n 2, 1) := by decide +kernel
theorem d_Mo_exchange_16 : decode b_Mo_exchange 16 = .ok (.iaload, 1) := by decide +kernel
theorem d_Mo_exchange_17 : decode b_Mo_exchange 17 = .ok (.iastore, 1) := by decide +kernel
theorem d_Mo_exchange_18 : decode b_Mo_exchange 18 = .ok (.aload_n 1, 1) := by decide +kernel
theorem d_Mo_exchange_19 : decode b_Mo_exchange 19 = .ok (.iload_n 2, 1) := by decide +kernel
theorem d_Mo_exchange_20 : decode b_Mo_exchange 20 = .ok (.iload_n 3, 1) := by decide +kernel
theorem d_Mo_exchange_21 : decode b_Mo_exchange 21 = .ok (.iastore, 1) := by decide +kernel
theorem d_Mo_exchange_22 : decode b_Mo_exchange 22 = .ok (.iinc 2 1, 3) := by decide +kernel
theorem d_Mo_exchange_25 : decode b_Mo_exchange 25 = .ok (.goto (-23), 3) := by decide +kernel
theorem d_Mo_exchange_28 : decode b_Mo_exchange 28 = .ok (.return_, 1) := by decide +kernel
theorem c_Mo_in (l : Launch) (g : Gh) (nx : Nat) (x a b : Int64) : Ct l m_Mo_in 0 0 [.long x, .long a, .long b] g nx (pP (some (.int (if a.toInt ≤ x.toInt ∧ x.toInt ≤ b.toInt then 1 else 0))) g nx) := by
  refine Ct.of (by decide) (Nat.le_of_ble_eq_true rfl) (fun E hE hQ => ?_)
  have no : ∀ lv, ¬ (a.toInt ≤ x.toInt ∧ x.toInt ≤ b.toInt) → zJ E g nx 0 0 17 lv [] := by
    intro lv h
    refine z_iconst (v := 0) hE d_Mo_in_17 (by decide) ?_
    exact z_zret hE hQ d_Mo_in_18 rfl (Nat.le_refl _) (Nat.le_refl _) (Or.inl rfl) ⟨by rw [if_neg h], rfl, rfl⟩
  refine z_lload_n hE d_Mo_in_0 rfl ?_
  refine z_lload_n hE d_Mo_in_1 rfl ?_
  refine z_lcmp hE d_Mo_in_2 ?_
  refine z_if_lt (tgt := 17) hE d_Mo_in_3 (by decide) (fun c_3 => ?_) (fun c_3 => ?_)
  · rw [lg_cmp_lt, Int64.lt_iff_toInt_lt] at c_3
    exact no _ (by omega)
  · rw [lg_cmp_lt, Int64.lt_iff_toInt_lt] at c_3
    refine z_lload_n hE d_Mo_in_6 rfl ?_
    refine z_lload hE d_Mo_in_7 rfl ?_
    refine z_lcmp hE d_Mo_in_9 ?_
    refine z_if_gt (tgt := 17) hE d_Mo_in_10 (by decide) (fun c_10 => ?_) (fun c_10 => ?_)
    · rw [lg_cmp_gt, Int64.lt_iff_toInt_lt] at c_10
      exact no _ (by omega)
    · rw [lg_cmp_gt, Int64.lt_iff_toInt_lt] at c_10
      refine z_iconst (v := 1) hE d_Mo_in_13 (by decide) ?_
      refine z_goto (tgt := 18) hE d_Mo_in_14 (by decide) ?_
      exact z_zret hE hQ d_Mo_in_18 rfl (Nat.le_refl _) (Nat.le_refl _) (Or.inr rfl) ⟨by rw [if_pos ⟨by omega, by omega⟩], rfl, rfl⟩
theorem c_Mo_clear (l : Launch) {g : Gh} (nx : Nat) {a v : Nat} (hA : MA g a v) : Ct l m_Mo_clear 0 0 [.ref a] g nx (p1 g a 0 nx) := by
  obtain ⟨d, hd, -⟩ := hA
  refine Ct.of (by decide) (Nat.le_of_ble_eq_true rfl) (fun E hE hQ => ?_)
  have loop : ∀ (u k : Nat) (g' : Gh) (d' : Nat → Nat), k + u = 56 → I56 g' a d' → g1 g g' a → (∀ j, j < k → d' j = 0) → ∀ lv, lG lv 0 = some (.ref a) → lG lv 1 = some (.int (nI k)) → zJ E g' nx 0 0 2 lv [] := by
    intro u
    induction u with
    | zero =>
      intro k g' d' hu hI hg hz lv l0 l1
      refine z_sub (lv' := [(0, .ref a), (1, .int (nI k))]) (by simp only [List.map, l0, l1]) ?_
      obtain rfl : k = 56 := by omega
      have hI1 := hI.1
      refine z_iload_n hE d_Mo_clear_2 rfl ?_
      refine z_bipush (v := nI 56) hE d_Mo_clear_3 (by decide) ?_
      refine z_icmp_ge (tgt := 18) hE d_Mo_clear_5 (by decide) (fun _ => ?_) (fun c_ => absurd c_ (fun z => z ((nI_LE (by omega) (by omega)).mpr (by omega))))
      exact z_vret hE hQ d_Mo_clear_18 rfl (Nat.le_refl _) (Nat.le_refl _) ⟨rfl, rfl, ⟨d', hI, w16_z 56 hz⟩, hg⟩
    | succ u ih =>
      intro k g' d' hu hI hg hz lv l0 l1
      refine z_sub (lv' := [(0, .ref a), (1, .int (nI k))]) (by simp only [List.map, l0, l1]) ?_
      have hI1 := hI.1
      refine z_iload_n hE d_Mo_clear_2 rfl ?_
      refine z_bipush (v := nI 56) hE d_Mo_clear_3 (by decide) ?_
      refine z_icmp_ge (tgt := 18) hE d_Mo_clear_5 (by decide) (fun c_ => absurd c_ (fun z => absurd ((nI_LE (by omega) (by omega)).mp z) (by omega))) (fun _ => ?_)
      refine z_aload_n hE d_Mo_clear_8 rfl ?_
      refine z_iload_n hE d_Mo_clear_9 rfl ?_
      refine z_iconst (v := nI 0) hE d_Mo_clear_10 (by decide) ?_
      refine z_iast hE d_Mo_clear_11 (by assumption) (nI_in' (by omega : k < 56) (by omega)) ?_
      rw [nI_cl (by omega)]
      refine z_iinc (v := nI (k + 1)) hE d_Mo_clear_12 rfl (nI_1 k) (by decide) ?_
      refine z_goto (tgt := 2) hE d_Mo_clear_15 (by decide) ?_
      refine ih (k + 1) _ _ (by omega) (I56_S hI (by omega)) (g1_t hg g1_S) (fun j hj => ?_) _ rfl rfl
      unfold upN
      by_cases hjk : j = k
      · rw [if_pos hjk]
      · rw [if_neg hjk]; exact hz j (by omega)
  refine z_iconst (v := nI 0) hE d_Mo_clear_0 (by decide) ?_
  refine z_istore_n hE d_Mo_clear_1 rfl (by decide) ?_
  exact loop 56 0 g d (by omega) hd g1_r (fun j hj => by omega) _ rfl rfl
theorem c_Mo_lay (l : Launch) {g : Gh} (nx : Nat) {a b v w : Nat} (hA : MA g a v) (hB : MA g b w) (hne : a ≠ b) : Ct l m_Mo_lay 0 0 [.ref a, .ref b] g nx (p1 g b v nx) := by
  obtain ⟨e, he, hv⟩ := hA
  obtain ⟨d, hd, -⟩ := hB
  refine Ct.of (by decide) (Nat.le_of_ble_eq_true rfl) (fun E hE hQ => ?_)
  have loop : ∀ (u k : Nat) (g' : Gh) (d' : Nat → Nat), k + u = 56 → I56 g' b d' → g1 g g' b → (∀ j, j < k → d' j = e j) → ∀ lv, lG lv 0 = some (.ref a) → lG lv 1 = some (.ref b) → lG lv 2 = some (.int (nI k)) → zJ E g' nx 0 0 2 lv [] := by
    intro u
    induction u with
    | zero =>
      intro k g' d' hu hI hg hz lv l0 l1 l2
      refine z_sub (lv' := [(0, .ref a), (1, .ref b), (2, .int (nI k))]) (by simp only [List.map, l0, l1, l2]) ?_
      obtain rfl : k = 56 := by omega
      have hI1 := hI.1
      have he1 := (I56_o he hg hne).1
      refine z_iload_n hE d_Mo_lay_2 rfl ?_
      refine z_bipush (v := nI 56) hE d_Mo_lay_3 (by decide) ?_
      refine z_icmp_ge (tgt := 20) hE d_Mo_lay_5 (by decide) (fun _ => ?_) (fun c_ => absurd c_ (fun z => z ((nI_LE (by omega) (by omega)).mpr (by omega))))
      exact z_vret hE hQ d_Mo_lay_20 rfl (Nat.le_refl _) (Nat.le_refl _) ⟨rfl, rfl, ⟨d', hI, (w16_ext 56 hz).trans hv⟩, hg⟩
    | succ u ih =>
      intro k g' d' hu hI hg hz lv l0 l1 l2
      refine z_sub (lv' := [(0, .ref a), (1, .ref b), (2, .int (nI k))]) (by simp only [List.map, l0, l1, l2]) ?_
      have hI1 := hI.1
      have he1 := (I56_o he hg hne).1
      refine z_iload_n hE d_Mo_lay_2 rfl ?_
      refine z_bipush (v := nI 56) hE d_Mo_lay_3 (by decide) ?_
      refine z_icmp_ge (tgt := 20) hE d_Mo_lay_5 (by decide) (fun c_ => absurd c_ (fun z => absurd ((nI_LE (by omega) (by omega)).mp z) (by omega))) (fun _ => ?_)
      refine z_aload_n hE d_Mo_lay_8 rfl ?_
      refine z_iload_n hE d_Mo_lay_9 rfl ?_
      refine z_aload_n hE d_Mo_lay_10 rfl ?_
      refine z_iload_n hE d_Mo_lay_11 rfl ?_
      refine z_iald hE d_Mo_lay_12 (by assumption) (nI_in' (by omega : k < 56) (by omega)) ?_
      rw [nI_cl (by omega)]
      refine z_iast hE d_Mo_lay_13 (by assumption) (nI_in' (by omega : k < 56) (by omega)) ?_
      rw [nI_cl (by omega)]
      refine z_iinc (v := nI (k + 1)) hE d_Mo_lay_14 rfl (nI_1 k) (by decide) ?_
      refine z_goto (tgt := 2) hE d_Mo_lay_17 (by decide) ?_
      refine ih (k + 1) _ _ (by omega) (I56_S hI (he.2 k)) (g1_t hg g1_S) (fun j hj => ?_) _ rfl rfl rfl
      unfold upN
      by_cases hjk : j = k
      · rw [if_pos hjk, hjk]
      · rw [if_neg hjk]; exact hz j (by omega)
  refine z_iconst (v := nI 0) hE d_Mo_lay_0 (by decide) ?_
  refine z_istore_n hE d_Mo_lay_1 rfl (by decide) ?_
  exact loop 56 0 g d (by omega) hd g1_r (fun j hj => by omega) _ rfl rfl rfl
theorem c_Mo_setLong (l : Launch) {g : Gh} (nx : Nat) {a w : Nat} (hA : MA g a w) (x : Nat) (hx : x < 18446744073709551616) : Ct l m_Mo_setLong 0 0 [.ref a, .long (lN x)] g nx (p1 g a x nx) := by
  refine Ct.of (by decide) (Nat.le_of_ble_eq_true rfl) (fun E hE hQ => ?_)
  refine z_aload_n hE d_Mo_setLong_0 rfl ?_
  refine z_callS hE d_Mo_setLong_1 cl_Mo_54 (c_Mo_clear l nx hA) rfl (Nat.le_of_ble_eq_true rfl) ⟨by decide, by decide⟩ ⟨by omega, by omega⟩ (fun r_1 g_1 nx_1 hp_1 => ?_) rfl
  try dsimp only [Option.toList, List.nil_append, List.cons_append]
  obtain ⟨rfl, rfl, ⟨d, hd, hv⟩, hg0⟩ := hp_1
  try dsimp only [Option.toList, List.nil_append, List.cons_append]
  have hz0 := w16_0 hv
  have loop : ∀ (u k : Nat) (g' : Gh) (d' : Nat → Nat), k + u = 4 → I56 g' a d' → g1 g g' a → (∀ j, k ≤ j → j < 56 → d' j = 0) → w16 d' k = x % 65536 ^ k → ∀ lv, lG lv 0 = some (.ref a) → lG lv 1 = some (.long (lN x)) → lG lv 3 = some (.int (nI k)) → zJ E g' nx 0 0 6 lv [] := by
    intro u
    induction u with
    | zero =>
      intro k g' d' hu hI hg hz hw lv l0 l1 l3
      refine z_sub (lv' := [(0, .ref a), (1, .long (lN x)), (3, .int (nI k))]) (by simp only [List.map, l0, l1, l3]) ?_
      obtain rfl : k = 4 := by omega
      have hI1 := hI.1
      refine z_iload_n hE d_Mo_setLong_6 rfl ?_
      refine z_iconst (v := nI 4) hE d_Mo_setLong_7 (by decide) ?_
      refine z_icmp_ge (tgt := 31) hE d_Mo_setLong_8 (by decide) (fun _ => ?_) (fun c_ => absurd c_ (fun z => z ((nI_LE (by omega) (by omega)).mpr (by omega))))
      refine z_vret hE hQ d_Mo_setLong_31 rfl (Nat.le_refl _) (Nat.le_refl _) ⟨rfl, rfl, ⟨d', hI, ?_⟩, hg⟩
      rw [show 56 = 4 + 52 by rfl, w16_zs 52 (fun j h1 h2 => hz j h1 (by omega)), hw]
      exact Nat.mod_eq_of_lt hx
    | succ u ih =>
      intro k g' d' hu hI hg hz hw lv l0 l1 l3
      refine z_sub (lv' := [(0, .ref a), (1, .long (lN x)), (3, .int (nI k))]) (by simp only [List.map, l0, l1, l3]) ?_
      have hI1 := hI.1
      refine z_iload_n hE d_Mo_setLong_6 rfl ?_
      refine z_iconst (v := nI 4) hE d_Mo_setLong_7 (by decide) ?_
      refine z_icmp_ge (tgt := 31) hE d_Mo_setLong_8 (by decide) (fun c_ => absurd c_ (fun z => absurd ((nI_LE (by omega) (by omega)).mp z) (by omega))) (fun _ => ?_)
      have hk4 : k < 4 := by omega
      refine z_aload_n hE d_Mo_setLong_11 rfl ?_
      refine z_iload_n hE d_Mo_setLong_12 rfl ?_
      refine z_lload_n hE d_Mo_setLong_13 rfl ?_
      refine z_bipush (v := nI 16) hE d_Mo_setLong_14 (by decide) ?_
      refine z_iload_n hE d_Mo_setLong_16 rfl ?_
      refine z_imul (v := nI (16 * k)) hE d_Mo_setLong_17 (pk_mul 16 k) ?_
      refine z_lushr (v := lN (x / 2 ^ (16 * k))) hE d_Mo_setLong_18 (wb_shr (show x < 2 ^ 64 from hx) (by omega)) ?_
      refine z_ldc2 hE d_Mo_setLong_19 cn_Mo_58 ?_
      refine z_land (v := lN (x / 65536 ^ k % 65536)) hE d_Mo_setLong_22 (by rw [H2]; exact wb_mask (k := 16) (Nat.lt_of_le_of_lt (Nat.div_le_self _ _) (show x < 2 ^ 64 from hx)) (by decide)) ?_
      refine z_l2i (v := nI (x / 65536 ^ k % 65536)) hE d_Mo_setLong_23 (lN_i _) ?_
      refine z_iast hE d_Mo_setLong_24 (by assumption) (nI_in' (by omega : k < 56) (by omega)) ?_
      rw [nI_cl (by omega)]
      refine z_iinc (v := nI (k + 1)) hE d_Mo_setLong_25 rfl (nI_1 k) (by decide) ?_
      refine z_goto (tgt := 6) hE d_Mo_setLong_28 (by decide) ?_
      refine ih (k + 1) _ _ (by omega) (I56_S hI (Nat.mod_lt _ (by decide))) (g1_t hg g1_S) (fun j h1 h2 => ?_) ?_ _ rfl rfl rfl
      · rw [upN_n (by omega)]; exact hz j (by omega) h2
      · rw [w16_up, hw, Nat.pow_succ, Nat.mod_mul, Nat.mul_comm (65536 ^ k)]
  refine z_iconst (v := nI 0) hE d_Mo_setLong_4 (by decide) ?_
  refine z_istore_n hE d_Mo_setLong_5 rfl (by decide) ?_
  exact loop 4 0 g_1 d (by omega) hd hg0 (fun j h1 h2 => hz0 j h2) (by simp [w16, Nat.mod_one]) _ rfl rfl rfl
theorem bl_cat {w r b k : Nat} (hw : w < 65536 ^ k) (hr : r < 2 ^ b) : bl (w + (2 ^ b + r) * 65536 ^ k) = 16 * k + b + 1 := by
  rw [H2] at hw ⊢
  have hp := p2_pos (16 * k)
  refine bl_of ?_ ?_
  · have := Nat.mul_le_mul_right (2 ^ (16 * k)) (show 2 ^ b ≤ 2 ^ b + r by omega)
    rw [Nat.pow_add, Nat.mul_comm (2 ^ (16 * k))]
    omega
  · have := Nat.mul_le_mul_right (2 ^ (16 * k)) (show 2 ^ b + r + 1 ≤ 2 * 2 ^ b by omega)
    rw [Nat.add_mul, Nat.one_mul] at this
    rw [show 16 * k + b + 1 = b + 1 + 16 * k by omega, Nat.pow_add, Nat.pow_succ, Nat.mul_comm (2 ^ b) 2]
    omega
theorem mod_p2 (x b : Nat) : x % 2 ^ (b + 1) = (x / 2 ^ b % 2) * 2 ^ b + x % 2 ^ b := by
  rw [Nat.pow_succ, Nat.mod_mul, Nat.mul_comm (2 ^ b), Nat.add_comm]
theorem c_Mo_bitsOf (l : Launch) {g : Gh} (nx : Nat) {a v : Nat} (hA : MA g a v) : Ct l m_Mo_bitsOf 0 0 [.ref a] g nx (pP (some (.int (nI (bl v)))) g nx) := by
  obtain ⟨d, hd, hv⟩ := hA
  have hd1 := hd.1
  subst hv
  refine Ct.of (by decide) (Nat.le_of_ble_eq_true rfl) (fun E hE hQ => ?_)
  have loop : ∀ (u k : Nat) (bt : Nat), k + u = 56 → bt = bl (w16 d k) → ∀ lv, lG lv 0 = some (.ref a) → lG lv 1 = some (.int (nI bt)) → lG lv 2 = some (.int (nI k)) → zJ E g nx 0 0 4 lv [] := by
    intro u
    induction u with
    | zero =>
      intro k bt hu hbt0 lv l0 l1 l2
      refine z_sub (lv' := [(0, .ref a), (1, .int (nI bt)), (2, .int (nI k))]) (by simp only [List.map, l0, l1, l2]) ?_
      obtain rfl : k = 56 := by omega
      refine z_iload_n hE d_Mo_bitsOf_4 rfl ?_
      refine z_bipush (v := nI 56) hE d_Mo_bitsOf_5 (by decide) ?_
      refine z_icmp_ge (tgt := 60) hE d_Mo_bitsOf_7 (by decide) (fun _ => ?_) (fun c_ => absurd c_ (fun z => z ((nI_LE (by omega) (by omega)).mpr (by omega))))
      refine z_iload_n hE d_Mo_bitsOf_60 rfl ?_
      exact z_iret hE hQ d_Mo_bitsOf_61 rfl (Nat.le_refl _) (Nat.le_refl _) ⟨by rw [hbt0], rfl, rfl⟩
    | succ u ih =>
      intro k bt hu hbt0 lv l0 l1 l2
      refine z_sub (lv' := [(0, .ref a), (1, .int (nI bt)), (2, .int (nI k))]) (by simp only [List.map, l0, l1, l2]) ?_
      refine z_iload_n hE d_Mo_bitsOf_4 rfl ?_
      refine z_bipush (v := nI 56) hE d_Mo_bitsOf_5 (by decide) ?_
      refine z_icmp_ge (tgt := 60) hE d_Mo_bitsOf_7 (by decide) (fun c_ => absurd c_ (fun z => absurd ((nI_LE (by omega) (by omega)).mp z) (by omega))) (fun _ => ?_)
      have next : ∀ bt', bt' = bl (w16 d (k + 1)) → ∀ lv, lG lv 0 = some (.ref a) → lG lv 1 = some (.int (nI bt')) → lG lv 2 = some (.int (nI k)) → zJ E g nx 0 0 54 lv [] := by
        intro bt' hb lv l0 l1 l2
        refine z_sub (lv' := [(0, .ref a), (1, .int (nI bt')), (2, .int (nI k))]) (by simp only [List.map, l0, l1, l2]) ?_
        refine z_iinc (v := nI (k + 1)) hE d_Mo_bitsOf_54 rfl (nI_1 k) (by decide) ?_
        refine z_goto (tgt := 4) hE d_Mo_bitsOf_57 (by decide) ?_
        exact ih (k + 1) bt' (by omega) hb _ rfl rfl rfl
      have inner : ∀ (u b bt : Nat), b + u = 16 → bt = bl (w16 d k + d k % 2 ^ b * 65536 ^ k) → ∀ lv, lG lv 0 = some (.ref a) → lG lv 1 = some (.int (nI bt)) → lG lv 2 = some (.int (nI k)) → lG lv 3 = some (.int (nI b)) → zJ E g nx 0 0 12 lv [] := by
        intro u
        induction u with
        | zero =>
          intro b bt hu hbt lv l0 l1 l2 l3
          refine z_sub (lv' := [(0, .ref a), (1, .int (nI bt)), (2, .int (nI k)), (3, .int (nI b))]) (by simp only [List.map, l0, l1, l2, l3]) ?_
          obtain rfl : b = 16 := by omega
          refine z_iload_n hE d_Mo_bitsOf_12 rfl ?_
          refine z_bipush (v := nI 16) hE d_Mo_bitsOf_13 (by decide) ?_
          refine z_icmp_ge (tgt := 54) hE d_Mo_bitsOf_15 (by decide) (fun _ => ?_) (fun c_ => absurd c_ (fun z => z ((nI_LE (by omega) (by omega)).mpr (by omega))))
          exact next _ (by rw [hbt, w16_s, Nat.mod_eq_of_lt (show d k < 2 ^ 16 from hd.2 k)]) _ rfl rfl rfl
        | succ u ih =>
          intro b bt hu hbt lv l0 l1 l2 l3
          refine z_sub (lv' := [(0, .ref a), (1, .int (nI bt)), (2, .int (nI k)), (3, .int (nI b))]) (by simp only [List.map, l0, l1, l2, l3]) ?_
          refine z_iload_n hE d_Mo_bitsOf_12 rfl ?_
          refine z_bipush (v := nI 16) hE d_Mo_bitsOf_13 (by decide) ?_
          refine z_icmp_ge (tgt := 54) hE d_Mo_bitsOf_15 (by decide) (fun c_ => absurd c_ (fun z => absurd ((nI_LE (by omega) (by omega)).mp z) (by omega))) (fun _ => ?_)
          have hb16 : b < 16 := by omega
          refine z_aload_n hE d_Mo_bitsOf_18 rfl ?_
          refine z_iload_n hE d_Mo_bitsOf_19 rfl ?_
          refine z_iald hE d_Mo_bitsOf_20 (by assumption) (nI_in' (by omega : k < 56) (by omega)) ?_
          rw [nI_cl (by omega)]
          by_cases hz : d k = 0
          case pos =>
            rw [hz]
            refine z_if_eq (tgt := 54) hE d_Mo_bitsOf_21 (by decide) (fun _ => ?_) (fun c_ => absurd c_ (by decide))
            refine next _ ?_ _ rfl rfl rfl
            rw [hbt, w16_s, hz, Nat.zero_mod]
          refine z_if_eq (tgt := 54) hE d_Mo_bitsOf_21 (by decide) (fun c_ => absurd c_ (fun z => hz ((nI_EQ (b := 0) (by have := hd.2 k; omega) (by omega)).mp z))) (fun _ => ?_)
          refine z_aload_n hE d_Mo_bitsOf_24 rfl ?_
          refine z_iload_n hE d_Mo_bitsOf_25 rfl ?_
          refine z_iald hE d_Mo_bitsOf_26 (by assumption) (nI_in' (by omega : k < 56) (by omega)) ?_
          rw [nI_cl (by omega)]
          refine z_iload_n hE d_Mo_bitsOf_27 rfl ?_
          refine z_ishr (v := nI (d k / 2 ^ b)) hE d_Mo_bitsOf_28 (i_shr (by have := hd.2 k; omega) (by omega)) ?_
          refine z_iconst (v := 1) hE d_Mo_bitsOf_29 (by decide) ?_
          refine z_iand (v := nI (d k / 2 ^ b % 2)) hE d_Mo_bitsOf_30 (i_and1 _) ?_
          refine z_iconst (v := 1) hE d_Mo_bitsOf_31 (by decide) ?_
          have hm := mod_p2 (d k) b
          by_cases hbit : d k / 2 ^ b % 2 = 1
          · rw [hbit]
            rw [hbit, Nat.one_mul] at hm
            refine z_icmp_ne (tgt := 46) hE d_Mo_bitsOf_32 (by decide) (fun c_ => absurd c_ (fun z => z rfl)) (fun _ => ?_)
            refine z_bipush (v := nI 16) hE d_Mo_bitsOf_35 (by decide) ?_
            refine z_iload_n hE d_Mo_bitsOf_37 rfl ?_
            refine z_imul (v := nI (16 * k)) hE d_Mo_bitsOf_38 (pk_mul 16 k) ?_
            refine z_iload_n hE d_Mo_bitsOf_39 rfl ?_
            refine z_iadd (v := nI (16 * k + b)) hE d_Mo_bitsOf_40 (nI_add _ _) ?_
            refine z_iconst (v := nI 1) hE d_Mo_bitsOf_41 (by decide) ?_
            refine z_iadd (v := nI (16 * k + b + 1)) hE d_Mo_bitsOf_42 (nI_add _ _) ?_
            refine z_goto (tgt := 47) hE d_Mo_bitsOf_43 (by decide) ?_
            refine z_istore_n hE d_Mo_bitsOf_47 rfl (by decide) ?_
            refine z_iinc (v := nI (b + 1)) hE d_Mo_bitsOf_48 rfl (nI_1 b) (by decide) ?_
            refine z_goto (tgt := 12) hE d_Mo_bitsOf_51 (by decide) ?_
            refine ih (b + 1) _ (by omega) ?_ _ rfl rfl rfl rfl
            rw [hm]
            exact (bl_cat (w16_lt hd.2 k) (Nat.mod_lt _ (p2_pos b))).symm
          · have hbit0 : d k / 2 ^ b % 2 = 0 := by omega
            rw [hbit0]
            rw [hbit0, Nat.zero_mul, Nat.zero_add] at hm
            refine z_icmp_ne (tgt := 46) hE d_Mo_bitsOf_32 (by decide) (fun _ => ?_) (fun c_ => absurd c_ (by decide))
            refine z_iload_n hE d_Mo_bitsOf_46 rfl ?_
            refine z_istore_n hE d_Mo_bitsOf_47 rfl (by decide) ?_
            refine z_iinc (v := nI (b + 1)) hE d_Mo_bitsOf_48 rfl (nI_1 b) (by decide) ?_
            refine z_goto (tgt := 12) hE d_Mo_bitsOf_51 (by decide) ?_
            exact ih (b + 1) _ (by omega) (by rw [hm]; exact hbt) _ rfl rfl rfl rfl
      refine z_iconst (v := nI 0) hE d_Mo_bitsOf_10 (by decide) ?_
      refine z_istore_n hE d_Mo_bitsOf_11 rfl (by decide) ?_
      exact inner 16 0 bt (by omega) (by rw [hbt0, Nat.pow_zero, Nat.mod_one, Nat.zero_mul, Nat.add_zero]) _ rfl rfl rfl rfl
  refine z_iconst (v := nI 0) hE d_Mo_bitsOf_0 (by decide) ?_
  refine z_istore_n hE d_Mo_bitsOf_1 rfl (by decide) ?_
  refine z_iconst (v := nI 0) hE d_Mo_bitsOf_2 (by decide) ?_
  refine z_istore_n hE d_Mo_bitsOf_3 rfl (by decide) ?_
  exact loop 56 0 0 (by omega) rfl _ rfl rfl rfl
theorem c_Mo_isZero (l : Launch) {g : Gh} (nx : Nat) {a v : Nat} (hA : MA g a v) : Ct l m_Mo_isZero 0 0 [.ref a] g nx (pP (some (.int (if v = 0 then 1 else 0))) g nx) := by
  obtain ⟨d, hd, hv⟩ := hA
  have hd1 := hd.1
  subst hv
  refine Ct.of (by decide) (Nat.le_of_ble_eq_true rfl) (fun E hE hQ => ?_)
  have loop : ∀ (u k : Nat) (z : Int32), k + u = 56 → z = (if w16 d k = 0 then 1 else 0) → ∀ lv, lG lv 0 = some (.ref a) → lG lv 1 = some (.int z) → lG lv 2 = some (.int (nI k)) → zJ E g nx 0 0 4 lv [] := by
    intro u
    induction u with
    | zero =>
      intro k z hu hz lv l0 l1 l2
      refine z_sub (lv' := [(0, .ref a), (1, .int z), (2, .int (nI k))]) (by simp only [List.map, l0, l1, l2]) ?_
      obtain rfl : k = 56 := by omega
      refine z_iload_n hE d_Mo_isZero_4 rfl ?_
      refine z_bipush (v := nI 56) hE d_Mo_isZero_5 (by decide) ?_
      refine z_icmp_ge (tgt := 32) hE d_Mo_isZero_7 (by decide) (fun _ => ?_) (fun c_ => absurd c_ (fun z => z ((nI_LE (by omega) (by omega)).mpr (by omega))))
      refine z_iload_n hE d_Mo_isZero_32 rfl ?_
      exact z_zret hE hQ d_Mo_isZero_33 rfl (Nat.le_refl _) (Nat.le_refl _) (by rw [hz]; split; exact Or.inr rfl; exact Or.inl rfl) ⟨by rw [hz], rfl, rfl⟩
    | succ u ih =>
      intro k z hu hz lv l0 l1 l2
      refine z_sub (lv' := [(0, .ref a), (1, .int z), (2, .int (nI k))]) (by simp only [List.map, l0, l1, l2]) ?_
      refine z_iload_n hE d_Mo_isZero_4 rfl ?_
      refine z_bipush (v := nI 56) hE d_Mo_isZero_5 (by decide) ?_
      refine z_icmp_ge (tgt := 32) hE d_Mo_isZero_7 (by decide) (fun c_ => absurd c_ (fun z => absurd ((nI_LE (by omega) (by omega)).mp z) (by omega))) (fun _ => ?_)
      have next : ∀ (z' : Int32), z' = (if w16 d (k + 1) = 0 then 1 else 0) → ∀ lv, lG lv 0 = some (.ref a) → lG lv 2 = some (.int (nI k)) → zJ E g nx 0 0 25 lv [.int z'] := by
        intro z' hb lv l0 l2
        refine z_sub (lv' := [(0, .ref a), (2, .int (nI k))]) (by simp only [List.map, l0, l2]) ?_
        refine z_istore_n hE d_Mo_isZero_25 rfl (by decide) ?_
        refine z_iinc (v := nI (k + 1)) hE d_Mo_isZero_26 rfl (nI_1 k) (by decide) ?_
        refine z_goto (tgt := 4) hE d_Mo_isZero_29 (by decide) ?_
        exact ih (k + 1) z' (by omega) hb _ rfl rfl rfl
      have hP := Hp k
      refine z_iload_n hE d_Mo_isZero_10 rfl ?_
      by_cases h0 : w16 d k = 0
      · rw [if_pos h0] at hz
        subst hz
        refine z_if_eq (tgt := 24) hE d_Mo_isZero_11 (by decide) (fun c_ => absurd c_ (by decide)) (fun _ => ?_)
        refine z_aload_n hE d_Mo_isZero_14 rfl ?_
        refine z_iload_n hE d_Mo_isZero_15 rfl ?_
        refine z_iald hE d_Mo_isZero_16 (by assumption) (nI_in' (by omega : k < 56) (by omega)) ?_
        rw [nI_cl (by omega)]
        by_cases hk0 : d k = 0
        · rw [hk0]
          refine z_if_ne (tgt := 24) hE d_Mo_isZero_17 (by decide) (fun c_ => absurd c_ (fun z => z rfl)) (fun _ => ?_)
          refine z_iconst (v := 1) hE d_Mo_isZero_20 (by decide) ?_
          refine z_goto (tgt := 25) hE d_Mo_isZero_21 (by decide) ?_
          exact next 1 (by rw [w16_s, h0, hk0, Nat.zero_mul, if_pos rfl]) _ rfl rfl
        · refine z_if_ne (tgt := 24) hE d_Mo_isZero_17 (by decide) (fun _ => ?_) (fun c_ => absurd c_ (fun y => hk0 ((nI_EQ (b := 0) (by have := hd.2 k; omega) (by omega)).mp y)))
          refine z_iconst (v := 0) hE d_Mo_isZero_24 (by decide) ?_
          refine next 0 ?_ _ rfl rfl
          have := Nat.mul_pos (Nat.pos_of_ne_zero hk0) hP
          rw [w16_s, if_neg (by omega)]
      · rw [if_neg h0] at hz
        subst hz
        refine z_if_eq (tgt := 24) hE d_Mo_isZero_11 (by decide) (fun _ => ?_) (fun c_ => absurd c_ (by decide))
        refine z_iconst (v := 0) hE d_Mo_isZero_24 (by decide) ?_
        exact next 0 (by rw [w16_s, if_neg (by omega)]) _ rfl rfl
  refine z_iconst (v := (1 : Int32)) hE d_Mo_isZero_0 (by decide) ?_
  refine z_istore_n hE d_Mo_isZero_1 rfl (by decide) ?_
  refine z_iconst (v := nI 0) hE d_Mo_isZero_2 (by decide) ?_
  refine z_istore_n hE d_Mo_isZero_3 rfl (by decide) ?_
  exact loop 56 0 1 (by omega) rfl _ rfl rfl rfl
theorem cmp_step {x y a b P : Nat} (hx : x < P) (hy : y < P) : cmpN (x + a * P) (y + b * P) = if a = b then cmpN x y else if a < b then -1 else 1 := by
  unfold cmpN
  rcases Nat.lt_trichotomy a b with h | h | h
  · have := Nat.mul_le_mul_right P h
    rw [Nat.succ_mul] at this
    rw [if_pos (by omega), if_neg (by omega), if_pos h]
  · subst h
    rw [if_pos rfl]
    by_cases h1 : x < y
    · rw [if_pos h1, if_pos (by omega)]
    · rw [if_neg h1, if_neg (by omega)]
      by_cases h2 : x = y
      · rw [if_pos h2, if_pos (by omega)]
      · rw [if_neg h2, if_neg (by omega)]
  · have := Nat.mul_le_mul_right P h
    rw [Nat.succ_mul] at this
    rw [if_neg (by omega), if_neg (by omega), if_neg (by omega), if_neg (by omega)]
theorem c_Mo_compared (l : Launch) {g : Gh} (nx : Nat) {a b x y : Nat} (hA : MA g a x) (hB : MA g b y) : Ct l m_Mo_compared 0 0 [.ref a, .ref b] g nx (pP (some (.int (cmpN x y))) g nx) := by
  obtain ⟨d, hd, hv⟩ := hA
  obtain ⟨e, he, hw⟩ := hB
  have hd1 := hd.1
  have he1 := he.1
  subst hv
  subst hw
  refine Ct.of (by decide) (Nat.le_of_ble_eq_true rfl) (fun E hE hQ => ?_)
  have loop : ∀ (u k : Nat) (z : Int32), k + u = 56 → z = cmpN (w16 d k) (w16 e k) → ∀ lv, lG lv 0 = some (.ref a) → lG lv 1 = some (.ref b) → lG lv 2 = some (.int z) → lG lv 3 = some (.int (nI k)) → zJ E g nx 0 0 4 lv [] := by
    intro u
    induction u with
    | zero =>
      intro k z hu hz lv l0 l1 l2 l3
      refine z_sub (lv' := [(0, .ref a), (1, .ref b), (2, .int z), (3, .int (nI k))]) (by simp only [List.map, l0, l1, l2, l3]) ?_
      obtain rfl : k = 56 := by omega
      refine z_iload_n hE d_Mo_compared_4 rfl ?_
      refine z_bipush (v := nI 56) hE d_Mo_compared_5 (by decide) ?_
      refine z_icmp_ge (tgt := 44) hE d_Mo_compared_7 (by decide) (fun _ => ?_) (fun c_ => absurd c_ (fun z => z ((nI_LE (by omega) (by omega)).mpr (by omega))))
      refine z_iload_n hE d_Mo_compared_44 rfl ?_
      exact z_iret hE hQ d_Mo_compared_45 rfl (Nat.le_refl _) (Nat.le_refl _) ⟨by rw [hz], rfl, rfl⟩
    | succ u ih =>
      intro k z hu hz lv l0 l1 l2 l3
      refine z_sub (lv' := [(0, .ref a), (1, .ref b), (2, .int z), (3, .int (nI k))]) (by simp only [List.map, l0, l1, l2, l3]) ?_
      refine z_iload_n hE d_Mo_compared_4 rfl ?_
      refine z_bipush (v := nI 56) hE d_Mo_compared_5 (by decide) ?_
      refine z_icmp_ge (tgt := 44) hE d_Mo_compared_7 (by decide) (fun c_ => absurd c_ (fun z => absurd ((nI_LE (by omega) (by omega)).mp z) (by omega))) (fun _ => ?_)
      have next : ∀ (z' : Int32), z' = cmpN (w16 d (k + 1)) (w16 e (k + 1)) → ∀ lv, lG lv 0 = some (.ref a) → lG lv 1 = some (.ref b) → lG lv 3 = some (.int (nI k)) → zJ E g nx 0 0 37 lv [.int z'] := by
        intro z' hb lv l0 l1 l3
        refine z_sub (lv' := [(0, .ref a), (1, .ref b), (3, .int (nI k))]) (by simp only [List.map, l0, l1, l3]) ?_
        refine z_istore_n hE d_Mo_compared_37 rfl (by decide) ?_
        refine z_iinc (v := nI (k + 1)) hE d_Mo_compared_38 rfl (nI_1 k) (by decide) ?_
        refine z_goto (tgt := 4) hE d_Mo_compared_41 (by decide) ?_
        exact ih (k + 1) z' (by omega) hb _ rfl rfl rfl rfl
      have hc := cmp_step (a := d k) (b := e k) (w16_lt hd.2 k) (w16_lt he.2 k)
      rw [← w16_s, ← w16_s] at hc
      have hdk := hd.2 k
      have hek := he.2 k
      refine z_aload_n hE d_Mo_compared_10 rfl ?_
      refine z_iload_n hE d_Mo_compared_11 rfl ?_
      refine z_iald hE d_Mo_compared_12 (by assumption) (nI_in' (by omega : k < 56) (by omega)) ?_
      rw [nI_cl (by omega)]
      refine z_aload_n hE d_Mo_compared_13 rfl ?_
      refine z_iload_n hE d_Mo_compared_14 rfl ?_
      refine z_iald hE d_Mo_compared_15 (by assumption) (nI_in' (by omega : k < 56) (by omega)) ?_
      rw [nI_cl (by omega)]
      by_cases h1 : d k = e k
      · refine z_icmp_ne (tgt := 23) hE d_Mo_compared_16 (by decide) (fun c_ => absurd c_ (fun z => z (by rw [h1]))) (fun _ => ?_)
        refine z_iload_n hE d_Mo_compared_19 rfl ?_
        refine z_goto (tgt := 37) hE d_Mo_compared_20 (by decide) ?_
        exact next z (by rw [hc, if_pos h1]; exact hz) _ rfl rfl rfl
      · refine z_icmp_ne (tgt := 23) hE d_Mo_compared_16 (by decide) (fun _ => ?_) (fun c_ => absurd c_ (fun y => h1 ((nI_EQ (by omega) (by omega)).mp y)))
        refine z_aload_n hE d_Mo_compared_23 rfl ?_
        refine z_iload_n hE d_Mo_compared_24 rfl ?_
        refine z_iald hE d_Mo_compared_25 (by assumption) (nI_in' (by omega : k < 56) (by omega)) ?_
        rw [nI_cl (by omega)]
        refine z_aload_n hE d_Mo_compared_26 rfl ?_
        refine z_iload_n hE d_Mo_compared_27 rfl ?_
        refine z_iald hE d_Mo_compared_28 (by assumption) (nI_in' (by omega : k < 56) (by omega)) ?_
        rw [nI_cl (by omega)]
        by_cases h2 : d k < e k
        · refine z_icmp_ge (tgt := 36) hE d_Mo_compared_29 (by decide) (fun c_ => absurd c_ (fun z => absurd ((nI_LE (by omega) (by omega)).mp z) (by omega))) (fun _ => ?_)
          refine z_iconst (v := (-1)) hE d_Mo_compared_32 (by decide) ?_
          refine z_goto (tgt := 37) hE d_Mo_compared_33 (by decide) ?_
          exact next (-1) (by rw [hc, if_neg h1, if_pos h2]) _ rfl rfl rfl
        · refine z_icmp_ge (tgt := 36) hE d_Mo_compared_29 (by decide) (fun _ => ?_) (fun c_ => absurd c_ (fun z => z ((nI_LE (by omega) (by omega)).mpr (by omega))))
          refine z_iconst (v := 1) hE d_Mo_compared_36 (by decide) ?_
          exact next 1 (by rw [hc, if_neg h1, if_neg h2]) _ rfl rfl rfl
  refine z_iconst (v := (0 : Int32)) hE d_Mo_compared_0 (by decide) ?_
  refine z_istore_n hE d_Mo_compared_1 rfl (by decide) ?_
  refine z_iconst (v := nI 0) hE d_Mo_compared_2 (by decide) ?_
  refine z_istore_n hE d_Mo_compared_3 rfl (by decide) ?_
  exact loop 56 0 0 (by omega) rfl _ rfl rfl rfl rfl
theorem c_Mo_addTo (l : Launch) {g : Gh} (nx : Nat) {a b x y : Nat} (hA : MA g a x) (hB : MA g b y) (hne : b ≠ a) (hlt : x + y < 65536 ^ 56) : Ct l m_Mo_addTo 0 0 [.ref a, .ref b] g nx (p1 g a (x + y) nx) := by
  obtain ⟨d, hd, hv⟩ := hA
  obtain ⟨e, he, hw⟩ := hB
  refine Ct.of (by decide) (Nat.le_of_ble_eq_true rfl) (fun E hE hQ => ?_)
  have loop : ∀ (u k : Nat) (c : Nat) (g' : Gh) (d' : Nat → Nat), k + u = 56 → I56 g' a d' → g1 g g' a → (∀ j, k ≤ j → d' j = d j) → c ≤ 1 → w16 d' k + c * 65536 ^ k = w16 d k + w16 e k → ∀ lv, lG lv 0 = some (.ref a) → lG lv 1 = some (.ref b) → lG lv 2 = some (.int (nI c)) → lG lv 3 = some (.int (nI k)) → zJ E g' nx 0 0 4 lv [] := by
    intro u
    induction u with
    | zero =>
      intro k c g' d' hu hI hg hj hc hs lv l0 l1 l2 l3
      refine z_sub (lv' := [(0, .ref a), (1, .ref b), (2, .int (nI c)), (3, .int (nI k))]) (by simp only [List.map, l0, l1, l2, l3]) ?_
      obtain rfl : k = 56 := by omega
      have hI1 := hI.1
      have he1 := (I56_o he hg hne).1
      refine z_iload_n hE d_Mo_addTo_4 rfl ?_
      refine z_bipush (v := nI 56) hE d_Mo_addTo_5 (by decide) ?_
      refine z_icmp_ge (tgt := 41) hE d_Mo_addTo_7 (by decide) (fun _ => ?_) (fun c_ => absurd c_ (fun z => z ((nI_LE (by omega) (by omega)).mpr (by omega))))
      refine z_vret hE hQ d_Mo_addTo_41 rfl (Nat.le_refl _) (Nat.le_refl _) ⟨rfl, rfl, ⟨d', hI, ?_⟩, hg⟩
      rw [hv, hw] at hs
      rcases (by omega : c = 0 ∨ c = 1) with z | z
      · rw [z, Nat.zero_mul, Nat.add_zero] at hs; exact hs
      · rw [z, Nat.one_mul] at hs; omega
    | succ u ih =>
      intro k c g' d' hu hI hg hj hc hs lv l0 l1 l2 l3
      refine z_sub (lv' := [(0, .ref a), (1, .ref b), (2, .int (nI c)), (3, .int (nI k))]) (by simp only [List.map, l0, l1, l2, l3]) ?_
      have hI1 := hI.1
      have he1 := (I56_o he hg hne).1
      refine z_iload_n hE d_Mo_addTo_4 rfl ?_
      refine z_bipush (v := nI 56) hE d_Mo_addTo_5 (by decide) ?_
      refine z_icmp_ge (tgt := 41) hE d_Mo_addTo_7 (by decide) (fun c_ => absurd c_ (fun z => absurd ((nI_LE (by omega) (by omega)).mp z) (by omega))) (fun _ => ?_)
      have hdk := hd.2 k
      have hek := he.2 k
      refine z_aload_n hE d_Mo_addTo_10 rfl ?_
      refine z_iload_n hE d_Mo_addTo_11 rfl ?_
      refine z_iald hE d_Mo_addTo_12 (by assumption) (nI_in' (by omega : k < 56) (by omega)) ?_
      rw [nI_cl (by omega), hj k (Nat.le_refl k)]
      refine z_aload_n hE d_Mo_addTo_13 rfl ?_
      refine z_iload_n hE d_Mo_addTo_14 rfl ?_
      refine z_iald hE d_Mo_addTo_15 (by assumption) (nI_in' (by omega : k < 56) (by omega)) ?_
      rw [nI_cl (by omega)]
      refine z_iadd (v := nI (d k + e k)) hE d_Mo_addTo_16 (nI_add _ _) ?_
      refine z_iload_n hE d_Mo_addTo_17 rfl ?_
      refine z_iadd (v := nI (d k + e k + c)) hE d_Mo_addTo_18 (nI_add _ _) ?_
      refine z_istore hE d_Mo_addTo_19 (by decide) ?_
      refine z_aload_n hE d_Mo_addTo_21 rfl ?_
      refine z_iload_n hE d_Mo_addTo_22 rfl ?_
      refine z_iload hE d_Mo_addTo_23 rfl ?_
      refine z_ldc hE d_Mo_addTo_25 cn_Mo_60 ?_
      refine z_iand (v := nI ((d k + e k + c) % 65536)) hE d_Mo_addTo_27 (nx_mod _) ?_
      refine z_iast hE d_Mo_addTo_28 (by assumption) (nI_in' (by omega : k < 56) (by omega)) ?_
      rw [nI_cl (by omega)]
      refine z_iload hE d_Mo_addTo_29 rfl ?_
      refine z_bipush (v := nI 16) hE d_Mo_addTo_31 (by decide) ?_
      refine z_ishr (v := nI ((d k + e k + c) / 65536)) hE d_Mo_addTo_33 (i_shr (k := 16) (by omega) (by omega)) ?_
      refine z_istore_n hE d_Mo_addTo_34 rfl (by decide) ?_
      refine z_iinc (v := nI (k + 1)) hE d_Mo_addTo_35 rfl (nI_1 k) (by decide) ?_
      refine z_goto (tgt := 4) hE d_Mo_addTo_38 (by decide) ?_
      refine ih (k + 1) _ _ _ (by omega) (I56_S hI (Nat.mod_lt _ (by decide))) (g1_t hg g1_S) (fun j h1 => ?_) (by omega) ?_ _ rfl rfl rfl rfl
      · rw [upN_n (by omega)]; exact hj j (by omega)
      · have hst := st_add (P := 65536 ^ k) (show (d k + e k + c) % 65536 + 65536 * ((d k + e k + c) / 65536) = d k + e k + c by omega)
        rw [w16_up, w16_s, w16_s, Hs]
        omega
  refine z_iconst (v := nI 0) hE d_Mo_addTo_0 (by decide) ?_
  refine z_istore_n hE d_Mo_addTo_1 rfl (by decide) ?_
  refine z_iconst (v := nI 0) hE d_Mo_addTo_2 (by decide) ?_
  refine z_istore_n hE d_Mo_addTo_3 rfl (by decide) ?_
  exact loop 56 0 0 g d (by omega) hd g1_r (fun j _ => rfl) (by omega) rfl _ rfl rfl rfl rfl
theorem i_sub16 {a b c : Nat} (ha : a < 65536) (hb : b < 65536) (hc : c ≤ 1) : (nI a - nI b - nI c) &&& 65535 = nI ((a + 65536 - b - c) % 65536) ∧ (0 ≤ nI a - nI b - nI c ↔ b + c ≤ a) := by
  by_cases h : b + c ≤ a
  · have e : nI a - nI b - nI c = nI (a - b - c) := by rw [pk_sub (by omega), pk_sub (by omega)]
    rw [e, nx_mod]
    refine ⟨by congr 1; omega, fun _ => h, fun _ => nI_pos' (by omega)⟩
  · have e : nI a - nI b - nI c = nI (a + 4294967296 - b - c) := by
      have h1 : nI a = nI (a + 4294967296) := by
        apply Int32.toBitVec_inj.mp
        show BitVec.ofNat 32 a = BitVec.ofNat 32 (a + 4294967296)
        apply BitVec.eq_of_toNat_eq
        rw [BitVec.toNat_ofNat, BitVec.toNat_ofNat]
        omega
      rw [h1, pk_sub (by omega), pk_sub (by omega)]
    refine ⟨by rw [e, nx_mod]; congr 1; omega, fun q => ?_, fun q => absurd q h⟩
    exfalso
    rw [Int32.le_iff_toInt_le] at q
    have t1 : (nI a - nI b).toInt = (a : Int) - b := pk_sub_toInt (by omega) (by omega)
    have t2 : (nI a - nI b - nI c).toInt = (a : Int) - b - c := by
      rw [Int32.toInt_sub, t1, nI_ti (by omega)]
      exact Int.bmod_eq_of_le (by omega) (by omega)
    rw [t2, show (0 : Int32).toInt = 0 from rfl] at q
    omega
theorem st_sub {x b c' a c P : Nat} (h : x + b + c = a + 65536 * c') : x * P + b * P + c * P = a * P + c' * (65536 * P) := by
  have := congrArg (· * P) h
  simp only [Nat.add_mul] at this
  rw [Nat.mul_left_comm, ← Nat.mul_assoc]
  exact this
theorem c_Mo_takeFrom (l : Launch) {g : Gh} (nx : Nat) {a b x y : Nat} (hA : MA g a x) (hB : MA g b y) (hne : b ≠ a) (hle : y ≤ x) : Ct l m_Mo_takeFrom 0 0 [.ref a, .ref b] g nx (p1 g a (x - y) nx) := by
  obtain ⟨d, hd, hv⟩ := hA
  obtain ⟨e, he, hw⟩ := hB
  refine Ct.of (by decide) (Nat.le_of_ble_eq_true rfl) (fun E hE hQ => ?_)
  have loop : ∀ (u k : Nat) (c : Nat) (g' : Gh) (d' : Nat → Nat), k + u = 56 → I56 g' a d' → g1 g g' a → (∀ j, k ≤ j → d' j = d j) → c ≤ 1 → w16 d' k + w16 e k = w16 d k + c * 65536 ^ k → ∀ lv, lG lv 0 = some (.ref a) → lG lv 1 = some (.ref b) → lG lv 2 = some (.int (nI c)) → lG lv 3 = some (.int (nI k)) → zJ E g' nx 0 0 4 lv [] := by
    intro u
    induction u with
    | zero =>
      intro k c g' d' hu hI hg hj hc hs lv l0 l1 l2 l3
      refine z_sub (lv' := [(0, .ref a), (1, .ref b), (2, .int (nI c)), (3, .int (nI k))]) (by simp only [List.map, l0, l1, l2, l3]) ?_
      obtain rfl : k = 56 := by omega
      have hI1 := hI.1
      have he1 := (I56_o he hg hne).1
      refine z_iload_n hE d_Mo_takeFrom_4 rfl ?_
      refine z_bipush (v := nI 56) hE d_Mo_takeFrom_5 (by decide) ?_
      refine z_icmp_ge (tgt := 46) hE d_Mo_takeFrom_7 (by decide) (fun _ => ?_) (fun c_ => absurd c_ (fun z => z ((nI_LE (by omega) (by omega)).mpr (by omega))))
      refine z_vret hE hQ d_Mo_takeFrom_46 rfl (Nat.le_refl _) (Nat.le_refl _) ⟨rfl, rfl, ⟨d', hI, ?_⟩, hg⟩
      rw [hv, hw] at hs
      have hl := w16_lt hI.2 56
      rcases (by omega : c = 0 ∨ c = 1) with z | z
      · rw [z, Nat.zero_mul, Nat.add_zero] at hs; omega
      · rw [z, Nat.one_mul] at hs; omega
    | succ u ih =>
      intro k c g' d' hu hI hg hj hc hs lv l0 l1 l2 l3
      refine z_sub (lv' := [(0, .ref a), (1, .ref b), (2, .int (nI c)), (3, .int (nI k))]) (by simp only [List.map, l0, l1, l2, l3]) ?_
      have hI1 := hI.1
      have he1 := (I56_o he hg hne).1
      refine z_iload_n hE d_Mo_takeFrom_4 rfl ?_
      refine z_bipush (v := nI 56) hE d_Mo_takeFrom_5 (by decide) ?_
      refine z_icmp_ge (tgt := 46) hE d_Mo_takeFrom_7 (by decide) (fun c_ => absurd c_ (fun z => absurd ((nI_LE (by omega) (by omega)).mp z) (by omega))) (fun _ => ?_)
      have hdk := hd.2 k
      have hek := he.2 k
      obtain ⟨s1, s2⟩ := i_sub16 hdk hek hc
      have next : ∀ (c' : Nat), c' = (if e k + c ≤ d k then 0 else 1) → ∀ lv, lG lv 0 = some (.ref a) → lG lv 1 = some (.ref b) → lG lv 3 = some (.int (nI k)) → zJ E (gS g' a (.inl (1, 56, .inl (upd (fun j => nI (d' j)) k (nI ((d k + 65536 - e k - c) % 65536)))))) nx 0 0 39 lv [.int (nI c')] := by
        intro c' hb lv l0 l1 l3
        refine z_sub (lv' := [(0, .ref a), (1, .ref b), (3, .int (nI k))]) (by simp only [List.map, l0, l1, l3]) ?_
        refine z_istore_n hE d_Mo_takeFrom_39 rfl (by decide) ?_
        refine z_iinc (v := nI (k + 1)) hE d_Mo_takeFrom_40 rfl (nI_1 k) (by decide) ?_
        refine z_goto (tgt := 4) hE d_Mo_takeFrom_43 (by decide) ?_
        refine ih (k + 1) _ _ _ (by omega) (I56_S hI (Nat.mod_lt _ (by decide))) (g1_t hg g1_S) (fun j h1 => ?_) (by rw [hb]; split <;> omega) ?_ _ rfl rfl rfl rfl
        · rw [upN_n (by omega)]; exact hj j (by omega)
        · have hst := st_sub (P := 65536 ^ k) (show (d k + 65536 - e k - c) % 65536 + e k + c = d k + 65536 * c' by rw [hb]; split <;> omega)
          rw [w16_up, w16_s, w16_s, Hs]
          omega
      refine z_aload_n hE d_Mo_takeFrom_10 rfl ?_
      refine z_iload_n hE d_Mo_takeFrom_11 rfl ?_
      refine z_iald hE d_Mo_takeFrom_12 (by assumption) (nI_in' (by omega : k < 56) (by omega)) ?_
      rw [nI_cl (by omega), hj k (Nat.le_refl k)]
      refine z_aload_n hE d_Mo_takeFrom_13 rfl ?_
      refine z_iload_n hE d_Mo_takeFrom_14 rfl ?_
      refine z_iald hE d_Mo_takeFrom_15 (by assumption) (nI_in' (by omega : k < 56) (by omega)) ?_
      rw [nI_cl (by omega)]
      refine z_isub hE d_Mo_takeFrom_16 (rfl) ?_
      refine z_iload_n hE d_Mo_takeFrom_17 rfl ?_
      refine z_isub hE d_Mo_takeFrom_18 (rfl) ?_
      refine z_istore hE d_Mo_takeFrom_19 (by decide) ?_
      refine z_aload_n hE d_Mo_takeFrom_21 rfl ?_
      refine z_iload_n hE d_Mo_takeFrom_22 rfl ?_
      refine z_iload hE d_Mo_takeFrom_23 rfl ?_
      refine z_ldc hE d_Mo_takeFrom_25 cn_Mo_60 ?_
      refine z_iand (v := nI ((d k + 65536 - e k - c) % 65536)) hE d_Mo_takeFrom_27 (s1) ?_
      refine z_iast hE d_Mo_takeFrom_28 (by assumption) (nI_in' (by omega : k < 56) (by omega)) ?_
      rw [nI_cl (by omega)]
      refine z_iload hE d_Mo_takeFrom_29 rfl ?_
      by_cases hb : e k + c ≤ d k
      · refine z_if_ge (tgt := 38) hE d_Mo_takeFrom_31 (by decide) (fun _ => ?_) (fun c_ => absurd c_ (fun z => z (s2.mpr hb)))
        refine z_iconst (v := nI 0) hE d_Mo_takeFrom_38 (by decide) ?_
        exact next 0 (by rw [if_pos hb]) _ rfl rfl rfl
      · refine z_if_ge (tgt := 38) hE d_Mo_takeFrom_31 (by decide) (fun c_ => absurd c_ (fun z => hb (s2.mp z))) (fun _ => ?_)
        refine z_iconst (v := nI 1) hE d_Mo_takeFrom_34 (by decide) ?_
        refine z_goto (tgt := 39) hE d_Mo_takeFrom_35 (by decide) ?_
        exact next 1 (by rw [if_neg hb]) _ rfl rfl rfl
  refine z_iconst (v := nI 0) hE d_Mo_takeFrom_0 (by decide) ?_
  refine z_istore_n hE d_Mo_takeFrom_1 rfl (by decide) ?_
  refine z_iconst (v := nI 0) hE d_Mo_takeFrom_2 (by decide) ?_
  refine z_istore_n hE d_Mo_takeFrom_3 rfl (by decide) ?_
  exact loop 56 0 0 g d (by omega) hd g1_r (fun j _ => rfl) (by omega) rfl _ rfl rfl rfl rfl

