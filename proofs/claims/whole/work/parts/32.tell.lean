/-! Teller: rounded longs -/
def kT : List Nat := [2, 4, 6, 8, 10]
def TV (g : Gh) (T : Nat) (v : Nat → Nat) : Prop := g T = some (.inr (5, [.ref (T + 1), .ref (T + 8), .ref (T + 10)])) ∧ DV g (T + 1) ∧ ∀ k ∈ kT, NA g (T + k) 20 (v k)
theorem kT_b : ∀ k ∈ kT, 2 ≤ k ∧ k ≤ 10 := by decide
theorem TV_O {g g' : Gh} {T k x : Nat} {v : Nat → Nat} (h : TV g T v) (hk : k ∈ kT) (hA : NA g' (T + k) 20 x) (ho : gO g g' (T + k)) : TV g' T (upN v k x) := by
  have b := kT_b k hk
  refine ⟨?_, ?_, fun j hj => ?_⟩
  · rw [ho T (by omega) (by omega)]; exact h.1
  · unfold DV; rw [ho (T + 1) (by omega) (by omega)]; exact h.2.1
  · by_cases hjk : j = k
    · rw [hjk, upN_s]; exact hA
    · rw [upN_n hjk]
      exact NA_o (h.2.2 k hk) (h.2.2 j hj) (by omega) ho
theorem TV_D {g g' : Gh} {T x y : Nat} {v : Nat → Nat} (h : TV g T v) (h2 : ∃ w, NA g' (T + 1 + 1) 20 w) (h4 : NA g' (T + 1 + 3) 20 x) (h6 : NA g' (T + 1 + 5) 20 y) (hw : gW g g' (T + 1 + 1) (T + 1 + 7)) : ∃ v', TV g' T v' ∧ v' 4 = x ∧ v' 6 = y ∧ v' 8 = v 8 ∧ v' 10 = v 10 := by
  obtain ⟨w, h2⟩ := h2
  refine ⟨upN (upN (upN v 2 w) 4 x) 6 y, ⟨?_, ?_, fun j hj => ?_⟩, rfl, rfl, rfl, rfl⟩
  · rw [hw T (by omega)]; exact h.1
  · unfold DV; rw [hw (T + 1) (by omega)]; exact h.2.1
  · have hn := h.2.2 j hj
    simp only [kT, List.mem_cons, List.not_mem_nil, or_false] at hj
    rcases hj with rfl | rfl | rfl | rfl | rfl
    · exact h2
    · exact h4
    · exact h6
    · exact NA_W hn hw (by omega)
    · exact NA_W hn hw (by omega)
theorem d_Te_exponentOf_0 : decode b_Te_exponentOf 0 = .ok (.lload_n 0, 1) := by decide +kernel
theorem d_Te_exponentOf_1 : decode b_Te_exponentOf 1 = .ok (.bipush 52, 2) := by decide +kernel
theorem d_Te_exponentOf_3 : decode b_Te_exponentOf 3 = .ok (.lushr, 1) := by decide +kernel
theorem d_Te_exponentOf_4 : decode b_Te_exponentOf 4 = .ok (.l2i, 1) := by decide +kernel
theorem d_Te_exponentOf_5 : decode b_Te_exponentOf 5 = .ok (.sipush 2047, 3) := by decide +kernel
theorem d_Te_exponentOf_8 : decode b_Te_exponentOf 8 = .ok (.iand, 1) := by decide +kernel
theorem d_Te_exponentOf_9 : decode b_Te_exponentOf 9 = .ok (.ireturn, 1) := by decide +kernel
theorem d_Te_isNoNumber_0 : decode b_Te_isNoNumber 0 = .ok (.lload_n 0, 1) := by decide +kernel
theorem d_Te_isNoNumber_1 : decode b_Te_isNoNumber 1 = .ok (.invokestatic 103, 3) := by decide +kernel
theorem d_Te_isNoNumber_4 : decode b_Te_isNoNumber 4 = .ok (.sipush 2047, 3) := by decide +kernel
theorem d_Te_isNoNumber_7 : decode b_Te_isNoNumber 7 = .ok (.if_icmp .ne 7, 3) := by decide +kernel
theorem d_Te_isNoNumber_10 : decode b_Te_isNoNumber 10 = .ok (.iconst 1, 1) := by decide +kernel
theorem d_Te_isNoNumber_11 : decode b_Te_isNoNumber 11 = .ok (.goto 4, 3) := by decide +kernel
theorem d_Te_isNoNumber_14 : decode b_Te_isNoNumber 14 = .ok (.iconst 0, 1) := by decide +kernel
theorem d_Te_isNoNumber_15 : decode b_Te_isNoNumber 15 = .ok (.ireturn, 1) := by decide +kernel
theorem d_Te_isNearerFurther_0 : decode b_Te_isNearerFurther 0 = .ok (.aload_n 0, 1) := by decide +kernel
theorem d_Te_isNearerFurther_1 : decode b_Te_isNearerFurther 1 = .ok (.getfield 23, 3) := by decide +kernel
theorem d_Te_isNearerFurther_4 : decode b_Te_isNearerFurther 4 = .ok (.aload_n 0, 1) := by decide +kernel
theorem d_Te_isNearerFurther_5 : decode b_Te_isNearerFurther 5 = .ok (.getfield 12, 3) := by decide +kernel
theorem d_Te_isNearerFurther_8 : decode b_Te_isNearerFurther 8 = .ok (.getfield 58, 3) := by decide +kernel
theorem d_Te_isNearerFurther_11 : decode b_Te_isNearerFurther 11 = .ok (.invokevirtual 73, 3) := by decide +kernel
theorem d_Te_isNearerFurther_14 : decode b_Te_isNearerFurther 14 = .ok (.aload_n 0, 1) := by decide +kernel
theorem d_Te_isNearerFurther_15 : decode b_Te_isNearerFurther 15 = .ok (.getfield 23, 3) := by decide +kernel
theorem d_Te_isNearerFurther_18 : decode b_Te_isNearerFurther 18 = .ok (.iconst 1, 1) := by decide +kernel
theorem d_Te_isNearerFurther_19 : decode b_Te_isNearerFurther 19 = .ok (.invokevirtual 76, 3) := by decide +kernel
theorem d_Te_isNearerFurther_22 : decode b_Te_isNearerFurther 22 = .ok (.aload_n 0, 1) := by decide +kernel
theorem d_Te_isNearerFurther_23 : decode b_Te_isNearerFurther 23 = .ok (.getfield 23, 3) := by decide +kernel
theorem d_Te_isNearerFurther_26 : decode b_Te_isNearerFurther 26 = .ok (.aload_n 1, 1) := by decide +kernel
theorem d_Te_isNearerFurther_27 : decode b_Te_isNearerFurther 27 = .ok (.invokevirtual 79, 3) := by decide +kernel
theorem d_Te_isNearerFurther_30 : decode b_Te_isNearerFurther 30 = .ok (.istore_n 2, 1) := by decide +kernel
theorem d_Te_isNearerFurther_31 : decode b_Te_isNearerFurther 31 = .ok (.iload_n 2, 1) := by decide +kernel
theorem d_Te_isNearerFurther_32 : decode b_Te_isNearerFurther 32 = .ok (.ifCond .gt 20, 3) := by decide +kernel
theorem d_Te_isNearerFurther_35 : decode b_Te_isNearerFurther 35 = .ok (.iload_n 2, 1) := by decide +kernel
theorem d_Te_isNearerFurther_36 : decode b_Te_isNearerFurther 36 = .ok (.ifCond .ne 20, 3) := by decide +kernel
theorem d_Te_isNearerFurther_39 : decode b_Te_isNearerFurther 39 = .ok (.aload_n 0, 1) := by decide +kernel
theorem d_Te_isNearerFurther_40 : decode b_Te_isNearerFurther 40 = .ok (.getfield 12, 3) := by decide +kernel
theorem d_Te_isNearerFurther_43 : decode b_Te_isNearerFurther 43 = .ok (.getfield 51, 3) := by decide +kernel
theorem d_Te_isNearerFurther_46 : decode b_Te_isNearerFurther 46 = .ok (.invokevirtual 83, 3) := by decide +kernel
theorem d_Te_isNearerFurther_49 : decode b_Te_isNearerFurther 49 = .ok (.ifCond .eq 7, 3) := by decide +kernel
theorem d_Te_isNearerFurther_52 : decode b_Te_isNearerFurther 52 = .ok (.iconst 1, 1) := by decide +kernel
theorem d_Te_isNearerFurther_53 : decode b_Te_isNearerFurther 53 = .ok (.goto 4, 3) := by decide +kernel
theorem d_Te_isNearerFurther_56 : decode b_Te_isNearerFurther 56 = .ok (.iconst 0, 1) := by decide +kernel
theorem d_Te_isNearerFurther_57 : decode b_Te_isNearerFurther 57 = .ok (.ireturn, 1) := by decide +kernel
theorem d_Te_isFurtherFrom0_0 : decode b_Te_isFurtherFrom0 0 = .ok (.aload_n 0, 1) := by decide +kernel
theorem d_Te_isFurtherFrom0_1 : decode b_Te_isFurtherFrom0 1 = .ok (.getfield 12, 3) := by decide +kernel
theorem d_Te_isFurtherFrom0_4 : decode b_Te_isFurtherFrom0 4 = .ok (.getfield 58, 3) := by decide +kernel
theorem d_Te_isFurtherFrom0_7 : decode b_Te_isFurtherFrom0 7 = .ok (.invokevirtual 61, 3) := by decide +kernel
theorem d_Te_isFurtherFrom0_10 : decode b_Te_isFurtherFrom0 10 = .ok (.ifCond .eq 5, 3) := by decide +kernel
theorem d_Te_isFurtherFrom0_13 : decode b_Te_isFurtherFrom0 13 = .ok (.iconst 0, 1) := by decide +kernel
theorem d_Te_isFurtherFrom0_14 : decode b_Te_isFurtherFrom0 14 = .ok (.ireturn, 1) := by decide +kernel
theorem d_Te_isFurtherFrom0_15 : decode b_Te_isFurtherFrom0 15 = .ok (.iload_n 2, 1) := by decide +kernel
theorem d_Te_isFurtherFrom0_16 : decode b_Te_isFurtherFrom0 16 = .ok (.tableswitch 63 1 3 #[28, 41, 54], 28) := by decide +kernel
theorem d_Te_isFurtherFrom0_44 : decode b_Te_isFurtherFrom0 44 = .ok (.aload_n 1, 1) := by decide +kernel
theorem d_Te_isFurtherFrom0_45 : decode b_Te_isFurtherFrom0 45 = .ok (.getfield 65, 3) := by decide +kernel
theorem d_Te_isFurtherFrom0_48 : decode b_Te_isFurtherFrom0 48 = .ok (.ifCond .ge 7, 3) := by decide +kernel
theorem d_Te_isFurtherFrom0_51 : decode b_Te_isFurtherFrom0 51 = .ok (.iconst 1, 1) := by decide +kernel
theorem d_Te_isFurtherFrom0_52 : decode b_Te_isFurtherFrom0 52 = .ok (.goto 4, 3) := by decide +kernel
theorem d_Te_isFurtherFrom0_55 : decode b_Te_isFurtherFrom0 55 = .ok (.iconst 0, 1) := by decide +kernel
theorem d_Te_isFurtherFrom0_56 : decode b_Te_isFurtherFrom0 56 = .ok (.ireturn, 1) := by decide +kernel
theorem d_Te_isFurtherFrom0_57 : decode b_Te_isFurtherFrom0 57 = .ok (.aload_n 1, 1) := by decide +kernel
theorem d_Te_isFurtherFrom0_58 : decode b_Te_isFurtherFrom0 58 = .ok (.getfield 65, 3) := by decide +kernel
theorem d_Te_isFurtherFrom0_61 : decode b_Te_isFurtherFrom0 61 = .ok (.ifCond .le 7, 3) := by decide +kernel
theorem d_Te_isFurtherFrom0_64 : decode b_Te_isFurtherFrom0 64 = .ok (.iconst 1, 1) := by decide +kernel
theorem d_Te_isFurtherFrom0_65 : decode b_Te_isFurtherFrom0 65 = .ok (.goto 4, 3) := by decide +kernel
theorem d_Te_isFurtherFrom0_68 : decode b_Te_isFurtherFrom0 68 = .ok (.iconst 0, 1) := by decide +kernel
theorem d_Te_isFurtherFrom0_69 : decode b_Te_isFurtherFrom0 69 = .ok (.ireturn, 1) := by decide +kernel
theorem d_Te_isFurtherFrom0_70 : decode b_Te_isFurtherFrom0 70 = .ok (.aload_n 0, 1) := by decide +kernel
theorem d_Te_isFurtherFrom0_71 : decode b_Te_isFurtherFrom0 71 = .ok (.aload_n 1, 1) := by decide +kernel
theorem d_Te_isFurtherFrom0_72 : decode b_Te_isFurtherFrom0 72 = .ok (.getfield 43, 3) := by decide +kernel
theorem d_Te_isFurtherFrom0_75 : decode b_Te_isFurtherFrom0 75 = .ok (.invokevirtual 69, 3) := by decide +kernel
theorem d_Te_isFurtherFrom0_78 : decode b_Te_isFurtherFrom0 78 = .ok (.ireturn, 1) := by decide +kernel
theorem d_Te_isFurtherFrom0_79 : decode b_Te_isFurtherFrom0 79 = .ok (.iconst 0, 1) := by decide +kernel
theorem d_Te_isFurtherFrom0_80 : decode b_Te_isFurtherFrom0 80 = .ok (.ireturn, 1) := by decide +kernel
theorem d_Te_roundOff_0 : decode b_Te_roundOff 0 = .ok (.lconst 1, 1) := by decide +kernel
theorem d_Te_roundOff_1 : decode b_Te_roundOff 1 = .ok (.lstore 4, 2) := by decide +kernel
theorem d_Te_roundOff_3 : decode b_Te_roundOff 3 = .ok (.iconst 0, 1) := by decide +kernel
theorem d_Te_roundOff_4 : decode b_Te_roundOff 4 = .ok (.istore 6, 2) := by decide +kernel
theorem d_Te_roundOff_6 : decode b_Te_roundOff 6 = .ok (.iload 6, 2) := by decide +kernel
theorem d_Te_roundOff_8 : decode b_Te_roundOff 8 = .ok (.iload_n 2, 1) := by decide +kernel
theorem d_Te_roundOff_9 : decode b_Te_roundOff 9 = .ok (.if_icmp .ge 17, 3) := by decide +kernel
theorem d_Te_roundOff_12 : decode b_Te_roundOff 12 = .ok (.lload 4, 2) := by decide +kernel
theorem d_Te_roundOff_14 : decode b_Te_roundOff 14 = .ok (.ldc2_w 30, 3) := by decide +kernel
theorem d_Te_roundOff_17 : decode b_Te_roundOff 17 = .ok (.lmul, 1) := by decide +kernel
theorem d_Te_roundOff_18 : decode b_Te_roundOff 18 = .ok (.lstore 4, 2) := by decide +kernel
theorem d_Te_roundOff_20 : decode b_Te_roundOff 20 = .ok (.iinc 6 1, 3) := by decide +kernel
theorem d_Te_roundOff_23 : decode b_Te_roundOff 23 = .ok (.goto (-17), 3) := by decide +kernel
theorem d_Te_roundOff_26 : decode b_Te_roundOff 26 = .ok (.aload_n 0, 1) := by decide +kernel
theorem d_Te_roundOff_27 : decode b_Te_roundOff 27 = .ok (.getfield 27, 3) := by decide +kernel
theorem d_Te_roundOff_30 : decode b_Te_roundOff 30 = .ok (.lload 4, 2) := by decide +kernel
theorem d_Te_roundOff_32 : decode b_Te_roundOff 32 = .ok (.invokevirtual 32, 3) := by decide +kernel
theorem d_Te_roundOff_35 : decode b_Te_roundOff 35 = .ok (.aload_n 0, 1) := by decide +kernel
theorem d_Te_roundOff_36 : decode b_Te_roundOff 36 = .ok (.getfield 23, 3) := by decide +kernel
theorem d_Te_roundOff_39 : decode b_Te_roundOff 39 = .ok (.aload_n 1, 1) := by decide +kernel
theorem d_Te_roundOff_40 : decode b_Te_roundOff 40 = .ok (.getfield 36, 3) := by decide +kernel
theorem d_Te_roundOff_43 : decode b_Te_roundOff 43 = .ok (.aload_n 0, 1) := by decide +kernel
theorem d_Te_roundOff_44 : decode b_Te_roundOff 44 = .ok (.getfield 27, 3) := by decide +kernel
theorem d_Te_roundOff_47 : decode b_Te_roundOff 47 = .ok (.invokevirtual 39, 3) := by decide +kernel
theorem d_Te_roundOff_50 : decode b_Te_roundOff 50 = .ok (.aload_n 0, 1) := by decide +kernel
theorem d_Te_roundOff_51 : decode b_Te_roundOff 51 = .ok (.getfield 12, 3) := by decide +kernel
theorem d_Te_roundOff_54 : decode b_Te_roundOff 54 = .ok (.aload_n 0, 1) := by decide +kernel
theorem d_Te_roundOff_55 : decode b_Te_roundOff 55 = .ok (.getfield 23, 3) := by decide +kernel
theorem d_Te_roundOff_58 : decode b_Te_roundOff 58 = .ok (.aload_n 1, 1) := by decide +kernel
theorem d_Te_roundOff_59 : decode b_Te_roundOff 59 = .ok (.getfield 43, 3) := by decide +kernel
theorem d_Te_roundOff_62 : decode b_Te_roundOff 62 = .ok (.invokevirtual 44, 3) := by decide +kernel
theorem d_Te_roundOff_65 : decode b_Te_roundOff 65 = .ok (.aload_n 0, 1) := by decide +kernel
theorem d_Te_roundOff_66 : decode b_Te_roundOff 66 = .ok (.aload_n 1, 1) := by decide +kernel
theorem d_Te_roundOff_67 : decode b_Te_roundOff 67 = .ok (.iload_n 3, 1) := by decide +kernel
theorem d_Te_roundOff_68 : decode b_Te_roundOff 68 = .ok (.invokevirtual 47, 3) := by decide +kernel
theorem d_Te_roundOff_71 : decode b_Te_roundOff 71 = .ok (.ifCond .ne 4, 3) := by decide +kernel
theorem d_Te_roundOff_74 : decode b_Te_roundOff 74 = .ok (.return_, 1) := by decide +kernel
theorem d_Te_roundOff_75 : decode b_Te_roundOff 75 = .ok (.aload_n 0, 1) := by decide +kernel
theorem d_Te_roundOff_76 : decode b_Te_roundOff 76 = .ok (.getfield 23, 3) := by decide +kernel
theorem d_Te_roundOff_79 : decode b_Te_roundOff 79 = .ok (.lconst 1, 1) := by decide +kernel
theorem d_Te_roundOff_80 : decode b_Te_roundOff 80 = .ok (.invokevirtual 32, 3) := by decide +kernel
theorem d_Te_roundOff_83 : decode b_Te_roundOff 83 = .ok (.aload_n 0, 1) := by decide +kernel
theorem d_Te_roundOff_84 : decode b_Te_roundOff 84 = .ok (.getfield 12, 3) := by decide +kernel
theorem d_Te_roundOff_87 : decode b_Te_roundOff 87 = .ok (.getfield 51, 3) := by decide +kernel
theorem d_Te_roundOff_90 : decode b_Te_roundOff 90 = .ok (.aload_n 0, 1) := by decide +kernel
theorem d_Te_roundOff_91 : decode b_Te_roundOff 91 = .ok (.getfield 23, 3) := by decide +kernel
theorem d_Te_roundOff_94 : decode b_Te_roundOff 94 = .ok (.invokevirtual 54, 3) := by decide +kernel
theorem d_Te_roundOff_97 : decode b_Te_roundOff 97 = .ok (.return_, 1) := by decide +kernel
theorem d_Te_isRoundedLong_0 : decode b_Te_isRoundedLong 0 = .ok (.aload_n 0, 1) := by decide +kernel
theorem d_Te_isRoundedLong_1 : decode b_Te_isRoundedLong 1 = .ok (.getfield 12, 3) := by decide +kernel
theorem d_Te_isRoundedLong_4 : decode b_Te_isRoundedLong 4 = .ok (.getfield 51, 3) := by decide +kernel
theorem d_Te_isRoundedLong_7 : decode b_Te_isRoundedLong 7 = .ok (.getfield 86, 3) := by decide +kernel
theorem d_Te_isRoundedLong_10 : decode b_Te_isRoundedLong 10 = .ok (.iconst 2, 1) := by decide +kernel
theorem d_Te_isRoundedLong_11 : decode b_Te_isRoundedLong 11 = .ok (.if_icmp .le 5, 3) := by decide +kernel
theorem d_Te_isRoundedLong_14 : decode b_Te_isRoundedLong 14 = .ok (.iconst 0, 1) := by decide +kernel
theorem d_Te_isRoundedLong_15 : decode b_Te_isRoundedLong 15 = .ok (.ireturn, 1) := by decide +kernel
theorem d_Te_isRoundedLong_16 : decode b_Te_isRoundedLong 16 = .ok (.aload_n 0, 1) := by decide +kernel
theorem d_Te_isRoundedLong_17 : decode b_Te_isRoundedLong 17 = .ok (.getfield 12, 3) := by decide +kernel
theorem d_Te_isRoundedLong_20 : decode b_Te_isRoundedLong 20 = .ok (.getfield 51, 3) := by decide +kernel
theorem d_Te_isRoundedLong_23 : decode b_Te_isRoundedLong 23 = .ok (.invokevirtual 89, 3) := by decide +kernel
theorem d_Te_isRoundedLong_26 : decode b_Te_isRoundedLong 26 = .ok (.lstore_n 2, 1) := by decide +kernel
theorem d_Te_isRoundedLong_27 : decode b_Te_isRoundedLong 27 = .ok (.lload_n 2, 1) := by decide +kernel
theorem d_Te_isRoundedLong_28 : decode b_Te_isRoundedLong 28 = .ok (.lconst 0, 1) := by decide +kernel
theorem d_Te_isRoundedLong_29 : decode b_Te_isRoundedLong 29 = .ok (.lcmp, 1) := by decide +kernel
theorem d_Te_isRoundedLong_30 : decode b_Te_isRoundedLong 30 = .ok (.ifCond .ge 15, 3) := by decide +kernel
theorem d_Te_isRoundedLong_33 : decode b_Te_isRoundedLong 33 = .ok (.iload_n 1, 1) := by decide +kernel
theorem d_Te_isRoundedLong_34 : decode b_Te_isRoundedLong 34 = .ok (.ifCond .ge 15, 3) := by decide +kernel
theorem d_Te_isRoundedLong_37 : decode b_Te_isRoundedLong 37 = .ok (.lload_n 2, 1) := by decide +kernel
theorem d_Te_isRoundedLong_38 : decode b_Te_isRoundedLong 38 = .ok (.ldc2_w 93, 3) := by decide +kernel
theorem d_Te_isRoundedLong_41 : decode b_Te_isRoundedLong 41 = .ok (.lcmp, 1) := by decide +kernel
theorem d_Te_isRoundedLong_42 : decode b_Te_isRoundedLong 42 = .ok (.ifCond .ne 7, 3) := by decide +kernel
theorem d_Te_isRoundedLong_45 : decode b_Te_isRoundedLong 45 = .ok (.iconst 1, 1) := by decide +kernel
theorem d_Te_isRoundedLong_46 : decode b_Te_isRoundedLong 46 = .ok (.goto 4, 3) := by decide +kernel
theorem d_Te_isRoundedLong_49 : decode b_Te_isRoundedLong 49 = .ok (.iconst 0, 1) := by decide +kernel
theorem d_Te_isRoundedLong_50 : decode b_Te_isRoundedLong 50 = .ok (.ireturn, 1) := by decide +kernel
theorem d_Te_roundedLong_0 : decode b_Te_roundedLong 0 = .ok (.aload_n 0, 1) := by decide +kernel
theorem d_Te_roundedLong_1 : decode b_Te_roundedLong 1 = .ok (.getfield 12, 3) := by decide +kernel
theorem d_Te_roundedLong_4 : decode b_Te_roundedLong 4 = .ok (.getfield 51, 3) := by decide +kernel
theorem d_Te_roundedLong_7 : decode b_Te_roundedLong 7 = .ok (.invokevirtual 89, 3) := by decide +kernel
theorem d_Te_roundedLong_10 : decode b_Te_roundedLong 10 = .ok (.lstore_n 2, 1) := by decide +kernel
theorem d_Te_roundedLong_11 : decode b_Te_roundedLong 11 = .ok (.iload_n 1, 1) := by decide +kernel
theorem d_Te_roundedLong_12 : decode b_Te_roundedLong 12 = .ok (.ifCond .ge 8, 3) := by decide +kernel
theorem d_Te_roundedLong_15 : decode b_Te_roundedLong 15 = .ok (.lload_n 2, 1) := by decide +kernel
theorem d_Te_roundedLong_16 : decode b_Te_roundedLong 16 = .ok (.lneg, 1) := by decide +kernel
theorem d_Te_roundedLong_17 : decode b_Te_roundedLong 17 = .ok (.goto 4, 3) := by decide +kernel
theorem d_Te_roundedLong_20 : decode b_Te_roundedLong 20 = .ok (.lload_n 2, 1) := by decide +kernel
theorem d_Te_roundedLong_21 : decode b_Te_roundedLong 21 = .ok (.lreturn, 1) := by decide +kernel
theorem and_2047 (m : Nat) : nI m &&& 2047 = nI (m % 2048) := by
  rw [show (2047 : Int32) = nI 2047 from rfl, nx_and]
  congr 1
  exact Nat.and_two_pow_sub_one_eq_mod m 11
theorem c_Te_exponentOf (l : Launch) (g : Gh) (nx b : Nat) (hb : b < 18446744073709551616) : Ct l m_Te_exponentOf 0 0 [.long (lN b)] g nx (pP (some (.int (nI (b / 4503599627370496 % 2048)))) g nx) := by
  refine Ct.of (by decide) (Nat.le_of_ble_eq_true rfl) (fun E hE hQ => ?_)
  refine z_lload_n hE d_Te_exponentOf_0 rfl ?_
  refine z_bipush (v := nI 52) hE d_Te_exponentOf_1 (by decide) ?_
  refine z_lushr (v := lN (b / 4503599627370496)) hE d_Te_exponentOf_3 (wb_shr (k := 52) (show b < 2 ^ 64 from hb) (by decide)) ?_
  refine z_l2i (v := nI (b / 4503599627370496)) hE d_Te_exponentOf_4 (lN_i _) ?_
  refine z_sipush (v := 2047) hE d_Te_exponentOf_5 (by decide) ?_
  refine z_iand (v := nI (b / 4503599627370496 % 2048)) hE d_Te_exponentOf_8 (and_2047 _) ?_
  exact z_iret hE hQ d_Te_exponentOf_9 rfl (Nat.le_refl _) (Nat.le_refl _) ⟨rfl, rfl, rfl⟩
theorem c_Te_isNoNumber (l : Launch) (g : Gh) (nx b : Nat) (hb : b < 18446744073709551616) : Ct l m_Te_isNoNumber 0 0 [.long (lN b)] g nx (pP (some (.int (if b / 4503599627370496 % 2048 = 2047 then 1 else 0))) g nx) := by
  refine Ct.of (by decide) (Nat.le_of_ble_eq_true rfl) (fun E hE hQ => ?_)
  refine z_lload_n hE d_Te_isNoNumber_0 rfl ?_
  refine z_callS hE d_Te_isNoNumber_1 cl_Te_103 (c_Te_exponentOf l g nx b hb) rfl (Nat.le_of_ble_eq_true rfl) ⟨by decide, by decide⟩ ⟨by omega, by omega⟩ (fun r_1 g_1 nx_1 hp_1 => ?_) rfl
  obtain ⟨rfl, rfl, rfl⟩ := hp_1
  try dsimp only [Option.toList, List.nil_append, List.cons_append]
  refine z_sipush (v := nI 2047) hE d_Te_isNoNumber_4 (by decide) ?_
  refine z_icmp_ne (tgt := 14) hE d_Te_isNoNumber_7 (by decide) (fun c_7 => ?_) (fun c_7 => ?_)
  · rw [nI_EQ (by omega) (by omega)] at c_7
    refine z_iconst (v := 0) hE d_Te_isNoNumber_14 (by decide) ?_
    exact z_zret hE hQ d_Te_isNoNumber_15 rfl (Nat.le_refl _) (Nat.le_refl _) (Or.inl rfl) ⟨by rw [if_neg c_7], rfl, rfl⟩
  · rw [nI_EQ (by omega) (by omega)] at c_7
    refine z_iconst (v := 1) hE d_Te_isNoNumber_10 (by decide) ?_
    refine z_goto (tgt := 15) hE d_Te_isNoNumber_11 (by decide) ?_
    exact z_zret hE hQ d_Te_isNoNumber_15 rfl (Nat.le_refl _) (Nat.le_refl _) (Or.inr rfl) ⟨by rw [if_pos c_7], rfl, rfl⟩
theorem c_Te_isNearer (l : Launch) {g : Gh} (nx : Nat) {T p K y : Nat} {v : Nat → Nat} (hV : TV g T v) (hp : NA g p K y) (hpo : p + 2 ≤ T ∨ T + 12 ≤ p) (hb : v 6 < 4294967296 ^ 18) : Ct l m_Te_isNearerFurther 0 0 [.ref T, .ref p] g nx (fun r g' nx' => r = some (.int (if y < 2 * v 6 ∨ 2 * v 6 = y ∧ v 4 % 2 = 1 then 1 else 0)) ∧ nx = nx' ∧ gW g g' (T + 8) (T + 10) ∧ ∃ v', TV g' T v' ∧ v' 4 = v 4) := by
  have t1 := hV.1
  have t2 := hV.2.1
  unfold DV at t2
  obtain ⟨_, _, K8, -⟩ := id (hV.2.2 8 (by decide))
  have K81 := K8.1
  have p20 := pw_ge (show 18 ≤ 20 by decide)
  refine Ct.of (by decide) (Nat.le_of_ble_eq_true rfl) (fun E hE hQ => ?_)
  refine z_aload_n hE d_Te_isNearerFurther_0 rfl ?_
  refine z_get hE d_Te_isNearerFurther_1 fl_Te_23 (by assumption) rfl ?_
  refine z_aload_n hE d_Te_isNearerFurther_4 rfl ?_
  refine z_get hE d_Te_isNearerFurther_5 fl_Te_12 (by assumption) rfl ?_
  refine z_getN hE d_Te_isNearerFurther_8 fl_Te_58 (by assumption) rfl ?_
  refine z_callV hE d_Te_isNearerFurther_11 cl_Te_73 (c_Na_become l nx K8 (hV.2.2 6 (by decide)) (by omega) (by omega)) (by assumption) cb_Na rfl (Nat.le_of_ble_eq_true rfl) ⟨by decide, by decide⟩ ⟨by omega, by omega⟩ (fun r_1 g_1 nx_1 hp_1 => ?_) rfl
  try dsimp only [Option.toList, List.nil_append, List.cons_append]
  obtain ⟨rfl, rfl, hA1, hO1⟩ := hp_1
  try dsimp only [Option.toList, List.nil_append, List.cons_append]
  have V1 := TV_O hV (by decide) hA1 hO1
  have w1 : gW g g_1 (T + 8) (T + 10) := gW_O hO1 (by omega) (by omega)
  have t1 := V1.1
  obtain ⟨_, _, ⟨K81, -⟩, -⟩ := id hA1
  refine z_aload_n hE d_Te_isNearerFurther_14 rfl ?_
  refine z_get hE d_Te_isNearerFurther_15 fl_Te_23 (by assumption) rfl ?_
  refine z_iconst (v := nI 1) hE d_Te_isNearerFurther_18 (by decide) ?_
  refine z_callV hE d_Te_isNearerFurther_19 cl_Te_76 (c_Na_shiftUp l nx (p := 18) hA1 1 (by omega) hb (by decide)) (by assumption) cb_Na rfl (Nat.le_of_ble_eq_true rfl) ⟨by decide, by decide⟩ ⟨by omega, by omega⟩ (fun r_2 g_2 nx_2 hp_2 => ?_) rfl
  try dsimp only [Option.toList, List.nil_append, List.cons_append]
  obtain ⟨rfl, rfl, hA2, hO2⟩ := hp_2
  try dsimp only [Option.toList, List.nil_append, List.cons_append]
  have V2 := TV_O V1 (by decide) hA2 hO2
  have w2 : gW g g_2 (T + 8) (T + 10) := gW_t w1 (gW_O hO2 (by omega) (by omega))
  have t1 := V2.1
  have t2 := V2.2.1
  unfold DV at t2
  have p2 := NA_W hp w2 (by omega)
  rw [show v 6 * 2 ^ 1 = 2 * v 6 by omega] at hA2
  obtain ⟨_, _, ⟨K81, -⟩, -⟩ := id hA2
  have n4 : NA g_2 (T + 4) 20 (v 4) := V2.2.2 4 (by decide)
  obtain ⟨_, _, ⟨K41, -⟩, -⟩ := id n4
  have yes : ∀ lv, (y < 2 * v 6 ∨ 2 * v 6 = y ∧ v 4 % 2 = 1) → zJ E g_2 nx 0 0 52 lv [] := by
    intro lv h
    refine z_iconst (v := 1) hE d_Te_isNearerFurther_52 (by decide) ?_
    refine z_goto (tgt := 57) hE d_Te_isNearerFurther_53 (by decide) ?_
    exact z_zret hE hQ d_Te_isNearerFurther_57 rfl (Nat.le_refl _) (Nat.le_refl _) (Or.inr rfl) ⟨by rw [if_pos h], rfl, w2, _, V2, rfl⟩
  have no : ∀ lv, ¬ (y < 2 * v 6 ∨ 2 * v 6 = y ∧ v 4 % 2 = 1) → zJ E g_2 nx 0 0 56 lv [] := by
    intro lv h
    refine z_iconst (v := 0) hE d_Te_isNearerFurther_56 (by decide) ?_
    exact z_zret hE hQ d_Te_isNearerFurther_57 rfl (Nat.le_refl _) (Nat.le_refl _) (Or.inl rfl) ⟨by rw [if_neg h], rfl, w2, _, V2, rfl⟩
  refine z_aload_n hE d_Te_isNearerFurther_22 rfl ?_
  refine z_get hE d_Te_isNearerFurther_23 fl_Te_23 (by assumption) rfl ?_
  refine z_aload_n hE d_Te_isNearerFurther_26 rfl ?_
  refine z_callV hE d_Te_isNearerFurther_27 cl_Te_79 (c_Na_compareWith l nx hA2 p2) (by assumption) cb_Na rfl (Nat.le_of_ble_eq_true rfl) ⟨by decide, by decide⟩ ⟨by omega, by omega⟩ (fun r_27 g_27 nx_27 hp_27 => ?_) rfl
  obtain ⟨rfl, rfl, rfl⟩ := hp_27
  try dsimp only [Option.toList, List.nil_append, List.cons_append]
  rcases Nat.lt_trichotomy (2 * v 6) y with z | z | z
  · rw [cmpN_lt z]
    refine z_istore_n hE d_Te_isNearerFurther_30 rfl (by decide) ?_
    refine z_iload_n hE d_Te_isNearerFurther_31 rfl ?_
    refine z_if_gt (tgt := 52) hE d_Te_isNearerFurther_32 (by decide) (fun c_32 => ?_) (fun c_32 => ?_)
    · exact absurd c_32 (by decide)
    · refine z_iload_n hE d_Te_isNearerFurther_35 rfl ?_
      refine z_if_ne (tgt := 56) hE d_Te_isNearerFurther_36 (by decide) (fun c_36 => ?_) (fun c_36 => ?_)
      · exact no _ (by omega)
      · exact absurd c_36 (by decide)
  · rw [cmpN_eq z]
    refine z_istore_n hE d_Te_isNearerFurther_30 rfl (by decide) ?_
    refine z_iload_n hE d_Te_isNearerFurther_31 rfl ?_
    refine z_if_gt (tgt := 52) hE d_Te_isNearerFurther_32 (by decide) (fun c_32 => ?_) (fun c_32 => ?_)
    · exact absurd c_32 (by decide)
    · refine z_iload_n hE d_Te_isNearerFurther_35 rfl ?_
      refine z_if_ne (tgt := 56) hE d_Te_isNearerFurther_36 (by decide) (fun c_36 => ?_) (fun c_36 => ?_)
      · exact absurd rfl c_36
      · refine z_aload_n hE d_Te_isNearerFurther_39 rfl ?_
        refine z_get hE d_Te_isNearerFurther_40 fl_Te_12 (by assumption) rfl ?_
        refine z_getN hE d_Te_isNearerFurther_43 fl_Te_51 (by assumption) rfl ?_
        refine z_callV hE d_Te_isNearerFurther_46 cl_Te_83 (c_Na_isOdd l nx n4) (by assumption) cb_Na rfl (Nat.le_of_ble_eq_true rfl) ⟨by decide, by decide⟩ ⟨by omega, by omega⟩ (fun r_46 g_46 nx_46 hp_46 => ?_) rfl
        obtain ⟨rfl, rfl, rfl⟩ := hp_46
        try dsimp only [Option.toList, List.nil_append, List.cons_append]
        by_cases ho : v 4 % 2 = 1
        · rw [if_pos ho]
          refine z_if_eq (tgt := 56) hE d_Te_isNearerFurther_49 (by decide) (fun c_49 => ?_) (fun c_49 => ?_)
          · exact absurd c_49 (by decide)
          · exact yes _ (Or.inr ⟨z, ho⟩)
        · rw [if_neg ho]
          refine z_if_eq (tgt := 56) hE d_Te_isNearerFurther_49 (by decide) (fun c_49 => ?_) (fun c_49 => ?_)
          · exact no _ (by omega)
          · exact absurd rfl c_49
  · rw [cmpN_gt z]
    refine z_istore_n hE d_Te_isNearerFurther_30 rfl (by decide) ?_
    refine z_iload_n hE d_Te_isNearerFurther_31 rfl ?_
    refine z_if_gt (tgt := 52) hE d_Te_isNearerFurther_32 (by decide) (fun c_32 => ?_) (fun c_32 => ?_)
    · exact yes _ (Or.inl z)
    · exact absurd (show (0 : Int32) < 1 by decide) c_32
def upR (s : Int32) (y q r way : Nat) : Prop := r ≠ 0 ∧ (way = 1 ∧ s < 0 ∨ way = 2 ∧ 0 < s ∨ way = 3 ∧ (y < 2 * r ∨ 2 * r = y ∧ q % 2 = 1))
theorem c_Te_isFurther (l : Launch) {g : Gh} (nx : Nat) {T f N M aa ab way : Nat} {sa : Int32} {v : Nat → Nat} (hV : TV g T v) (hf : FR g f N M sa aa ab) (hfo : f + 5 ≤ T ∨ T + 12 ≤ f) (hb : v 6 < 4294967296 ^ 18) (hw : way ≤ 3) : Ct l m_Te_isFurtherFrom0 0 0 [.ref T, .ref f, .int (nI way)] g nx (fun r g' nx' => (∃ b : Nat, b ≤ 1 ∧ r = some (.int (nI b)) ∧ (b = 1 ↔ upR sa ab (v 4) (v 6) way)) ∧ nx = nx' ∧ gW g g' (T + 8) (T + 10) ∧ ∃ v', TV g' T v' ∧ v' 4 = v 4) := by
  obtain ⟨f1, f2, f3⟩ := id hf
  have t1 := hV.1
  have t2 := hV.2.1
  unfold DV at t2
  have n6 := hV.2.2 6 (by decide)
  obtain ⟨_, _, ⟨K61, -⟩, -⟩ := id n6
  refine Ct.of (by decide) (Nat.le_of_ble_eq_true rfl) (fun E hE hQ => ?_)
  refine z_aload_n hE d_Te_isFurtherFrom0_0 rfl ?_
  refine z_get hE d_Te_isFurtherFrom0_1 fl_Te_12 (by assumption) rfl ?_
  refine z_getN hE d_Te_isFurtherFrom0_4 fl_Te_58 (by assumption) rfl ?_
  refine z_callV hE d_Te_isFurtherFrom0_7 cl_Te_61 (c_Na_isZero l nx n6) (by assumption) cb_Na rfl (Nat.le_of_ble_eq_true rfl) ⟨by decide, by decide⟩ ⟨by omega, by omega⟩ (fun r_7 g_7 nx_7 hp_7 => ?_) rfl
  obtain ⟨rfl, rfl, rfl⟩ := hp_7
  try dsimp only [Option.toList, List.nil_append, List.cons_append]
  by_cases h0 : v 6 = 0
  · rw [if_pos h0]
    refine z_if_eq (tgt := 15) hE d_Te_isFurtherFrom0_10 (by decide) (fun c_10 => ?_) (fun c_10 => ?_)
    · exact absurd c_10 (by decide)
    · refine z_iconst (v := nI 0) hE d_Te_isFurtherFrom0_13 (by decide) ?_
      refine z_zret hE hQ d_Te_isFurtherFrom0_14 rfl (Nat.le_refl _) (Nat.le_refl _) (Or.inl rfl) ⟨⟨0, by omega, rfl, ?_⟩, rfl, gW_r, v, hV, rfl⟩
      unfold upR
      omega
  · rw [if_neg h0]
    refine z_if_eq (tgt := 15) hE d_Te_isFurtherFrom0_10 (by decide) (fun c_10 => ?_) (fun c_10 => ?_)
    · refine z_iload_n hE d_Te_isFurtherFrom0_15 rfl ?_
      rcases (show way = 0 ∨ way = 1 ∨ way = 2 ∨ way = 3 by omega) with z | z | z | z
      · subst z
        refine z_tableOut (tgt := 79) hE d_Te_isFurtherFrom0_16 (Or.inl (by decide)) (by decide) ?_
        refine z_iconst (v := nI 0) hE d_Te_isFurtherFrom0_79 (by decide) ?_
        refine z_zret hE hQ d_Te_isFurtherFrom0_80 rfl (Nat.le_refl _) (Nat.le_refl _) (Or.inl rfl) ⟨⟨0, by omega, rfl, ?_⟩, rfl, gW_r, v, hV, rfl⟩
        unfold upR
        omega
      · subst z
        refine z_tableIn (tgt := 44) (off := 28) hE d_Te_isFurtherFrom0_16 (by decide) (by decide) (by decide) (by decide) ?_
        refine z_aload_n hE d_Te_isFurtherFrom0_44 rfl ?_
        refine z_getN hE d_Te_isFurtherFrom0_45 fl_Te_65 (by assumption) rfl ?_
        refine z_if_ge (tgt := 55) hE d_Te_isFurtherFrom0_48 (by decide) (fun c_48 => ?_) (fun c_48 => ?_)
        · refine z_iconst (v := nI 0) hE d_Te_isFurtherFrom0_55 (by decide) ?_
          refine z_zret hE hQ d_Te_isFurtherFrom0_56 rfl (Nat.le_refl _) (Nat.le_refl _) (Or.inl rfl) ⟨⟨0, by omega, rfl, ?_⟩, rfl, gW_r, v, hV, rfl⟩
          unfold upR
          have : ¬ sa < 0 := by
            rw [Int32.lt_iff_toInt_lt]
            rw [Int32.le_iff_toInt_le] at c_48
            omega
          constructor
          · intro q; omega
          · rintro ⟨-, q | q | q⟩
            · exact absurd q.2 this
            · omega
            · omega
        · refine z_iconst (v := nI 1) hE d_Te_isFurtherFrom0_51 (by decide) ?_
          refine z_goto (tgt := 56) hE d_Te_isFurtherFrom0_52 (by decide) ?_
          refine z_zret hE hQ d_Te_isFurtherFrom0_56 rfl (Nat.le_refl _) (Nat.le_refl _) (Or.inr rfl) ⟨⟨1, by omega, rfl, ?_⟩, rfl, gW_r, v, hV, rfl⟩
          unfold upR
          have : sa < 0 := by
            rw [Int32.lt_iff_toInt_lt]
            rw [Int32.le_iff_toInt_le] at c_48
            omega
          exact ⟨fun _ => ⟨h0, Or.inl ⟨rfl, this⟩⟩, fun _ => rfl⟩
      · subst z
        refine z_tableIn (tgt := 57) (off := 41) hE d_Te_isFurtherFrom0_16 (by decide) (by decide) (by decide) (by decide) ?_
        refine z_aload_n hE d_Te_isFurtherFrom0_57 rfl ?_
        refine z_getN hE d_Te_isFurtherFrom0_58 fl_Te_65 (by assumption) rfl ?_
        refine z_if_le (tgt := 68) hE d_Te_isFurtherFrom0_61 (by decide) (fun c_61 => ?_) (fun c_61 => ?_)
        · refine z_iconst (v := nI 0) hE d_Te_isFurtherFrom0_68 (by decide) ?_
          refine z_zret hE hQ d_Te_isFurtherFrom0_69 rfl (Nat.le_refl _) (Nat.le_refl _) (Or.inl rfl) ⟨⟨0, by omega, rfl, ?_⟩, rfl, gW_r, v, hV, rfl⟩
          unfold upR
          have : ¬ 0 < sa := by
            rw [Int32.lt_iff_toInt_lt]
            rw [Int32.le_iff_toInt_le] at c_61
            omega
          constructor
          · intro q; omega
          · rintro ⟨-, q | q | q⟩
            · omega
            · exact absurd q.2 this
            · omega
        · refine z_iconst (v := nI 1) hE d_Te_isFurtherFrom0_64 (by decide) ?_
          refine z_goto (tgt := 69) hE d_Te_isFurtherFrom0_65 (by decide) ?_
          refine z_zret hE hQ d_Te_isFurtherFrom0_69 rfl (Nat.le_refl _) (Nat.le_refl _) (Or.inr rfl) ⟨⟨1, by omega, rfl, ?_⟩, rfl, gW_r, v, hV, rfl⟩
          unfold upR
          have : 0 < sa := by
            rw [Int32.lt_iff_toInt_lt]
            rw [Int32.le_iff_toInt_le] at c_61
            omega
          exact ⟨fun _ => ⟨h0, Or.inr (Or.inl ⟨rfl, this⟩)⟩, fun _ => rfl⟩
      · subst z
        refine z_tableIn (tgt := 70) (off := 54) hE d_Te_isFurtherFrom0_16 (by decide) (by decide) (by decide) (by decide) ?_
        refine z_aload_n hE d_Te_isFurtherFrom0_70 rfl ?_
        refine z_aload_n hE d_Te_isFurtherFrom0_71 rfl ?_
        refine z_getN hE d_Te_isFurtherFrom0_72 fl_Te_43 (by assumption) rfl ?_
        refine z_callV hE d_Te_isFurtherFrom0_75 cl_Te_69 (c_Te_isNearer l nx hV f3 (by omega) hb) (by assumption) cb_Te rfl (Nat.le_of_ble_eq_true rfl) ⟨by decide, by decide⟩ ⟨by omega, by omega⟩ (fun r_1 g_1 nx_1 hp_1 => ?_) rfl
        try dsimp only [Option.toList, List.nil_append, List.cons_append]
        obtain ⟨rfl, rfl, W1, v1, V1, e1⟩ := hp_1
        try dsimp only [Option.toList, List.nil_append, List.cons_append]
        by_cases hc : ab < 2 * v 6 ∨ 2 * v 6 = ab ∧ v 4 % 2 = 1
        · rw [if_pos hc]
          refine z_zret hE hQ d_Te_isFurtherFrom0_78 rfl (Nat.le_refl _) (Nat.le_refl _) (Or.inr rfl) ⟨⟨1, by omega, rfl, ?_⟩, rfl, W1, v1, V1, e1⟩
          exact ⟨fun _ => ⟨h0, Or.inr (Or.inr ⟨rfl, hc⟩)⟩, fun _ => rfl⟩
        · rw [if_neg hc]
          refine z_zret hE hQ d_Te_isFurtherFrom0_78 rfl (Nat.le_refl _) (Nat.le_refl _) (Or.inl rfl) ⟨⟨0, by omega, rfl, ?_⟩, rfl, W1, v1, V1, e1⟩
          constructor
          · intro q; omega
          · rintro ⟨-, q | q | q⟩
            · omega
            · omega
            · exact absurd q.2 hc
    · exact absurd rfl c_10

