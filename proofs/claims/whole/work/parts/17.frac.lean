/-! Division made; Fraction; Long.compare -/
def sgL (x : Int64) : Int32 := if x < 0 then -1 else if x = 0 then 0 else 1
theorem d_Dv_init_0 : decode b_Dv_init 0 = .ok (.aload_n 0, 1) := by decide +kernel
theorem d_Dv_init_1 : decode b_Dv_init 1 = .ok (.invokespecial 3, 3) := by decide +kernel
theorem d_Dv_init_4 : decode b_Dv_init 4 = .ok (.aload_n 0, 1) := by decide +kernel
theorem d_Dv_init_5 : decode b_Dv_init 5 = .ok (.new 9, 3) := by decide +kernel
theorem d_Dv_init_8 : decode b_Dv_init 8 = .ok (.dup, 1) := by decide +kernel
theorem d_Dv_init_9 : decode b_Dv_init 9 = .ok (.bipush 20, 2) := by decide +kernel
theorem d_Dv_init_11 : decode b_Dv_init 11 = .ok (.invokespecial 11, 3) := by decide +kernel
theorem d_Dv_init_14 : decode b_Dv_init 14 = .ok (.putfield 14, 3) := by decide +kernel
theorem d_Dv_init_17 : decode b_Dv_init 17 = .ok (.aload_n 0, 1) := by decide +kernel
theorem d_Dv_init_18 : decode b_Dv_init 18 = .ok (.new 9, 3) := by decide +kernel
theorem d_Dv_init_21 : decode b_Dv_init 21 = .ok (.dup, 1) := by decide +kernel
theorem d_Dv_init_22 : decode b_Dv_init 22 = .ok (.bipush 20, 2) := by decide +kernel
theorem d_Dv_init_24 : decode b_Dv_init 24 = .ok (.invokespecial 11, 3) := by decide +kernel
theorem d_Dv_init_27 : decode b_Dv_init 27 = .ok (.putfield 20, 3) := by decide +kernel
theorem d_Dv_init_30 : decode b_Dv_init 30 = .ok (.aload_n 0, 1) := by decide +kernel
theorem d_Dv_init_31 : decode b_Dv_init 31 = .ok (.new 9, 3) := by decide +kernel
theorem d_Dv_init_34 : decode b_Dv_init 34 = .ok (.dup, 1) := by decide +kernel
theorem d_Dv_init_35 : decode b_Dv_init 35 = .ok (.bipush 20, 2) := by decide +kernel
theorem d_Dv_init_37 : decode b_Dv_init 37 = .ok (.invokespecial 11, 3) := by decide +kernel
theorem d_Dv_init_40 : decode b_Dv_init 40 = .ok (.putfield 23, 3) := by decide +kernel
theorem d_Dv_init_43 : decode b_Dv_init 43 = .ok (.return_, 1) := by decide +kernel
theorem d_Fr_init_0 : decode b_Fr_init 0 = .ok (.aload_n 0, 1) := by decide +kernel
theorem d_Fr_init_1 : decode b_Fr_init 1 = .ok (.invokespecial 1, 3) := by decide +kernel
theorem d_Fr_init_4 : decode b_Fr_init 4 = .ok (.aload_n 0, 1) := by decide +kernel
theorem d_Fr_init_5 : decode b_Fr_init 5 = .ok (.new 7, 3) := by decide +kernel
theorem d_Fr_init_8 : decode b_Fr_init 8 = .ok (.dup, 1) := by decide +kernel
theorem d_Fr_init_9 : decode b_Fr_init 9 = .ok (.iload_n 1, 1) := by decide +kernel
theorem d_Fr_init_10 : decode b_Fr_init 10 = .ok (.invokespecial 9, 3) := by decide +kernel
theorem d_Fr_init_13 : decode b_Fr_init 13 = .ok (.putfield 12, 3) := by decide +kernel
theorem d_Fr_init_16 : decode b_Fr_init 16 = .ok (.aload_n 0, 1) := by decide +kernel
theorem d_Fr_init_17 : decode b_Fr_init 17 = .ok (.new 7, 3) := by decide +kernel
theorem d_Fr_init_20 : decode b_Fr_init 20 = .ok (.dup, 1) := by decide +kernel
theorem d_Fr_init_21 : decode b_Fr_init 21 = .ok (.iload_n 2, 1) := by decide +kernel
theorem d_Fr_init_22 : decode b_Fr_init 22 = .ok (.invokespecial 9, 3) := by decide +kernel
theorem d_Fr_init_25 : decode b_Fr_init 25 = .ok (.putfield 18, 3) := by decide +kernel
theorem d_Fr_init_28 : decode b_Fr_init 28 = .ok (.aload_n 0, 1) := by decide +kernel
theorem d_Fr_init_29 : decode b_Fr_init 29 = .ok (.iconst 0, 1) := by decide +kernel
theorem d_Fr_init_30 : decode b_Fr_init 30 = .ok (.putfield 21, 3) := by decide +kernel
theorem d_Fr_init_33 : decode b_Fr_init 33 = .ok (.return_, 1) := by decide +kernel
theorem d_Fr_become_0 : decode b_Fr_become 0 = .ok (.aload_n 0, 1) := by decide +kernel
theorem d_Fr_become_1 : decode b_Fr_become 1 = .ok (.aload_n 1, 1) := by decide +kernel
theorem d_Fr_become_2 : decode b_Fr_become 2 = .ok (.getfield 21, 3) := by decide +kernel
theorem d_Fr_become_5 : decode b_Fr_become 5 = .ok (.putfield 21, 3) := by decide +kernel
theorem d_Fr_become_8 : decode b_Fr_become 8 = .ok (.aload_n 0, 1) := by decide +kernel
theorem d_Fr_become_9 : decode b_Fr_become 9 = .ok (.getfield 12, 3) := by decide +kernel
theorem d_Fr_become_12 : decode b_Fr_become 12 = .ok (.aload_n 1, 1) := by decide +kernel
theorem d_Fr_become_13 : decode b_Fr_become 13 = .ok (.getfield 12, 3) := by decide +kernel
theorem d_Fr_become_16 : decode b_Fr_become 16 = .ok (.invokevirtual 25, 3) := by decide +kernel
theorem d_Fr_become_19 : decode b_Fr_become 19 = .ok (.aload_n 0, 1) := by decide +kernel
theorem d_Fr_become_20 : decode b_Fr_become 20 = .ok (.getfield 18, 3) := by decide +kernel
theorem d_Fr_become_23 : decode b_Fr_become 23 = .ok (.aload_n 1, 1) := by decide +kernel
theorem d_Fr_become_24 : decode b_Fr_become 24 = .ok (.getfield 18, 3) := by decide +kernel
theorem d_Fr_become_27 : decode b_Fr_become 27 = .ok (.invokevirtual 25, 3) := by decide +kernel
theorem d_Fr_become_30 : decode b_Fr_become 30 = .ok (.return_, 1) := by decide +kernel
theorem d_Fr_becomeWhole_0 : decode b_Fr_becomeWhole 0 = .ok (.aload_n 0, 1) := by decide +kernel
theorem d_Fr_becomeWhole_1 : decode b_Fr_becomeWhole 1 = .ok (.lload_n 1, 1) := by decide +kernel
theorem d_Fr_becomeWhole_2 : decode b_Fr_becomeWhole 2 = .ok (.lconst 0, 1) := by decide +kernel
theorem d_Fr_becomeWhole_3 : decode b_Fr_becomeWhole 3 = .ok (.invokestatic 29, 3) := by decide +kernel
theorem d_Fr_becomeWhole_6 : decode b_Fr_becomeWhole 6 = .ok (.putfield 21, 3) := by decide +kernel
theorem d_Fr_becomeWhole_9 : decode b_Fr_becomeWhole 9 = .ok (.aload_n 0, 1) := by decide +kernel
theorem d_Fr_becomeWhole_10 : decode b_Fr_becomeWhole 10 = .ok (.getfield 12, 3) := by decide +kernel
theorem d_Fr_becomeWhole_13 : decode b_Fr_becomeWhole 13 = .ok (.lload_n 1, 1) := by decide +kernel
theorem d_Fr_becomeWhole_14 : decode b_Fr_becomeWhole 14 = .ok (.lconst 0, 1) := by decide +kernel
theorem d_Fr_becomeWhole_15 : decode b_Fr_becomeWhole 15 = .ok (.lcmp, 1) := by decide +kernel
theorem d_Fr_becomeWhole_16 : decode b_Fr_becomeWhole 16 = .ok (.ifCond .ge 8, 3) := by decide +kernel
theorem d_Fr_becomeWhole_19 : decode b_Fr_becomeWhole 19 = .ok (.lload_n 1, 1) := by decide +kernel
theorem d_Fr_becomeWhole_20 : decode b_Fr_becomeWhole 20 = .ok (.lneg, 1) := by decide +kernel
theorem d_Fr_becomeWhole_21 : decode b_Fr_becomeWhole 21 = .ok (.goto 4, 3) := by decide +kernel
theorem d_Fr_becomeWhole_24 : decode b_Fr_becomeWhole 24 = .ok (.lload_n 1, 1) := by decide +kernel
theorem d_Fr_becomeWhole_25 : decode b_Fr_becomeWhole 25 = .ok (.invokevirtual 35, 3) := by decide +kernel
theorem d_Fr_becomeWhole_28 : decode b_Fr_becomeWhole 28 = .ok (.aload_n 0, 1) := by decide +kernel
theorem d_Fr_becomeWhole_29 : decode b_Fr_becomeWhole 29 = .ok (.getfield 18, 3) := by decide +kernel
theorem d_Fr_becomeWhole_32 : decode b_Fr_becomeWhole 32 = .ok (.lconst 1, 1) := by decide +kernel
theorem d_Fr_becomeWhole_33 : decode b_Fr_becomeWhole 33 = .ok (.invokevirtual 35, 3) := by decide +kernel
theorem d_Fr_becomeWhole_36 : decode b_Fr_becomeWhole 36 = .ok (.return_, 1) := by decide +kernel
theorem d_Fr_copied_0 : decode b_Fr_copied 0 = .ok (.new 13, 3) := by decide +kernel
theorem d_Fr_copied_3 : decode b_Fr_copied 3 = .ok (.dup, 1) := by decide +kernel
theorem d_Fr_copied_4 : decode b_Fr_copied 4 = .ok (.aload_n 0, 1) := by decide +kernel
theorem d_Fr_copied_5 : decode b_Fr_copied 5 = .ok (.getfield 12, 3) := by decide +kernel
theorem d_Fr_copied_8 : decode b_Fr_copied 8 = .ok (.getfield 39, 3) := by decide +kernel
theorem d_Fr_copied_11 : decode b_Fr_copied 11 = .ok (.aload_n 0, 1) := by decide +kernel
theorem d_Fr_copied_12 : decode b_Fr_copied 12 = .ok (.getfield 18, 3) := by decide +kernel
theorem d_Fr_copied_15 : decode b_Fr_copied 15 = .ok (.getfield 39, 3) := by decide +kernel
theorem d_Fr_copied_18 : decode b_Fr_copied 18 = .ok (.invokespecial 42, 3) := by decide +kernel
theorem d_Fr_copied_21 : decode b_Fr_copied 21 = .ok (.astore_n 1, 1) := by decide +kernel
theorem d_Fr_copied_22 : decode b_Fr_copied 22 = .ok (.aload_n 1, 1) := by decide +kernel
theorem d_Fr_copied_23 : decode b_Fr_copied 23 = .ok (.aload_n 0, 1) := by decide +kernel
theorem d_Fr_copied_24 : decode b_Fr_copied 24 = .ok (.invokevirtual 45, 3) := by decide +kernel
theorem d_Fr_copied_27 : decode b_Fr_copied 27 = .ok (.aload_n 1, 1) := by decide +kernel
theorem d_Fr_copied_28 : decode b_Fr_copied 28 = .ok (.areturn, 1) := by decide +kernel
theorem d_Fr_partOf_0 : decode b_Fr_partOf 0 = .ok (.iload_n 1, 1) := by decide +kernel
theorem d_Fr_partOf_1 : decode b_Fr_partOf 1 = .ok (.ifCond .ne 10, 3) := by decide +kernel
theorem d_Fr_partOf_4 : decode b_Fr_partOf 4 = .ok (.aload_n 0, 1) := by decide +kernel
theorem d_Fr_partOf_5 : decode b_Fr_partOf 5 = .ok (.getfield 12, 3) := by decide +kernel
theorem d_Fr_partOf_8 : decode b_Fr_partOf 8 = .ok (.goto 7, 3) := by decide +kernel
theorem d_Fr_partOf_11 : decode b_Fr_partOf 11 = .ok (.aload_n 0, 1) := by decide +kernel
theorem d_Fr_partOf_12 : decode b_Fr_partOf 12 = .ok (.getfield 18, 3) := by decide +kernel
theorem d_Fr_partOf_15 : decode b_Fr_partOf 15 = .ok (.areturn, 1) := by decide +kernel
theorem d_Fr_isWhole_0 : decode b_Fr_isWhole 0 = .ok (.aload_n 0, 1) := by decide +kernel
theorem d_Fr_isWhole_1 : decode b_Fr_isWhole 1 = .ok (.getfield 18, 3) := by decide +kernel
theorem d_Fr_isWhole_4 : decode b_Fr_isWhole 4 = .ok (.invokevirtual 48, 3) := by decide +kernel
theorem d_Fr_isWhole_7 : decode b_Fr_isWhole 7 = .ok (.ireturn, 1) := by decide +kernel
theorem d_Fr_isOne_0 : decode b_Fr_isOne 0 = .ok (.aload_n 0, 1) := by decide +kernel
theorem d_Fr_isOne_1 : decode b_Fr_isOne 1 = .ok (.getfield 21, 3) := by decide +kernel
theorem d_Fr_isOne_4 : decode b_Fr_isOne 4 = .ok (.ifCond .le 27, 3) := by decide +kernel
theorem d_Fr_isOne_7 : decode b_Fr_isOne 7 = .ok (.aload_n 0, 1) := by decide +kernel
theorem d_Fr_isOne_8 : decode b_Fr_isOne 8 = .ok (.getfield 12, 3) := by decide +kernel
theorem d_Fr_isOne_11 : decode b_Fr_isOne 11 = .ok (.invokevirtual 48, 3) := by decide +kernel
theorem d_Fr_isOne_14 : decode b_Fr_isOne 14 = .ok (.ifCond .eq 17, 3) := by decide +kernel
theorem d_Fr_isOne_17 : decode b_Fr_isOne 17 = .ok (.aload_n 0, 1) := by decide +kernel
theorem d_Fr_isOne_18 : decode b_Fr_isOne 18 = .ok (.getfield 18, 3) := by decide +kernel
theorem d_Fr_isOne_21 : decode b_Fr_isOne 21 = .ok (.invokevirtual 48, 3) := by decide +kernel
theorem d_Fr_isOne_24 : decode b_Fr_isOne 24 = .ok (.ifCond .eq 7, 3) := by decide +kernel
theorem d_Fr_isOne_27 : decode b_Fr_isOne 27 = .ok (.iconst 1, 1) := by decide +kernel
theorem d_Fr_isOne_28 : decode b_Fr_isOne 28 = .ok (.goto 4, 3) := by decide +kernel
theorem d_Fr_isOne_31 : decode b_Fr_isOne 31 = .ok (.iconst 0, 1) := by decide +kernel
theorem d_Fr_isOne_32 : decode b_Fr_isOne 32 = .ok (.ireturn, 1) := by decide +kernel
theorem d_Fr_isSmall_0 : decode b_Fr_isSmall 0 = .ok (.aload_n 0, 1) := by decide +kernel
theorem d_Fr_isSmall_1 : decode b_Fr_isSmall 1 = .ok (.getfield 12, 3) := by decide +kernel
theorem d_Fr_isSmall_4 : decode b_Fr_isSmall 4 = .ok (.invokevirtual 52, 3) := by decide +kernel
theorem d_Fr_isSmall_7 : decode b_Fr_isSmall 7 = .ok (.bipush 63, 2) := by decide +kernel
theorem d_Fr_isSmall_9 : decode b_Fr_isSmall 9 = .ok (.if_icmp .gt 19, 3) := by decide +kernel
theorem d_Fr_isSmall_12 : decode b_Fr_isSmall 12 = .ok (.aload_n 0, 1) := by decide +kernel
theorem d_Fr_isSmall_13 : decode b_Fr_isSmall 13 = .ok (.getfield 18, 3) := by decide +kernel
theorem d_Fr_isSmall_16 : decode b_Fr_isSmall 16 = .ok (.invokevirtual 52, 3) := by decide +kernel
theorem d_Fr_isSmall_19 : decode b_Fr_isSmall 19 = .ok (.bipush 63, 2) := by decide +kernel
theorem d_Fr_isSmall_21 : decode b_Fr_isSmall 21 = .ok (.if_icmp .gt 7, 3) := by decide +kernel
theorem d_Fr_isSmall_24 : decode b_Fr_isSmall 24 = .ok (.iconst 1, 1) := by decide +kernel
theorem d_Fr_isSmall_25 : decode b_Fr_isSmall 25 = .ok (.goto 4, 3) := by decide +kernel
theorem d_Fr_isSmall_28 : decode b_Fr_isSmall 28 = .ok (.iconst 0, 1) := by decide +kernel
theorem d_Fr_isSmall_29 : decode b_Fr_isSmall 29 = .ok (.ireturn, 1) := by decide +kernel
theorem d_Fr_isWide_0 : decode b_Fr_isWide 0 = .ok (.aload_n 0, 1) := by decide +kernel
theorem d_Fr_isWide_1 : decode b_Fr_isWide 1 = .ok (.getfield 12, 3) := by decide +kernel
theorem d_Fr_isWide_4 : decode b_Fr_isWide 4 = .ok (.getfield 39, 3) := by decide +kernel
theorem d_Fr_isWide_7 : decode b_Fr_isWide 7 = .ok (.bipush 8, 2) := by decide +kernel
theorem d_Fr_isWide_9 : decode b_Fr_isWide 9 = .ok (.if_icmp .gt 19, 3) := by decide +kernel
theorem d_Fr_isWide_12 : decode b_Fr_isWide 12 = .ok (.aload_n 0, 1) := by decide +kernel
theorem d_Fr_isWide_13 : decode b_Fr_isWide 13 = .ok (.getfield 18, 3) := by decide +kernel
theorem d_Fr_isWide_16 : decode b_Fr_isWide 16 = .ok (.getfield 39, 3) := by decide +kernel
theorem d_Fr_isWide_19 : decode b_Fr_isWide 19 = .ok (.bipush 8, 2) := by decide +kernel
theorem d_Fr_isWide_21 : decode b_Fr_isWide 21 = .ok (.if_icmp .gt 7, 3) := by decide +kernel
theorem d_Fr_isWide_24 : decode b_Fr_isWide 24 = .ok (.iconst 1, 1) := by decide +kernel
theorem d_Fr_isWide_25 : decode b_Fr_isWide 25 = .ok (.goto 4, 3) := by decide +kernel
theorem d_Fr_isWide_28 : decode b_Fr_isWide 28 = .ok (.iconst 0, 1) := by decide +kernel
theorem d_Fr_isWide_29 : decode b_Fr_isWide 29 = .ok (.ireturn, 1) := by decide +kernel
theorem d_Jl_compare_0 : decode b_Jl_compare 0 = .ok (.lload_n 0, 1) := by decide +kernel
theorem d_Jl_compare_1 : decode b_Jl_compare 1 = .ok (.lload_n 2, 1) := by decide +kernel
theorem d_Jl_compare_2 : decode b_Jl_compare 2 = .ok (.lcmp, 1) := by decide +kernel
theorem d_Jl_compare_3 : decode b_Jl_compare 3 = .ok (.ifCond .ge 7, 3) := by decide +kernel
theorem d_Jl_compare_6 : decode b_Jl_compare 6 = .ok (.iconst (-1), 1) := by decide +kernel
theorem d_Jl_compare_7 : decode b_Jl_compare 7 = .ok (.goto 14, 3) := by decide +kernel
theorem d_Jl_compare_10 : decode b_Jl_compare 10 = .ok (.lload_n 0, 1) := by decide +kernel
theorem d_Jl_compare_11 : decode b_Jl_compare 11 = .ok (.lload_n 2, 1) := by decide +kernel
theorem d_Jl_compare_12 : decode b_Jl_compare 12 = .ok (.lcmp, 1) := by decide +kernel
theorem d_Jl_compare_13 : decode b_Jl_compare 13 = .ok (.ifCond .ne 7, 3) := by decide +kernel
theorem d_Jl_compare_16 : decode b_Jl_compare 16 = .ok (.iconst 0, 1) := by decide +kernel
theorem d_Jl_compare_17 : decode b_Jl_compare 17 = .ok (.goto 4, 3) := by decide +kernel
theorem d_Jl_compare_20 : decode b_Jl_compare 20 = .ok (.iconst 1, 1) := by decide +kernel
theorem d_Jl_compare_21 : decode b_Jl_compare 21 = .ok (.ireturn, 1) := by decide +kernel
theorem c_Jl_compare (l : Launch) (g : Gh) (nx : Nat) (x : Int64) : Ct l m_Jl_compare 0 0 [.long x, .long 0] g nx (pP (some (.int (sgL x))) g nx) := by
  refine Ct.of (by decide) (Nat.le_of_ble_eq_true rfl) (fun E hE hQ => ?_)
  refine z_lload_n hE d_Jl_compare_0 rfl ?_
  refine z_lload_n hE d_Jl_compare_1 rfl ?_
  refine z_lcmp hE d_Jl_compare_2 ?_
  refine z_if_ge (tgt := 10) hE d_Jl_compare_3 (by decide) (fun c_3 => ?_) (fun c_3 => ?_)
  · rw [lg_cmp_ge, Int64.le_iff_toInt_le] at c_3
    refine z_lload_n hE d_Jl_compare_10 rfl ?_
    refine z_lload_n hE d_Jl_compare_11 rfl ?_
    refine z_lcmp hE d_Jl_compare_12 ?_
    refine z_if_ne (tgt := 20) hE d_Jl_compare_13 (by decide) (fun c_13 => ?_) (fun c_13 => ?_)
    · rw [lg_cmp_eq] at c_13
      refine z_iconst (v := 1) hE d_Jl_compare_20 (by decide) ?_
      refine z_iret hE hQ d_Jl_compare_21 rfl (Nat.le_refl _) (Nat.le_refl _) ⟨?_, rfl, rfl⟩
      unfold sgL
      rw [if_neg (by rw [Int64.lt_iff_toInt_lt]; omega), if_neg c_13]
    · rw [lg_cmp_eq] at c_13
      refine z_iconst (v := 0) hE d_Jl_compare_16 (by decide) ?_
      refine z_goto (tgt := 21) hE d_Jl_compare_17 (by decide) ?_
      refine z_iret hE hQ d_Jl_compare_21 rfl (Nat.le_refl _) (Nat.le_refl _) ⟨?_, rfl, rfl⟩
      unfold sgL
      rw [if_neg (by rw [Int64.lt_iff_toInt_lt]; omega), if_pos c_13]
  · rw [lg_cmp_ge, Int64.le_iff_toInt_le] at c_3
    refine z_iconst (v := (-1)) hE d_Jl_compare_6 (by decide) ?_
    refine z_goto (tgt := 21) hE d_Jl_compare_7 (by decide) ?_
    refine z_iret hE hQ d_Jl_compare_21 rfl (Nat.le_refl _) (Nat.le_refl _) ⟨?_, rfl, rfl⟩
    unfold sgL
    rw [if_pos (by rw [Int64.lt_iff_toInt_lt]; omega)]
theorem gS_a {g : Gh} {a q : Nat} {e : gE} : gS g a e q = if q = a then some e else g q := rfl
theorem NA_gS {g : Gh} {a o N v : Nat} {e : gE} (h : NA g a N v) (h1 : a ≠ o) (h2 : a + 1 ≠ o) : NA (gS g o e) a N v := by
  obtain ⟨n, d, q1, q2, q3⟩ := h
  exact ⟨n, d, ⟨by rw [gS_n h1]; exact q1.1, by rw [gS_n h2]; exact q1.2.1, q1.2.2⟩, q2, q3⟩
theorem gW_S {g : Gh} {a lo hi : Nat} {e : gE} (h1 : lo ≤ a) (h2 : a < hi) : gW g (gS g a e) lo hi := fun q hq => gS_n (by omega)
/-- a new Division, whose cell is the newest: three Naturals come -/
theorem c_Dv_init (l : Launch) {g : Gh} {nx o : Nat} (hnx : nx = o + 1) (h : g o = some (.inr (0, [.null, .null, .null]))) : Ct l m_Dv_init 6 66 [.ref o] g nx (fun r g' nx' => r = none ∧ nx' = nx + 6 ∧ DV g' o ∧ NA g' (o + 1) 20 0 ∧ NA g' (o + 3) 20 0 ∧ NA g' (o + 5) 20 0 ∧ gW g g' o (o + 7)) := by
  subst hnx
  refine Ct.of (by decide) (Nat.le_of_ble_eq_true rfl) (fun E hE hQ => ?_)
  refine z_aload_n hE d_Dv_init_0 rfl ?_
  refine z_objInit hE d_Dv_init_1 ol_Dv_3 ol_i ol_c (by decide) (Nat.le_of_ble_eq_true rfl) ?_
  refine z_aload_n hE d_Dv_init_4 rfl ?_
  refine z_new (fs := [.null, .int 0]) hE d_Dv_init_5 ct_Na rfl kl_Dv_9 is_Na it_Na (by decide) (by omega) (by omega) ?_
  refine z_dup hE d_Dv_init_8 rfl ?_
  refine z_bipush (v := nI 20) hE d_Dv_init_9 (by decide) ?_
  refine z_callI hE d_Dv_init_11 cl_Dv_11 (c_Na_init l 20 (by omega) rfl gS_s) rfl (Nat.le_of_ble_eq_true rfl) ⟨by decide, by decide⟩ ⟨by omega, by omega⟩ (fun r_1 g_1 nx_1 hp_1 => ?_) rfl
  try dsimp only [Option.toList, List.nil_append, List.cons_append]
  obtain ⟨rfl, rfl, hA1, hO1⟩ := hp_1
  try dsimp only [Option.toList, List.nil_append, List.cons_append]
  have e1 : g_1 o = some (.inr (0, [.null, .null, .null])) := by rw [hO1 o (by omega) (by omega), gS_n (by omega)]; exact h
  refine z_putF hE d_Dv_init_14 fl_Dv_14 ct_Dv ff_Dv_0 rfl ⟨_, _, _, rfl, rfl⟩ (e1) rfl rfl (Nat.le_of_ble_eq_true rfl) ?_
  refine z_aload_n hE d_Dv_init_17 rfl ?_
  refine z_new (fs := [.null, .int 0]) hE d_Dv_init_18 ct_Na rfl kl_Dv_9 is_Na it_Na (by decide) (by omega) (by omega) ?_
  refine z_dup hE d_Dv_init_21 rfl ?_
  refine z_bipush (v := nI 20) hE d_Dv_init_22 (by decide) ?_
  refine z_callI hE d_Dv_init_24 cl_Dv_11 (c_Na_init l 20 (by omega) rfl gS_s) rfl (Nat.le_of_ble_eq_true rfl) ⟨by decide, by decide⟩ ⟨by omega, by omega⟩ (fun r_2 g_2 nx_2 hp_2 => ?_) rfl
  try dsimp only [Option.toList, List.nil_append, List.cons_append]
  obtain ⟨rfl, rfl, hA2, hO2⟩ := hp_2
  try dsimp only [Option.toList, List.nil_append, List.cons_append]
  have e2 : g_2 o = some (.inr (0, [.ref (o + 1), .null, .null])) := by rw [hO2 o (by omega) (by omega), gS_n (by omega), gS_s]; rfl
  refine z_putF hE d_Dv_init_27 fl_Dv_20 ct_Dv ff_Dv_1 rfl ⟨_, _, _, rfl, rfl⟩ (e2) rfl rfl (Nat.le_of_ble_eq_true rfl) ?_
  refine z_aload_n hE d_Dv_init_30 rfl ?_
  refine z_new (fs := [.null, .int 0]) hE d_Dv_init_31 ct_Na rfl kl_Dv_9 is_Na it_Na (by decide) (by omega) (by omega) ?_
  refine z_dup hE d_Dv_init_34 rfl ?_
  refine z_bipush (v := nI 20) hE d_Dv_init_35 (by decide) ?_
  refine z_callI hE d_Dv_init_37 cl_Dv_11 (c_Na_init l 20 (by omega) rfl gS_s) rfl (Nat.le_of_ble_eq_true rfl) ⟨by decide, by decide⟩ ⟨by omega, by omega⟩ (fun r_3 g_3 nx_3 hp_3 => ?_) rfl
  try dsimp only [Option.toList, List.nil_append, List.cons_append]
  obtain ⟨rfl, rfl, hA3, hO3⟩ := hp_3
  try dsimp only [Option.toList, List.nil_append, List.cons_append]
  have e3 : g_3 o = some (.inr (0, [.ref (o + 1), .ref (o + 1 + 1 + 1), .null])) := by rw [hO3 o (by omega) (by omega), gS_n (by omega), gS_s]; rfl
  refine z_putF hE d_Dv_init_40 fl_Dv_23 ct_Dv ff_Dv_2 rfl ⟨_, _, _, rfl, rfl⟩ (e3) rfl rfl (Nat.le_of_ble_eq_true rfl) ?_
  have k1 : ∀ q, q ≠ o → q < o + 1 → g_3 q = g q := fun q a1 a2 => by rw [hO3 q (by omega) (by omega), gS_n (by omega), gS_n a1, hO2 q (by omega) (by omega), gS_n (by omega), gS_n a1, hO1 q (by omega) (by omega), gS_n (by omega)]
  have k2 : ∀ q, o + 7 ≤ q → g_3 q = g q := fun q a1 => by rw [hO3 q (by omega) (by omega), gS_n (by omega), gS_n (by omega), hO2 q (by omega) (by omega), gS_n (by omega), gS_n (by omega), hO1 q (by omega) (by omega), gS_n (by omega)]
  have b1 : NA g_3 (o + 1) 20 0 := by
    have x1 := NA_gS (e := .inr (0, [Value.null, .null, .null].set 0 (.ref (o + 1)))) hA1 (show o + 1 ≠ o by omega) (show o + 1 + 1 ≠ o by omega)
    have x2 := NA_gS (e := .inr (2, [Value.null, .int 0])) x1 (show o + 1 ≠ o + 1 + 1 + 1 by omega) (show o + 1 + 1 ≠ o + 1 + 1 + 1 by omega)
    have x3 : NA g_2 (o + 1) 20 0 := by
      obtain ⟨n, d, q1, q2, q3⟩ := x2
      exact ⟨n, d, ⟨by rw [hO2 _ (by omega) (by omega)]; exact q1.1, by rw [hO2 _ (by omega) (by omega)]; exact q1.2.1, q1.2.2⟩, q2, q3⟩
    obtain ⟨n, d, q1, q2, q3⟩ := x3
    refine ⟨n, d, ⟨?_, ?_, q1.2.2⟩, q2, q3⟩
    · rw [hO3 _ (by omega) (by omega), gS_n (by omega), gS_n (by omega)]; exact q1.1
    · rw [hO3 _ (by omega) (by omega), gS_n (by omega), gS_n (by omega)]; exact q1.2.1
  have b2 : NA g_3 (o + 3) 20 0 := by
    obtain ⟨n, d, q1, q2, q3⟩ := hA2
    refine ⟨n, d, ⟨?_, ?_, q1.2.2⟩, q2, q3⟩
    · rw [hO3 _ (by omega) (by omega), gS_n (by omega), gS_n (by omega)]; exact q1.1
    · rw [hO3 _ (by omega) (by omega), gS_n (by omega), gS_n (by omega)]; exact q1.2.1
  refine z_vret hE hQ d_Dv_init_43 rfl (by omega) (by omega) ⟨rfl, by omega, gS_s, NA_gS b1 (by omega) (by omega), NA_gS b2 (by omega) (by omega), NA_gS hA3 (by omega) (by omega), fun q hq => ?_⟩
  rw [gS_n (by omega)]
  rcases hq with a | a
  · exact k1 q (by omega) (by omega)
  · exact k2 q a
/-- a Fraction at f: sign, ABOVE, BELOW -/
def FR (g : Gh) (f N M : Nat) (sg : Int32) (a b : Nat) : Prop := g f = some (.inr (1, [.ref (f + 1), .ref (f + 3), .int sg])) ∧ NA g (f + 1) N a ∧ NA g (f + 3) M b
theorem FR_W {g g' : Gh} {f N M a b lo hi : Nat} {sg : Int32} (h : FR g f N M sg a b) (hw : gW g g' lo hi) (hf : f + 5 ≤ lo ∨ hi ≤ f) : FR g' f N M sg a b :=
  ⟨by rw [hw f (by omega)]; exact h.1, NA_W h.2.1 hw (by omega), NA_W h.2.2 hw (by omega)⟩
theorem c_Fr_partOf (l : Launch) {g : Gh} (nx : Nat) {f : Nat} {sg : Int32} (h : g f = some (.inr (1, [.ref (f + 1), .ref (f + 3), .int sg]))) (p : Nat) (hp : p ≤ 1) : Ct l m_Fr_partOf 0 0 [.ref f, .int (nI p)] g nx (pP (some (.ref (if p = 0 then f + 1 else f + 3))) g nx) := by
  refine Ct.of (by decide) (Nat.le_of_ble_eq_true rfl) (fun E hE hQ => ?_)
  refine z_iload_n hE d_Fr_partOf_0 rfl ?_
  refine z_if_ne (tgt := 11) hE d_Fr_partOf_1 (by decide) (fun c_1 => ?_) (fun c_1 => ?_)
  · refine z_aload_n hE d_Fr_partOf_11 rfl ?_
    refine z_get hE d_Fr_partOf_12 fl_Fr_18 (by assumption) rfl ?_
    refine z_aret (r := some (f + 3)) hE hQ d_Fr_partOf_15 rfl (Or.inl ⟨_, rfl⟩) (Nat.le_refl _) (Nat.le_refl _) ⟨?_, rfl, rfl⟩
    rw [if_neg (fun q => c_1 (by rw [q]; rfl))]; rfl
  · refine z_aload_n hE d_Fr_partOf_4 rfl ?_
    refine z_get hE d_Fr_partOf_5 fl_Fr_12 (by assumption) rfl ?_
    refine z_goto (tgt := 15) hE d_Fr_partOf_8 (by decide) ?_
    refine z_aret (r := some (f + 1)) hE hQ d_Fr_partOf_15 rfl (Or.inl ⟨_, rfl⟩) (Nat.le_refl _) (Nat.le_refl _) ⟨?_, rfl, rfl⟩
    rw [if_pos ((nI_EQ (b := 0) (by omega) (by omega)).mp c_1)]; rfl
theorem c_Fr_isWhole (l : Launch) {g : Gh} (nx : Nat) {f N M a b : Nat} {sg : Int32} (h : FR g f N M sg a b) : Ct l m_Fr_isWhole 0 0 [.ref f] g nx (pP (some (.int (if b = 1 then 1 else 0))) g nx) := by
  obtain ⟨h1, h2, h3⟩ := h
  obtain ⟨_, _, ⟨hb1, -⟩, -⟩ := id h3
  refine Ct.of (by decide) (Nat.le_of_ble_eq_true rfl) (fun E hE hQ => ?_)
  refine z_aload_n hE d_Fr_isWhole_0 rfl ?_
  refine z_get hE d_Fr_isWhole_1 fl_Fr_18 (by assumption) rfl ?_
  refine z_callV hE d_Fr_isWhole_4 cl_Fr_48 (c_Na_isOne l nx h3) (by assumption) cb_Na rfl (Nat.le_of_ble_eq_true rfl) ⟨by decide, by decide⟩ ⟨by omega, by omega⟩ (fun r_4 g_4 nx_4 hp_4 => ?_) rfl
  obtain ⟨rfl, rfl, rfl⟩ := hp_4
  try dsimp only [Option.toList, List.nil_append, List.cons_append]
  refine z_zret hE hQ d_Fr_isWhole_7 rfl (Nat.le_refl _) (Nat.le_refl _) (by split; exact Or.inr rfl; exact Or.inl rfl) ⟨rfl, rfl, rfl⟩
theorem c_Fr_isOne (l : Launch) {g : Gh} (nx : Nat) {f N M a b : Nat} {sg : Int32} (h : FR g f N M sg a b) : Ct l m_Fr_isOne 0 0 [.ref f] g nx (pP (some (.int (if 0 < sg ∧ a = 1 ∧ b = 1 then 1 else 0))) g nx) := by
  obtain ⟨h1, h2, h3⟩ := h
  obtain ⟨_, _, ⟨ha1, -⟩, -⟩ := id h2
  obtain ⟨_, _, ⟨hb1, -⟩, -⟩ := id h3
  refine Ct.of (by decide) (Nat.le_of_ble_eq_true rfl) (fun E hE hQ => ?_)
  have no : ∀ lv, ¬ (0 < sg ∧ a = 1 ∧ b = 1) → zJ E g nx 0 0 31 lv [] := by
    intro lv hn
    refine z_iconst (v := 0) hE d_Fr_isOne_31 (by decide) ?_
    refine z_zret hE hQ d_Fr_isOne_32 rfl (Nat.le_refl _) (Nat.le_refl _) (Or.inl rfl) ⟨by rw [if_neg hn], rfl, rfl⟩
  refine z_aload_n hE d_Fr_isOne_0 rfl ?_
  refine z_get hE d_Fr_isOne_1 fl_Fr_21 (by assumption) rfl ?_
  refine z_if_le (tgt := 31) hE d_Fr_isOne_4 (by decide) (fun c_4 => ?_) (fun c_4 => ?_)
  · refine no _ (fun q => ?_)
    rw [Int32.le_iff_toInt_le] at c_4
    have := q.1
    rw [Int32.lt_iff_toInt_lt] at this
    omega
  · have hs : 0 < sg := by
      rw [Int32.le_iff_toInt_le] at c_4
      rw [Int32.lt_iff_toInt_lt]
      omega
    refine z_aload_n hE d_Fr_isOne_7 rfl ?_
    refine z_get hE d_Fr_isOne_8 fl_Fr_12 (by assumption) rfl ?_
    refine z_callV hE d_Fr_isOne_11 cl_Fr_48 (c_Na_isOne l nx h2) (by assumption) cb_Na rfl (Nat.le_of_ble_eq_true rfl) ⟨by decide, by decide⟩ ⟨by omega, by omega⟩ (fun r_11 g_11 nx_11 hp_11 => ?_) rfl
    obtain ⟨rfl, rfl, rfl⟩ := hp_11
    try dsimp only [Option.toList, List.nil_append, List.cons_append]
    refine z_if_eq (tgt := 31) hE d_Fr_isOne_14 (by decide) (fun c_14 => ?_) (fun c_14 => ?_)
    · refine no _ (fun q => ?_)
      rw [if_pos q.2.1] at c_14
      exact absurd c_14 (by decide)
    · have ha : a = 1 := by
        rcases Decidable.em (a = 1) with q | q
        · exact q
        · rw [if_neg q] at c_14; exact absurd rfl c_14
      refine z_aload_n hE d_Fr_isOne_17 rfl ?_
      refine z_get hE d_Fr_isOne_18 fl_Fr_18 (by assumption) rfl ?_
      refine z_callV hE d_Fr_isOne_21 cl_Fr_48 (c_Na_isOne l nx h3) (by assumption) cb_Na rfl (Nat.le_of_ble_eq_true rfl) ⟨by decide, by decide⟩ ⟨by omega, by omega⟩ (fun r_21 g_21 nx_21 hp_21 => ?_) rfl
      obtain ⟨rfl, rfl, rfl⟩ := hp_21
      try dsimp only [Option.toList, List.nil_append, List.cons_append]
      refine z_if_eq (tgt := 31) hE d_Fr_isOne_24 (by decide) (fun c_24 => ?_) (fun c_24 => ?_)
      · refine no _ (fun q => ?_)
        rw [if_pos q.2.2] at c_24
        exact absurd c_24 (by decide)
      · have hb : b = 1 := by
          rcases Decidable.em (b = 1) with q | q
          · exact q
          · rw [if_neg q] at c_24; exact absurd rfl c_24
        refine z_iconst (v := 1) hE d_Fr_isOne_27 (by decide) ?_
        refine z_goto (tgt := 32) hE d_Fr_isOne_28 (by decide) ?_
        refine z_zret hE hQ d_Fr_isOne_32 rfl (Nat.le_refl _) (Nat.le_refl _) (Or.inr rfl) ⟨by rw [if_pos ⟨hs, ha, hb⟩], rfl, rfl⟩
theorem bl_le20 {g : Gh} {a N v : Nat} (h : NA g a N v) : bl v ≤ 640 := by
  obtain ⟨n, d, h1, rfl, -⟩ := h
  rw [bl_iff]
  have h2 := val_lt h1.2.2.2.2 n
  have h3 := pw_ge (show n ≤ 20 from Nat.le_trans h1.2.2.1 h1.2.2.2.1)
  have h4 : (4294967296 : Nat) ^ 20 = 2 ^ 640 := by
    rw [show (4294967296 : Nat) = 2 ^ 32 from rfl, ← Nat.pow_mul]
  rw [← h4]
  exact Nat.lt_of_lt_of_le h2 h3
theorem c_Fr_isSmall (l : Launch) {g : Gh} (nx : Nat) {f N M a b : Nat} {sg : Int32} (h : FR g f N M sg a b) : Ct l m_Fr_isSmall 0 0 [.ref f] g nx (pP (some (.int (if bl a ≤ 63 ∧ bl b ≤ 63 then 1 else 0))) g nx) := by
  obtain ⟨h1, h2, h3⟩ := h
  obtain ⟨_, _, ⟨ha1, -⟩, -⟩ := id h2
  obtain ⟨_, _, ⟨hb1, -⟩, -⟩ := id h3
  have b1 := bl_le20 h2
  have b2 := bl_le20 h3
  refine Ct.of (by decide) (Nat.le_of_ble_eq_true rfl) (fun E hE hQ => ?_)
  have no : ∀ lv, ¬ (bl a ≤ 63 ∧ bl b ≤ 63) → zJ E g nx 0 0 28 lv [] := by
    intro lv hn
    refine z_iconst (v := 0) hE d_Fr_isSmall_28 (by decide) ?_
    refine z_zret hE hQ d_Fr_isSmall_29 rfl (Nat.le_refl _) (Nat.le_refl _) (Or.inl rfl) ⟨by rw [if_neg hn], rfl, rfl⟩
  refine z_aload_n hE d_Fr_isSmall_0 rfl ?_
  refine z_get hE d_Fr_isSmall_1 fl_Fr_12 (by assumption) rfl ?_
  refine z_callV hE d_Fr_isSmall_4 cl_Fr_52 (c_Na_countBits l nx h2) (by assumption) cb_Na rfl (Nat.le_of_ble_eq_true rfl) ⟨by decide, by decide⟩ ⟨by omega, by omega⟩ (fun r_4 g_4 nx_4 hp_4 => ?_) rfl
  obtain ⟨rfl, rfl, rfl⟩ := hp_4
  try dsimp only [Option.toList, List.nil_append, List.cons_append]
  refine z_bipush (v := nI 63) hE d_Fr_isSmall_7 (by decide) ?_
  refine z_icmp_gt (tgt := 28) hE d_Fr_isSmall_9 (by decide) (fun c_9 => ?_) (fun c_9 => ?_)
  · rw [nI_LT (by omega) (by omega)] at c_9
    exact no _ (by omega)
  · rw [nI_LT (by omega) (by omega)] at c_9
    refine z_aload_n hE d_Fr_isSmall_12 rfl ?_
    refine z_get hE d_Fr_isSmall_13 fl_Fr_18 (by assumption) rfl ?_
    refine z_callV hE d_Fr_isSmall_16 cl_Fr_52 (c_Na_countBits l nx h3) (by assumption) cb_Na rfl (Nat.le_of_ble_eq_true rfl) ⟨by decide, by decide⟩ ⟨by omega, by omega⟩ (fun r_16 g_16 nx_16 hp_16 => ?_) rfl
    obtain ⟨rfl, rfl, rfl⟩ := hp_16
    try dsimp only [Option.toList, List.nil_append, List.cons_append]
    refine z_bipush (v := nI 63) hE d_Fr_isSmall_19 (by decide) ?_
    refine z_icmp_gt (tgt := 28) hE d_Fr_isSmall_21 (by decide) (fun c_21 => ?_) (fun c_21 => ?_)
    · rw [nI_LT (by omega) (by omega)] at c_21
      exact no _ (by omega)
    · rw [nI_LT (by omega) (by omega)] at c_21
      refine z_iconst (v := 1) hE d_Fr_isSmall_24 (by decide) ?_
      refine z_goto (tgt := 29) hE d_Fr_isSmall_25 (by decide) ?_
      refine z_zret hE hQ d_Fr_isSmall_29 rfl (Nat.le_refl _) (Nat.le_refl _) (Or.inr rfl) ⟨by rw [if_pos ⟨by omega, by omega⟩], rfl, rfl⟩
theorem c_Fr_isWide (l : Launch) {g : Gh} (nx : Nat) {f N M a b : Nat} {sg : Int32} (h : FR g f N M sg a b) : Ct l m_Fr_isWide 0 0 [.ref f] g nx (pP (some (.int (if a < 4294967296 ^ 8 ∧ b < 4294967296 ^ 8 then 1 else 0))) g nx) := by
  obtain ⟨h1, h2, h3⟩ := h
  obtain ⟨n, d, ha, hav, han⟩ := id h2
  obtain ⟨m, e, hb, hbv, hbn⟩ := id h3
  have ha1 := ha.1
  have hb1 := hb.1
  have i1 := norm_len (k := 8) ha.2.2.2.2 han
  have i2 := norm_len (k := 8) hb.2.2.2.2 hbn
  rw [hav] at i1
  rw [hbv] at i2
  have j1 := Nat.le_trans ha.2.2.1 ha.2.2.2.1
  have j2 := Nat.le_trans hb.2.2.1 hb.2.2.2.1
  simp only [i1, i2]
  refine Ct.of (by decide) (Nat.le_of_ble_eq_true rfl) (fun E hE hQ => ?_)
  have no : ∀ lv, ¬ (n ≤ 8 ∧ m ≤ 8) → zJ E g nx 0 0 28 lv [] := by
    intro lv hn
    refine z_iconst (v := 0) hE d_Fr_isWide_28 (by decide) ?_
    refine z_zret hE hQ d_Fr_isWide_29 rfl (Nat.le_refl _) (Nat.le_refl _) (Or.inl rfl) ⟨by rw [if_neg hn], rfl, rfl⟩
  refine z_aload_n hE d_Fr_isWide_0 rfl ?_
  refine z_get hE d_Fr_isWide_1 fl_Fr_12 (by assumption) rfl ?_
  refine z_getN hE d_Fr_isWide_4 fl_Fr_39 (by assumption) rfl ?_
  refine z_bipush (v := nI 8) hE d_Fr_isWide_7 (by decide) ?_
  refine z_icmp_gt (tgt := 28) hE d_Fr_isWide_9 (by decide) (fun c_9 => ?_) (fun c_9 => ?_)
  · rw [nI_LT (by omega) (by omega)] at c_9
    exact no _ (by omega)
  · rw [nI_LT (by omega) (by omega)] at c_9
    refine z_aload_n hE d_Fr_isWide_12 rfl ?_
    refine z_get hE d_Fr_isWide_13 fl_Fr_18 (by assumption) rfl ?_
    refine z_getN hE d_Fr_isWide_16 fl_Fr_39 (by assumption) rfl ?_
    refine z_bipush (v := nI 8) hE d_Fr_isWide_19 (by decide) ?_
    refine z_icmp_gt (tgt := 28) hE d_Fr_isWide_21 (by decide) (fun c_21 => ?_) (fun c_21 => ?_)
    · rw [nI_LT (by omega) (by omega)] at c_21
      exact no _ (by omega)
    · rw [nI_LT (by omega) (by omega)] at c_21
      refine z_iconst (v := 1) hE d_Fr_isWide_24 (by decide) ?_
      refine z_goto (tgt := 29) hE d_Fr_isWide_25 (by decide) ?_
      refine z_zret hE hQ d_Fr_isWide_29 rfl (Nat.le_refl _) (Nat.le_refl _) (Or.inr rfl) ⟨by rw [if_pos ⟨by omega, by omega⟩], rfl, rfl⟩

