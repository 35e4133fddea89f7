/-! Reckoner: the greatest common divisor, its parts -/
def RE (g : Gh) (R : Nat) : Prop := g R = some (.inr (3, [.ref (R + 1), .ref (R + 6), .ref (R + 13), .ref (R + 15), .ref (R + 17), .ref (R + 19), .ref (R + 21), .ref (R + 23)]))
theorem d_Re_isShort_0 : decode b_Re_isShort 0 = .ok (.aload_n 0, 1) := by decide +kernel
theorem d_Re_isShort_1 : decode b_Re_isShort 1 = .ok (.getfield 102, 3) := by decide +kernel
theorem d_Re_isShort_4 : decode b_Re_isShort 4 = .ok (.iconst 2, 1) := by decide +kernel
theorem d_Re_isShort_5 : decode b_Re_isShort 5 = .ok (.if_icmp .lt 20, 3) := by decide +kernel
theorem d_Re_isShort_8 : decode b_Re_isShort 8 = .ok (.aload_n 0, 1) := by decide +kernel
theorem d_Re_isShort_9 : decode b_Re_isShort 9 = .ok (.getfield 102, 3) := by decide +kernel
theorem d_Re_isShort_12 : decode b_Re_isShort 12 = .ok (.iconst 2, 1) := by decide +kernel
theorem d_Re_isShort_13 : decode b_Re_isShort 13 = .ok (.if_icmp .ne 16, 3) := by decide +kernel
theorem d_Re_isShort_16 : decode b_Re_isShort 16 = .ok (.aload_n 0, 1) := by decide +kernel
theorem d_Re_isShort_17 : decode b_Re_isShort 17 = .ok (.invokevirtual 147, 3) := by decide +kernel
theorem d_Re_isShort_20 : decode b_Re_isShort 20 = .ok (.lconst 0, 1) := by decide +kernel
theorem d_Re_isShort_21 : decode b_Re_isShort 21 = .ok (.lcmp, 1) := by decide +kernel
theorem d_Re_isShort_22 : decode b_Re_isShort 22 = .ok (.ifCond .lt 7, 3) := by decide +kernel
theorem d_Re_isShort_25 : decode b_Re_isShort 25 = .ok (.iconst 1, 1) := by decide +kernel
theorem d_Re_isShort_26 : decode b_Re_isShort 26 = .ok (.goto 4, 3) := by decide +kernel
theorem d_Re_isShort_29 : decode b_Re_isShort 29 = .ok (.iconst 0, 1) := by decide +kernel
theorem d_Re_isShort_30 : decode b_Re_isShort 30 = .ok (.ireturn, 1) := by decide +kernel
theorem d_Re_commonOfLongs_0 : decode b_Re_commonOfLongs 0 = .ok (.lload_n 0, 1) := by decide +kernel
theorem d_Re_commonOfLongs_1 : decode b_Re_commonOfLongs 1 = .ok (.lstore 4, 2) := by decide +kernel
theorem d_Re_commonOfLongs_3 : decode b_Re_commonOfLongs 3 = .ok (.lload_n 2, 1) := by decide +kernel
theorem d_Re_commonOfLongs_4 : decode b_Re_commonOfLongs 4 = .ok (.lstore 6, 2) := by decide +kernel
theorem d_Re_commonOfLongs_6 : decode b_Re_commonOfLongs 6 = .ok (.iconst 0, 1) := by decide +kernel
theorem d_Re_commonOfLongs_7 : decode b_Re_commonOfLongs 7 = .ok (.istore 8, 2) := by decide +kernel
theorem d_Re_commonOfLongs_9 : decode b_Re_commonOfLongs 9 = .ok (.iload 8, 2) := by decide +kernel
theorem d_Re_commonOfLongs_11 : decode b_Re_commonOfLongs 11 = .ok (.ldc 142, 2) := by decide +kernel
theorem d_Re_commonOfLongs_13 : decode b_Re_commonOfLongs 13 = .ok (.if_icmp .ge 31, 3) := by decide +kernel
theorem d_Re_commonOfLongs_16 : decode b_Re_commonOfLongs 16 = .ok (.lload 6, 2) := by decide +kernel
theorem d_Re_commonOfLongs_18 : decode b_Re_commonOfLongs 18 = .ok (.lconst 0, 1) := by decide +kernel
theorem d_Re_commonOfLongs_19 : decode b_Re_commonOfLongs 19 = .ok (.lcmp, 1) := by decide +kernel
theorem d_Re_commonOfLongs_20 : decode b_Re_commonOfLongs 20 = .ok (.ifCond .eq 24, 3) := by decide +kernel
theorem d_Re_commonOfLongs_23 : decode b_Re_commonOfLongs 23 = .ok (.lload 4, 2) := by decide +kernel
theorem d_Re_commonOfLongs_25 : decode b_Re_commonOfLongs 25 = .ok (.lload 6, 2) := by decide +kernel
theorem d_Re_commonOfLongs_27 : decode b_Re_commonOfLongs 27 = .ok (.lrem, 1) := by decide +kernel
theorem d_Re_commonOfLongs_28 : decode b_Re_commonOfLongs 28 = .ok (.lstore 9, 2) := by decide +kernel
theorem d_Re_commonOfLongs_30 : decode b_Re_commonOfLongs 30 = .ok (.lload 6, 2) := by decide +kernel
theorem d_Re_commonOfLongs_32 : decode b_Re_commonOfLongs 32 = .ok (.lstore 4, 2) := by decide +kernel
theorem d_Re_commonOfLongs_34 : decode b_Re_commonOfLongs 34 = .ok (.lload 9, 2) := by decide +kernel
theorem d_Re_commonOfLongs_36 : decode b_Re_commonOfLongs 36 = .ok (.lstore 6, 2) := by decide +kernel
theorem d_Re_commonOfLongs_38 : decode b_Re_commonOfLongs 38 = .ok (.iinc 8 1, 3) := by decide +kernel
theorem d_Re_commonOfLongs_41 : decode b_Re_commonOfLongs 41 = .ok (.goto (-32), 3) := by decide +kernel
theorem d_Re_commonOfLongs_44 : decode b_Re_commonOfLongs 44 = .ok (.lload 4, 2) := by decide +kernel
theorem d_Re_commonOfLongs_46 : decode b_Re_commonOfLongs 46 = .ok (.lreturn, 1) := by decide +kernel
theorem d_Re_mix_0 : decode b_Re_mix 0 = .ok (.lconst 0, 1) := by decide +kernel
theorem d_Re_mix_1 : decode b_Re_mix 1 = .ok (.lstore 9, 2) := by decide +kernel
theorem d_Re_mix_3 : decode b_Re_mix 3 = .ok (.lconst 0, 1) := by decide +kernel
theorem d_Re_mix_4 : decode b_Re_mix 4 = .ok (.lstore 11, 2) := by decide +kernel
theorem d_Re_mix_6 : decode b_Re_mix 6 = .ok (.aload_n 0, 1) := by decide +kernel
theorem d_Re_mix_7 : decode b_Re_mix 7 = .ok (.getfield 30, 3) := by decide +kernel
theorem d_Re_mix_10 : decode b_Re_mix 10 = .ok (.getfield 102, 3) := by decide +kernel
theorem d_Re_mix_13 : decode b_Re_mix 13 = .ok (.istore 13, 2) := by decide +kernel
theorem d_Re_mix_15 : decode b_Re_mix 15 = .ok (.aload_n 0, 1) := by decide +kernel
theorem d_Re_mix_16 : decode b_Re_mix 16 = .ok (.getfield 34, 3) := by decide +kernel
theorem d_Re_mix_19 : decode b_Re_mix 19 = .ok (.iload 13, 2) := by decide +kernel
theorem d_Re_mix_21 : decode b_Re_mix 21 = .ok (.invokevirtual 176, 3) := by decide +kernel
theorem d_Re_mix_24 : decode b_Re_mix 24 = .ok (.iconst 0, 1) := by decide +kernel
theorem d_Re_mix_25 : decode b_Re_mix 25 = .ok (.istore 14, 2) := by decide +kernel
theorem d_Re_mix_27 : decode b_Re_mix 27 = .ok (.iload 14, 2) := by decide +kernel
theorem d_Re_mix_29 : decode b_Re_mix 29 = .ok (.iload 13, 2) := by decide +kernel
theorem d_Re_mix_31 : decode b_Re_mix 31 = .ok (.if_icmp .ge 105, 3) := by decide +kernel
theorem d_Re_mix_34 : decode b_Re_mix 34 = .ok (.aload_n 0, 1) := by decide +kernel
theorem d_Re_mix_35 : decode b_Re_mix 35 = .ok (.getfield 30, 3) := by decide +kernel
theorem d_Re_mix_38 : decode b_Re_mix 38 = .ok (.iload 14, 2) := by decide +kernel
theorem d_Re_mix_40 : decode b_Re_mix 40 = .ok (.invokevirtual 179, 3) := by decide +kernel
theorem d_Re_mix_43 : decode b_Re_mix 43 = .ok (.lstore 15, 2) := by decide +kernel
theorem d_Re_mix_45 : decode b_Re_mix 45 = .ok (.aload_n 0, 1) := by decide +kernel
theorem d_Re_mix_46 : decode b_Re_mix 46 = .ok (.getfield 34, 3) := by decide +kernel
theorem d_Re_mix_49 : decode b_Re_mix 49 = .ok (.iload 14, 2) := by decide +kernel
theorem d_Re_mix_51 : decode b_Re_mix 51 = .ok (.invokevirtual 179, 3) := by decide +kernel
theorem d_Re_mix_54 : decode b_Re_mix 54 = .ok (.lstore 17, 2) := by decide +kernel
theorem d_Re_mix_56 : decode b_Re_mix 56 = .ok (.lload 9, 2) := by decide +kernel
theorem d_Re_mix_58 : decode b_Re_mix 58 = .ok (.lload_n 1, 1) := by decide +kernel
theorem d_Re_mix_59 : decode b_Re_mix 59 = .ok (.lload 15, 2) := by decide +kernel
theorem d_Re_mix_61 : decode b_Re_mix 61 = .ok (.lmul, 1) := by decide +kernel
theorem d_Re_mix_62 : decode b_Re_mix 62 = .ok (.lload_n 3, 1) := by decide +kernel
theorem d_Re_mix_63 : decode b_Re_mix 63 = .ok (.lload 17, 2) := by decide +kernel
theorem d_Re_mix_65 : decode b_Re_mix 65 = .ok (.lmul, 1) := by decide +kernel
theorem d_Re_mix_66 : decode b_Re_mix 66 = .ok (.ladd, 1) := by decide +kernel
theorem d_Re_mix_67 : decode b_Re_mix 67 = .ok (.ladd, 1) := by decide +kernel
theorem d_Re_mix_68 : decode b_Re_mix 68 = .ok (.lstore 9, 2) := by decide +kernel
theorem d_Re_mix_70 : decode b_Re_mix 70 = .ok (.lload 11, 2) := by decide +kernel
theorem d_Re_mix_72 : decode b_Re_mix 72 = .ok (.lload 5, 2) := by decide +kernel
theorem d_Re_mix_74 : decode b_Re_mix 74 = .ok (.lload 15, 2) := by decide +kernel
theorem d_Re_mix_76 : decode b_Re_mix 76 = .ok (.lmul, 1) := by decide +kernel
theorem d_Re_mix_77 : decode b_Re_mix 77 = .ok (.lload 7, 2) := by decide +kernel
theorem d_Re_mix_79 : decode b_Re_mix 79 = .ok (.lload 17, 2) := by decide +kernel
theorem d_Re_mix_81 : decode b_Re_mix 81 = .ok (.lmul, 1) := by decide +kernel
theorem d_Re_mix_82 : decode b_Re_mix 82 = .ok (.ladd, 1) := by decide +kernel
theorem d_Re_mix_83 : decode b_Re_mix 83 = .ok (.ladd, 1) := by decide +kernel
theorem d_Re_mix_84 : decode b_Re_mix 84 = .ok (.lstore 11, 2) := by decide +kernel
theorem d_Re_mix_86 : decode b_Re_mix 86 = .ok (.aload_n 0, 1) := by decide +kernel
theorem d_Re_mix_87 : decode b_Re_mix 87 = .ok (.getfield 30, 3) := by decide +kernel
theorem d_Re_mix_90 : decode b_Re_mix 90 = .ok (.iload 14, 2) := by decide +kernel
theorem d_Re_mix_92 : decode b_Re_mix 92 = .ok (.lload 9, 2) := by decide +kernel
theorem d_Re_mix_94 : decode b_Re_mix 94 = .ok (.ldc2_w 182, 3) := by decide +kernel
theorem d_Re_mix_97 : decode b_Re_mix 97 = .ok (.land, 1) := by decide +kernel
theorem d_Re_mix_98 : decode b_Re_mix 98 = .ok (.invokevirtual 184, 3) := by decide +kernel
theorem d_Re_mix_101 : decode b_Re_mix 101 = .ok (.aload_n 0, 1) := by decide +kernel
theorem d_Re_mix_102 : decode b_Re_mix 102 = .ok (.getfield 34, 3) := by decide +kernel
theorem d_Re_mix_105 : decode b_Re_mix 105 = .ok (.iload 14, 2) := by decide +kernel
theorem d_Re_mix_107 : decode b_Re_mix 107 = .ok (.lload 11, 2) := by decide +kernel
theorem d_Re_mix_109 : decode b_Re_mix 109 = .ok (.ldc2_w 182, 3) := by decide +kernel
theorem d_Re_mix_112 : decode b_Re_mix 112 = .ok (.land, 1) := by decide +kernel
theorem d_Re_mix_113 : decode b_Re_mix 113 = .ok (.invokevirtual 184, 3) := by decide +kernel
theorem d_Re_mix_116 : decode b_Re_mix 116 = .ok (.lload 9, 2) := by decide +kernel
theorem d_Re_mix_118 : decode b_Re_mix 118 = .ok (.bipush 32, 2) := by decide +kernel
theorem d_Re_mix_120 : decode b_Re_mix 120 = .ok (.lshr, 1) := by decide +kernel
theorem d_Re_mix_121 : decode b_Re_mix 121 = .ok (.lstore 9, 2) := by decide +kernel
theorem d_Re_mix_123 : decode b_Re_mix 123 = .ok (.lload 11, 2) := by decide +kernel
theorem d_Re_mix_125 : decode b_Re_mix 125 = .ok (.bipush 32, 2) := by decide +kernel
theorem d_Re_mix_127 : decode b_Re_mix 127 = .ok (.lshr, 1) := by decide +kernel
theorem d_Re_mix_128 : decode b_Re_mix 128 = .ok (.lstore 11, 2) := by decide +kernel
theorem d_Re_mix_130 : decode b_Re_mix 130 = .ok (.iinc 14 1, 3) := by decide +kernel
theorem d_Re_mix_133 : decode b_Re_mix 133 = .ok (.goto (-106), 3) := by decide +kernel
theorem d_Re_mix_136 : decode b_Re_mix 136 = .ok (.aload_n 0, 1) := by decide +kernel
theorem d_Re_mix_137 : decode b_Re_mix 137 = .ok (.getfield 30, 3) := by decide +kernel
theorem d_Re_mix_140 : decode b_Re_mix 140 = .ok (.invokevirtual 188, 3) := by decide +kernel
theorem d_Re_mix_143 : decode b_Re_mix 143 = .ok (.aload_n 0, 1) := by decide +kernel
theorem d_Re_mix_144 : decode b_Re_mix 144 = .ok (.getfield 34, 3) := by decide +kernel
theorem d_Re_mix_147 : decode b_Re_mix 147 = .ok (.invokevirtual 188, 3) := by decide +kernel
theorem d_Re_mix_150 : decode b_Re_mix 150 = .ok (.return_, 1) := by decide +kernel
theorem c_Re_isShort (l : Launch) {g : Gh} (nx : Nat) {a N v : Nat} (ha : NA g a N v) : Ct l m_Re_isShort 0 0 [.ref a] g nx (pP (some (.int (if v < 9223372036854775808 then 1 else 0))) g nx) := by
  obtain ⟨n, d, hR, hav, han⟩ := id ha
  obtain ⟨a1, a2, a3, a4, a5⟩ := id hR
  have i1 := norm_len (k := 1) a5 han
  have i2 := norm_len (k := 2) a5 han
  rw [hav] at i1 i2
  rw [show (4294967296 : Nat) ^ 1 = 4294967296 from rfl] at i1
  rw [show (4294967296 : Nat) ^ 2 = 18446744073709551616 from rfl] at i2
  refine Ct.of (by decide) (Nat.le_of_ble_eq_true rfl) (fun E hE hQ => ?_)
  have yes : ∀ lv, v < 9223372036854775808 → zJ E g nx 0 0 25 lv [] := by
    intro lv h
    refine z_iconst (v := 1) hE d_Re_isShort_25 (by decide) ?_
    refine z_goto (tgt := 30) hE d_Re_isShort_26 (by decide) ?_
    exact z_zret hE hQ d_Re_isShort_30 rfl (Nat.le_refl _) (Nat.le_refl _) (Or.inr rfl) ⟨by rw [if_pos h], rfl, rfl⟩
  have no : ∀ lv, ¬ v < 9223372036854775808 → zJ E g nx 0 0 29 lv [] := by
    intro lv h
    refine z_iconst (v := 0) hE d_Re_isShort_29 (by decide) ?_
    exact z_zret hE hQ d_Re_isShort_30 rfl (Nat.le_refl _) (Nat.le_refl _) (Or.inl rfl) ⟨by rw [if_neg h], rfl, rfl⟩
  refine z_aload_n hE d_Re_isShort_0 rfl ?_
  refine z_getN hE d_Re_isShort_1 fl_Re_102 (by assumption) rfl ?_
  refine z_iconst (v := nI 2) hE d_Re_isShort_4 (by decide) ?_
  refine z_icmp_lt (tgt := 25) hE d_Re_isShort_5 (by decide) (fun c_5 => ?_) (fun c_5 => ?_)
  · rw [nI_LT (by omega) (by omega)] at c_5
    exact yes _ (by have := i1.mpr (by omega); omega)
  · rw [nI_LT (by omega) (by omega)] at c_5
    refine z_aload_n hE d_Re_isShort_8 rfl ?_
    refine z_getN hE d_Re_isShort_9 fl_Re_102 (by assumption) rfl ?_
    refine z_iconst (v := nI 2) hE d_Re_isShort_12 (by decide) ?_
    refine z_icmp_ne (tgt := 29) hE d_Re_isShort_13 (by decide) (fun c_13 => ?_) (fun c_13 => ?_)
    · rw [nI_EQ (by omega) (by omega)] at c_13
      refine no _ (fun h => ?_)
      have := i2.mp (by omega)
      omega
    · have hv2 : v < 18446744073709551616 := i2.mpr (by rw [nI_EQ (by omega) (by omega)] at c_13; omega)
      refine z_aload_n hE d_Re_isShort_16 rfl ?_
      refine z_callV hE d_Re_isShort_17 cl_Re_147 (c_Na_lowLong l nx ha) (by assumption) cb_Na rfl (Nat.le_of_ble_eq_true rfl) ⟨by decide, by decide⟩ ⟨by omega, by omega⟩ (fun r_17 g_17 nx_17 hp_17 => ?_) rfl
      obtain ⟨rfl, rfl, rfl⟩ := hp_17
      try dsimp only [Option.toList, List.nil_append, List.cons_append]
      rw [Nat.mod_eq_of_lt hv2]
      refine z_lconst (v := lN 0) hE d_Re_isShort_20 (by decide) ?_
      refine z_lcmp hE d_Re_isShort_21 ?_
      refine z_if_lt (tgt := 29) hE d_Re_isShort_22 (by decide) (fun c_22 => ?_) (fun c_22 => ?_)
      · rw [lg_cmp_lt, Int64.lt_iff_toInt_lt, lN_TI, lN_TI] at c_22
        refine no _ (fun h => ?_)
        rw [if_pos (by omega), if_pos (by omega)] at c_22
        omega
      · rw [lg_cmp_lt, Int64.lt_iff_toInt_lt, lN_TI, lN_TI] at c_22
        refine yes _ ?_
        rcases Nat.lt_or_ge v 9223372036854775808 with h | h
        · exact h
        · rw [if_neg (by omega), if_pos (by omega)] at c_22
          omega
theorem half_mul {u w P : Nat} (hw : w ≤ u) (h0 : 0 < w) (h : u * w < 2 * P) : w * (u % w) < P := by
  have h1 := Nat.mod_add_div u w
  have h2 := Nat.mod_lt u h0
  have h3 : 1 ≤ u / w := (Nat.le_div_iff_mul_le h0).mpr (by omega)
  have h4 := Nat.mul_le_mul_left w h3
  have h5 : u % w * 2 ≤ u := by omega
  have h6 := Nat.mul_le_mul_right w h5
  rw [Nat.mul_right_comm, Nat.mul_comm (u % w) w] at h6
  omega
theorem c_Re_commonOfLongs (l : Launch) (g : Gh) (nx x y : Nat) (hx : x < 9223372036854775808) (hy : y ≤ x) : Ct l m_Re_commonOfLongs 0 0 [.long (lN x), .long (lN y)] g nx (pP (some (.long (lN (Nat.gcd x y)))) g nx) := by
  refine Ct.of (by decide) (Nat.le_of_ble_eq_true rfl) (fun E hE hQ => ?_)
  have loop : ∀ (t i u w : Nat), i + t = 130 → u < 9223372036854775808 → w ≤ u → u * w < 2 ^ t → Nat.gcd u w = Nat.gcd x y → ∀ lv, lG lv 4 = some (.long (lN u)) → lG lv 6 = some (.long (lN w)) → lG lv 8 = some (.int (nI i)) → zJ E g nx 0 0 9 lv [] := by
    intro t
    induction t with
    | zero =>
      intro i u w hi hu hwu hp hg lv l4 l6 l8
      refine z_sub (lv' := [(4, .long (lN u)), (6, .long (lN w)), (8, .int (nI i))]) (by simp only [List.map, l4, l6, l8]) ?_
      have hw0 : w = 0 := by
        rcases Nat.eq_zero_or_pos w with z | z
        · exact z
        · have := Nat.mul_le_mul (Nat.le_trans z hwu) z
          rw [Nat.pow_zero] at hp
          omega
      subst hw0
      refine z_iload hE d_Re_commonOfLongs_9 rfl ?_
      refine z_ldc hE d_Re_commonOfLongs_11 cn_Re_142 ?_
      refine z_icmp_ge (tgt := 44) hE d_Re_commonOfLongs_13 (by decide) (fun c_13 => ?_) (fun c_13 => ?_)
      · rw [show (1000000 : Int32) = nI 1000000 from rfl, nI_LE (by omega) (by omega)] at c_13
        omega
      · refine z_lload hE d_Re_commonOfLongs_16 rfl ?_
        refine z_lconst (v := lN 0) hE d_Re_commonOfLongs_18 (by decide) ?_
        refine z_lcmp hE d_Re_commonOfLongs_19 ?_
        refine z_if_eq (tgt := 44) hE d_Re_commonOfLongs_20 (by decide) (fun c_20 => ?_) (fun c_20 => ?_)
        · refine z_lload hE d_Re_commonOfLongs_44 rfl ?_
          refine z_lret hE hQ d_Re_commonOfLongs_46 rfl (Nat.le_refl _) (Nat.le_refl _) ⟨?_, rfl, rfl⟩
          rw [← hg, Nat.gcd_zero_right]
        · exact absurd ((lg_cmp_eq _ _).mpr rfl) c_20
    | succ t ih =>
      intro i u w hi hu hwu hp hg lv l4 l6 l8
      refine z_sub (lv' := [(4, .long (lN u)), (6, .long (lN w)), (8, .int (nI i))]) (by simp only [List.map, l4, l6, l8]) ?_
      refine z_iload hE d_Re_commonOfLongs_9 rfl ?_
      refine z_ldc hE d_Re_commonOfLongs_11 cn_Re_142 ?_
      refine z_icmp_ge (tgt := 44) hE d_Re_commonOfLongs_13 (by decide) (fun c_13 => ?_) (fun c_13 => ?_)
      · rw [show (1000000 : Int32) = nI 1000000 from rfl, nI_LE (by omega) (by omega)] at c_13
        omega
      · refine z_lload hE d_Re_commonOfLongs_16 rfl ?_
        refine z_lconst (v := lN 0) hE d_Re_commonOfLongs_18 (by decide) ?_
        refine z_lcmp hE d_Re_commonOfLongs_19 ?_
        refine z_if_eq (tgt := 44) hE d_Re_commonOfLongs_20 (by decide) (fun c_20 => ?_) (fun c_20 => ?_)
        · rw [lg_cmp_eq, pk_lEQ (by omega) (by omega)] at c_20
          subst c_20
          refine z_lload hE d_Re_commonOfLongs_44 rfl ?_
          refine z_lret hE hQ d_Re_commonOfLongs_46 rfl (Nat.le_refl _) (Nat.le_refl _) ⟨?_, rfl, rfl⟩
          rw [← hg, Nat.gcd_zero_right]
        · rw [lg_cmp_eq, pk_lEQ (by omega) (by omega)] at c_20
          refine z_lload hE d_Re_commonOfLongs_23 rfl ?_
          refine z_lload hE d_Re_commonOfLongs_25 rfl ?_
          refine z_lrem (v := lN (u % w)) hE d_Re_commonOfLongs_27 (by rw [show (0 : Int64) = lN 0 from rfl, pk_lEQ (by omega) (by omega)]; omega) (pk_lRem (by omega) (by omega) (by omega)) ?_
          refine z_lstore hE d_Re_commonOfLongs_28 (by decide) ?_
          refine z_lload hE d_Re_commonOfLongs_30 rfl ?_
          refine z_lstore hE d_Re_commonOfLongs_32 (by decide) ?_
          refine z_lload hE d_Re_commonOfLongs_34 rfl ?_
          refine z_lstore hE d_Re_commonOfLongs_36 (by decide) ?_
          refine z_iinc (v := nI (i + 1)) hE d_Re_commonOfLongs_38 rfl (nI_1 i) (by decide) ?_
          refine z_goto (tgt := 9) hE d_Re_commonOfLongs_41 (by decide) ?_
          have h2 := Nat.mod_lt u (show w > 0 by omega)
          rw [Nat.pow_succ, Nat.mul_comm (2 ^ t)] at hp
          refine ih (i + 1) w (u % w) (by omega) (by omega) (by omega) (half_mul hwu (by omega) hp) ?_ _ rfl rfl rfl
          rw [← hg, Nat.gcd_comm, ← Nat.gcd_rec, Nat.gcd_comm]
  refine z_lload_n hE d_Re_commonOfLongs_0 rfl ?_
  refine z_lstore hE d_Re_commonOfLongs_1 (by decide) ?_
  refine z_lload_n hE d_Re_commonOfLongs_3 rfl ?_
  refine z_lstore hE d_Re_commonOfLongs_4 (by decide) ?_
  refine z_iconst (v := nI 0) hE d_Re_commonOfLongs_6 (by decide) ?_
  refine z_istore hE d_Re_commonOfLongs_7 (by decide) ?_
  refine loop 130 0 x y (by omega) hx hy ?_ rfl _ rfl rfl rfl
  have h1 := Nat.mul_le_mul (Nat.le_of_lt hx) (Nat.le_of_lt (Nat.lt_of_le_of_lt hy hx))
  exact Nat.lt_of_le_of_lt h1 (by decide)
/-- a signed sum of products, limb by limb: bounds of what is carried -/
theorem mx_b {a b x y c : Int} (ha : -2147483647 ≤ a) (ha2 : a ≤ 2147483647) (hb : -2147483647 ≤ b) (hb2 : b ≤ 2147483647) (hs : (0 ≤ a ∧ b ≤ 0) ∨ (a ≤ 0 ∧ 0 ≤ b)) (hx : 0 ≤ x) (hx2 : x ≤ 4294967295) (hy : 0 ≤ y) (hy2 : y ≤ 4294967295) (hc : -2147483648 ≤ c) (hc2 : c ≤ 2147483647) :
    -9223372036854775808 ≤ c + (a * x + b * y) ∧ c + (a * x + b * y) ≤ 9223372036854775807 ∧ -2147483648 ≤ (c + (a * x + b * y)) / 4294967296 ∧ (c + (a * x + b * y)) / 4294967296 ≤ 2147483647 := by
  have key : ∀ s t : Int, 0 ≤ s → s ≤ 2147483647 → 0 ≤ t → t ≤ 4294967295 → 0 ≤ s * t ∧ s * t ≤ 2147483647 * 4294967295 := by
    intro s t h1 h2 h3 h4
    exact ⟨Int.mul_nonneg h1 h3, Int.mul_le_mul h2 h4 h3 (by omega)⟩
  rcases hs with ⟨h1, h2⟩ | ⟨h1, h2⟩
  · have k1 := key a x h1 ha2 hx hx2
    have k2 := key (-b) y (by omega) (by omega) hy hy2
    rw [Int.neg_mul] at k2
    omega
  · have k1 := key (-a) x (by omega) (by omega) hx hx2
    have k2 := key b y h2 hb2 hy hy2
    rw [Int.neg_mul] at k1
    omega

