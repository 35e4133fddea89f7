/-! the reference: product, doubling, halving, common divisor -/
theorem w16_le {d : Nat → Nat} {i n : Nat} (h : i ≤ n) : w16 d i ≤ w16 d n := by
  obtain ⟨k, rfl⟩ : ∃ k, n = i + k := ⟨n - i, by omega⟩
  exact w16_mono k
theorem st_prod {x c' f c a b P : Nat} (h : x + 65536 * c' = a * b + f + c) : x * P + c' * (65536 * P) = a * b * P + f * P + c * P := st_add h
theorem l_shr16 {a : Nat} (h : a < 2 ^ 62) : lN a >>> ((nI 16).toInt64 &&& 63) = lN (a / 65536) := pf_shr (d := 16) (by decide) h
theorem l_mask16 {a : Nat} (h : a < 2 ^ 64) : lN a &&& 65535 = lN (a % 65536) := wb_mask (k := 16) h (by decide)
theorem mul16 {a b f c : Nat} (ha : a < 65536) (hb : b < 65536) (hf : f < 65536) (hc : c < 65536) : a * b + f + c < 4294967296 := by
  have h1 := Nat.mul_le_mul (show a ≤ 65535 by omega) (show b ≤ 65535 by omega)
  omega
/-- a figure that isn't 0 leaves room -/
theorem mul_room {d e : Nat → Nat} {i : Nat} (he : ∀ j, e j < 65536) (hi : i < 56) (h0 : d i ≠ 0) (hlt : w16 d 56 * w16 e 56 < 65536 ^ 56) : w16 e (56 - i) = w16 e 56 := by
  have h1 : 65536 ^ i ≤ w16 d 56 := by
    have h2 := w16_le (d := d) (show i + 1 ≤ 56 by omega)
    rw [w16_s] at h2
    have h3 := Nat.mul_le_mul_right (65536 ^ i) (show 1 ≤ d i by omega)
    omega
  have h4 := Nat.mul_le_mul_right (w16 e 56) h1
  have h5 : 65536 ^ 56 = 65536 ^ i * 65536 ^ (56 - i) := by rw [← Nat.pow_add]; congr 1; omega
  have h6 : w16 e 56 < 65536 ^ (56 - i) := by
    have : 65536 ^ i * w16 e 56 < 65536 ^ i * 65536 ^ (56 - i) := by omega
    exact Nat.lt_of_mul_lt_mul_left this
  have h7 := w16_low (d := e) he (n := 56 - i) (m := i) (by rw [show 56 - i + i = 56 by omega]; exact h6)
  rw [show 56 - i + i = 56 by omega] at h7
  exact h7.symm
theorem d_Mo_shared_0 : decode b_Mo_shared 0 = .ok (.aload_n 0, 1) := by decide +kernel
theorem d_Mo_shared_1 : decode b_Mo_shared 1 = .ok (.invokestatic 77, 3) := by decide +kernel
theorem d_Mo_shared_4 : decode b_Mo_shared 4 = .ok (.ifCond .eq 9, 3) := by decide +kernel
theorem d_Mo_shared_7 : decode b_Mo_shared 7 = .ok (.aload_n 1, 1) := by decide +kernel
theorem d_Mo_shared_8 : decode b_Mo_shared 8 = .ok (.aload_n 0, 1) := by decide +kernel
theorem d_Mo_shared_9 : decode b_Mo_shared 9 = .ok (.invokestatic 81, 3) := by decide +kernel
theorem d_Mo_shared_12 : decode b_Mo_shared 12 = .ok (.return_, 1) := by decide +kernel
theorem d_Mo_shared_13 : decode b_Mo_shared 13 = .ok (.aload_n 1, 1) := by decide +kernel
theorem d_Mo_shared_14 : decode b_Mo_shared 14 = .ok (.invokestatic 77, 3) := by decide +kernel
theorem d_Mo_shared_17 : decode b_Mo_shared 17 = .ok (.ifCond .eq 4, 3) := by decide +kernel
theorem d_Mo_shared_20 : decode b_Mo_shared 20 = .ok (.return_, 1) := by decide +kernel
theorem d_Mo_shared_21 : decode b_Mo_shared 21 = .ok (.iconst 0, 1) := by decide +kernel
theorem d_Mo_shared_22 : decode b_Mo_shared 22 = .ok (.istore_n 2, 1) := by decide +kernel
theorem d_Mo_shared_23 : decode b_Mo_shared 23 = .ok (.aload_n 0, 1) := by decide +kernel
theorem d_Mo_shared_24 : decode b_Mo_shared 24 = .ok (.iconst 0, 1) := by decide +kernel
theorem d_Mo_shared_25 : decode b_Mo_shared 25 = .ok (.iaload, 1) := by decide +kernel
theorem d_Mo_shared_26 : decode b_Mo_shared 26 = .ok (.iconst 1, 1) := by decide +kernel
theorem d_Mo_shared_27 : decode b_Mo_shared 27 = .ok (.iand, 1) := by decide +kernel
theorem d_Mo_shared_28 : decode b_Mo_shared 28 = .ok (.ifCond .ne 25, 3) := by decide +kernel
theorem d_Mo_shared_31 : decode b_Mo_shared 31 = .ok (.aload_n 1, 1) := by decide +kernel
theorem d_Mo_shared_32 : decode b_Mo_shared 32 = .ok (.iconst 0, 1) := by decide +kernel
theorem d_Mo_shared_33 : decode b_Mo_shared 33 = .ok (.iaload, 1) := by decide +kernel
theorem d_Mo_shared_34 : decode b_Mo_shared 34 = .ok (.iconst 1, 1) := by decide +kernel
theorem d_Mo_shared_35 : decode b_Mo_shared 35 = .ok (.iand, 1) := by decide +kernel
theorem d_Mo_shared_36 : decode b_Mo_shared 36 = .ok (.ifCond .ne 17, 3) := by decide +kernel
theorem d_Mo_shared_39 : decode b_Mo_shared 39 = .ok (.aload_n 0, 1) := by decide +kernel
theorem d_Mo_shared_40 : decode b_Mo_shared 40 = .ok (.invokestatic 84, 3) := by decide +kernel
theorem d_Mo_shared_43 : decode b_Mo_shared 43 = .ok (.aload_n 1, 1) := by decide +kernel
theorem d_Mo_shared_44 : decode b_Mo_shared 44 = .ok (.invokestatic 84, 3) := by decide +kernel
theorem d_Mo_shared_47 : decode b_Mo_shared 47 = .ok (.iinc 2 1, 3) := by decide +kernel
theorem d_Mo_shared_50 : decode b_Mo_shared 50 = .ok (.goto (-27), 3) := by decide +kernel
theorem d_Mo_shared_53 : decode b_Mo_shared 53 = .ok (.aload_n 1, 1) := by decide +kernel
theorem d_Mo_shared_54 : decode b_Mo_shared 54 = .ok (.invokestatic 77, 3) := by decide +kernel
theorem d_Mo_shared_57 : decode b_Mo_shared 57 = .ok (.ifCond .ne 54, 3) := by decide +kernel
theorem d_Mo_shared_60 : decode b_Mo_shared 60 = .ok (.aload_n 0, 1) := by decide +kernel
theorem d_Mo_shared_61 : decode b_Mo_shared 61 = .ok (.iconst 0, 1) := by decide +kernel
theorem d_Mo_shared_62 : decode b_Mo_shared 62 = .ok (.iaload, 1) := by decide +kernel
theorem d_Mo_shared_63 : decode b_Mo_shared 63 = .ok (.iconst 1, 1) := by decide +kernel
theorem d_Mo_shared_64 : decode b_Mo_shared 64 = .ok (.iand, 1) := by decide +kernel
theorem d_Mo_shared_65 : decode b_Mo_shared 65 = .ok (.ifCond .ne 10, 3) := by decide +kernel
theorem d_Mo_shared_68 : decode b_Mo_shared 68 = .ok (.aload_n 0, 1) := by decide +kernel
theorem d_Mo_shared_69 : decode b_Mo_shared 69 = .ok (.invokestatic 84, 3) := by decide +kernel
theorem d_Mo_shared_72 : decode b_Mo_shared 72 = .ok (.goto (-12), 3) := by decide +kernel
theorem d_Mo_shared_75 : decode b_Mo_shared 75 = .ok (.aload_n 1, 1) := by decide +kernel
theorem d_Mo_shared_76 : decode b_Mo_shared 76 = .ok (.iconst 0, 1) := by decide +kernel
theorem d_Mo_shared_77 : decode b_Mo_shared 77 = .ok (.iaload, 1) := by decide +kernel
theorem d_Mo_shared_78 : decode b_Mo_shared 78 = .ok (.iconst 1, 1) := by decide +kernel
theorem d_Mo_shared_79 : decode b_Mo_shared 79 = .ok (.iand, 1) := by decide +kernel
theorem d_Mo_shared_80 : decode b_Mo_shared 80 = .ok (.ifCond .ne 10, 3) := by decide +kernel
theorem d_Mo_shared_83 : decode b_Mo_shared 83 = .ok (.aload_n 1, 1) := by decide +kernel
theorem d_Mo_shared_84 : decode b_Mo_shared 84 = .ok (.invokestatic 84, 3) := by decide +kernel
theorem d_Mo_shared_87 : decode b_Mo_shared 87 = .ok (.goto (-12), 3) := by decide +kernel
theorem d_Mo_shared_90 : decode b_Mo_shared 90 = .ok (.aload_n 0, 1) := by decide +kernel
theorem d_Mo_shared_91 : decode b_Mo_shared 91 = .ok (.aload_n 1, 1) := by decide +kernel
theorem d_Mo_shared_92 : decode b_Mo_shared 92 = .ok (.invokestatic 69, 3) := by decide +kernel
theorem d_Mo_shared_95 : decode b_Mo_shared 95 = .ok (.ifCond .le 8, 3) := by decide +kernel
theorem d_Mo_shared_98 : decode b_Mo_shared 98 = .ok (.aload_n 0, 1) := by decide +kernel
theorem d_Mo_shared_99 : decode b_Mo_shared 99 = .ok (.aload_n 1, 1) := by decide +kernel
theorem d_Mo_shared_100 : decode b_Mo_shared 100 = .ok (.invokestatic 87, 3) := by decide +kernel
theorem d_Mo_shared_103 : decode b_Mo_shared 103 = .ok (.aload_n 1, 1) := by decide +kernel
theorem d_Mo_shared_104 : decode b_Mo_shared 104 = .ok (.aload_n 0, 1) := by decide +kernel
theorem d_Mo_shared_105 : decode b_Mo_shared 105 = .ok (.invokestatic 73, 3) := by decide +kernel
theorem d_Mo_shared_108 : decode b_Mo_shared 108 = .ok (.goto (-55), 3) := by decide +kernel
theorem d_Mo_shared_111 : decode b_Mo_shared 111 = .ok (.aload_n 0, 1) := by decide +kernel
theorem d_Mo_shared_112 : decode b_Mo_shared 112 = .ok (.iload_n 2, 1) := by decide +kernel
theorem d_Mo_shared_113 : decode b_Mo_shared 113 = .ok (.invokestatic 90, 3) := by decide +kernel
theorem d_Mo_shared_116 : decode b_Mo_shared 116 = .ok (.return_, 1) := by decide +kernel
theorem c_Mo_multiply (l : Launch) {g : Gh} (nx : Nat) {a b o x y z : Nat} (hA : MA g a x) (hB : MA g b y) (hO : MA g o z) (hoa : a ≠ o) (hob : b ≠ o) (hlt : x * y < 65536 ^ 56) : Ct l m_Mo_multiply 0 0 [.ref a, .ref b, .ref o] g nx (p1 g o (x * y) nx) := by
  obtain ⟨d, hd, hv⟩ := hA
  obtain ⟨e, he, hw⟩ := hB
  refine Ct.of (by decide) (Nat.le_of_ble_eq_true rfl) (fun E hE hQ => ?_)
  refine z_aload_n hE d_Mo_multiply_0 rfl ?_
  refine z_callS hE d_Mo_multiply_1 cl_Mo_54 (c_Mo_clear l nx hO) rfl (Nat.le_of_ble_eq_true rfl) ⟨by decide, by decide⟩ ⟨by omega, by omega⟩ (fun r_1 g_1 nx_1 hp_1 => ?_) rfl
  try dsimp only [Option.toList, List.nil_append, List.cons_append]
  obtain ⟨rfl, rfl, ⟨f0, hf0, hv0⟩, hg0⟩ := hp_1
  try dsimp only [Option.toList, List.nil_append, List.cons_append]
  subst hv
  subst hw
  have loop : ∀ (u i : Nat) (g3 : Gh) (f : Nat → Nat), i + u = 56 → I56 g3 o f → g1 g g3 o → w16 f 56 = w16 d i * w16 e 56 → ∀ lv, lG lv 0 = some (.ref a) → lG lv 1 = some (.ref b) → lG lv 2 = some (.ref o) → lG lv 3 = some (.int (nI i)) → zJ E g3 nx 0 0 6 lv [] := by
    intro u
    induction u with
    | zero =>
      intro i g3 f hu hI3 hg3 hf lv l0 l1 l2 l3
      refine z_sub (lv' := [(0, .ref a), (1, .ref b), (2, .ref o), (3, .int (nI i))]) (by simp only [List.map, l0, l1, l2, l3]) ?_
      obtain rfl : i = 56 := by omega
      refine z_iload_n hE d_Mo_multiply_6 rfl ?_
      refine z_bipush (v := nI 56) hE d_Mo_multiply_7 (by decide) ?_
      refine z_icmp_ge (tgt := 88) hE d_Mo_multiply_9 (by decide) (fun _ => ?_) (fun c_ => absurd c_ (fun z => z ((nI_LE (by omega) (by omega)).mpr (by omega))))
      exact z_vret hE hQ d_Mo_multiply_88 rfl (Nat.le_refl _) (Nat.le_refl _) ⟨rfl, rfl, ⟨f, hI3, hf⟩, hg3⟩
    | succ u ih =>
      intro i g3 f hu hI3 hg3 hf lv l0 l1 l2 l3
      refine z_sub (lv' := [(0, .ref a), (1, .ref b), (2, .ref o), (3, .int (nI i))]) (by simp only [List.map, l0, l1, l2, l3]) ?_
      refine z_iload_n hE d_Mo_multiply_6 rfl ?_
      refine z_bipush (v := nI 56) hE d_Mo_multiply_7 (by decide) ?_
      refine z_icmp_ge (tgt := 88) hE d_Mo_multiply_9 (by decide) (fun c_ => absurd c_ (fun z => absurd ((nI_LE (by omega) (by omega)).mp z) (by omega))) (fun _ => ?_)
      have next : ∀ (g' : Gh) (f' : Nat → Nat), I56 g' o f' → g1 g g' o → w16 f' 56 = w16 d (i + 1) * w16 e 56 → ∀ lv, lG lv 0 = some (.ref a) → lG lv 1 = some (.ref b) → lG lv 2 = some (.ref o) → lG lv 3 = some (.int (nI i)) → zJ E g' nx 0 0 82 lv [] := by
        intro g' f' hI hg hb lv l0 l1 l2 l3
        refine z_sub (lv' := [(0, .ref a), (1, .ref b), (2, .ref o), (3, .int (nI i))]) (by simp only [List.map, l0, l1, l2, l3]) ?_
        refine z_iinc (v := nI (i + 1)) hE d_Mo_multiply_82 rfl (nI_1 i) (by decide) ?_
        refine z_goto (tgt := 6) hE d_Mo_multiply_85 (by decide) ?_
        exact ih (i + 1) g' f' (by omega) hI hg hb _ rfl rfl rfl rfl
      refine z_lconst (v := lN 0) hE d_Mo_multiply_12 (by decide) ?_
      refine z_lstore hE d_Mo_multiply_13 (by decide) ?_
      refine z_iconst (v := nI 0) hE d_Mo_multiply_15 (by decide) ?_
      refine z_istore hE d_Mo_multiply_16 (by decide) ?_
      by_cases h0 : d i = 0
      case pos =>
        have hd1 := (I56_o hd hg3 hoa).1
        refine z_iload_n hE d_Mo_multiply_18 rfl ?_
        refine z_iload hE d_Mo_multiply_19 rfl ?_
        refine z_iadd (v := nI (i + 0)) hE d_Mo_multiply_21 (nI_add _ _) ?_
        refine z_bipush (v := nI 56) hE d_Mo_multiply_22 (by decide) ?_
        refine z_icmp_ge (tgt := 82) hE d_Mo_multiply_24 (by decide) (fun c_ => absurd c_ (fun z => absurd ((nI_LE (by omega) (by omega)).mp z) (by omega))) (fun _ => ?_)
        refine z_aload_n hE d_Mo_multiply_27 rfl ?_
        refine z_iload_n hE d_Mo_multiply_28 rfl ?_
        refine z_iald hE d_Mo_multiply_29 (by assumption) (nI_in' (by omega : i < 56) (by omega)) ?_
        rw [nI_cl (by omega), h0]
        refine z_if_eq (tgt := 82) hE d_Mo_multiply_30 (by decide) (fun _ => ?_) (fun c_ => absurd c_ (by decide))
        exact next g3 f hI3 hg3 (by rw [w16_s d i, h0, Nat.zero_mul, Nat.add_zero]; exact hf) _ rfl rfl rfl rfl
      have inner : ∀ (u k : Nat) (c : Nat) (g' : Gh) (f' : Nat → Nat), k + u = 56 - i → I56 g' o f' → g1 g g' o → (∀ j, j < i ∨ i + k ≤ j → f' j = f j) → c < 65536 → w16 f' (i + k) + c * 65536 ^ (i + k) = w16 f (i + k) + d i * w16 e k * 65536 ^ i → ∀ lv, lG lv 0 = some (.ref a) → lG lv 1 = some (.ref b) → lG lv 2 = some (.ref o) → lG lv 3 = some (.int (nI i)) → lG lv 4 = some (.long (lN c)) → lG lv 6 = some (.int (nI k)) → zJ E g' nx 0 0 18 lv [] := by
        intro u
        induction u with
        | zero =>
          intro k c g' f' hu hI hg hj hc hs lv l0 l1 l2 l3 l4 l6
          refine z_sub (lv' := [(0, .ref a), (1, .ref b), (2, .ref o), (3, .int (nI i)), (4, .long (lN c)), (6, .int (nI k))]) (by simp only [List.map, l0, l1, l2, l3, l4, l6]) ?_
          obtain rfl : k = 56 - i := by omega
          have hI1 := hI.1
          have hd1 := (I56_o hd hg hoa).1
          have he1 := (I56_o he hg hob).1
          refine z_iload_n hE d_Mo_multiply_18 rfl ?_
          refine z_iload hE d_Mo_multiply_19 rfl ?_
          refine z_iadd (v := _) hE d_Mo_multiply_21 (nI_add _ _) ?_
          refine z_bipush (v := nI 56) hE d_Mo_multiply_22 (by decide) ?_
          refine z_icmp_ge (tgt := 82) hE d_Mo_multiply_24 (by decide) (fun _ => ?_) (fun c_ => absurd c_ (fun z => z ((nI_LE (by omega) (by omega)).mpr (by omega))))
          rw [show i + (56 - i) = 56 by omega, mul_room he.2 (by omega) h0 hlt] at hs
          refine next g' f' hI hg ?_ _ rfl rfl rfl rfl
          have h1 : w16 d (i + 1) * w16 e 56 ≤ w16 d 56 * w16 e 56 := Nat.mul_le_mul_right _ (w16_le (by omega))
          have h2 : w16 d (i + 1) * w16 e 56 = w16 f 56 + d i * w16 e 56 * 65536 ^ i := by
            rw [w16_s, Nat.add_mul, hf, Nat.mul_right_comm]
          rcases Nat.eq_zero_or_pos c with q | q
          · rw [q, Nat.zero_mul, Nat.add_zero] at hs; rw [hs, h2]
          · have := Nat.mul_le_mul_right (65536 ^ 56) q
            omega
        | succ u ih =>
          intro k c g' f' hu hI hg hj hc hs lv l0 l1 l2 l3 l4 l6
          refine z_sub (lv' := [(0, .ref a), (1, .ref b), (2, .ref o), (3, .int (nI i)), (4, .long (lN c)), (6, .int (nI k))]) (by simp only [List.map, l0, l1, l2, l3, l4, l6]) ?_
          have hI1 := hI.1
          have hd1 := (I56_o hd hg hoa).1
          have he1 := (I56_o he hg hob).1
          refine z_iload_n hE d_Mo_multiply_18 rfl ?_
          refine z_iload hE d_Mo_multiply_19 rfl ?_
          refine z_iadd (v := _) hE d_Mo_multiply_21 (nI_add _ _) ?_
          refine z_bipush (v := nI 56) hE d_Mo_multiply_22 (by decide) ?_
          refine z_icmp_ge (tgt := 82) hE d_Mo_multiply_24 (by decide) (fun c_ => absurd c_ (fun z => absurd ((nI_LE (by omega) (by omega)).mp z) (by omega))) (fun _ => ?_)
          have hik : i + k < 56 := by omega
          have b1 := hd.2 i
          have b2 := he.2 k
          have b3 := hI.2 (i + k)
          have b4 := mul16 b1 b2 b3 hc
          have efk : f' (i + k) = f (i + k) := hj _ (Or.inr (Nat.le_refl _))
          refine z_aload_n hE d_Mo_multiply_27 rfl ?_
          refine z_iload_n hE d_Mo_multiply_28 rfl ?_
          refine z_iald hE d_Mo_multiply_29 (by assumption) (nI_in' (by omega : i < 56) (by omega)) ?_
          rw [nI_cl (by omega)]
          refine z_if_eq (tgt := 82) hE d_Mo_multiply_30 (by decide) (fun c_ => absurd c_ (fun z => h0 ((nI_EQ (b := 0) (by omega) (by omega)).mp z))) (fun _ => ?_)
          refine z_aload_n hE d_Mo_multiply_33 rfl ?_
          refine z_iload_n hE d_Mo_multiply_34 rfl ?_
          refine z_iald hE d_Mo_multiply_35 (by assumption) (nI_in' (by omega : i < 56) (by omega)) ?_
          rw [nI_cl (by omega)]
          refine z_i2l (v := lN (d i)) hE d_Mo_multiply_36 (nI_l (by omega)) ?_
          refine z_aload_n hE d_Mo_multiply_37 rfl ?_
          refine z_iload hE d_Mo_multiply_38 rfl ?_
          refine z_iald hE d_Mo_multiply_40 (by assumption) (nI_in' (by omega : k < 56) (by omega)) ?_
          rw [nI_cl (by omega)]
          refine z_i2l (v := lN (e k)) hE d_Mo_multiply_41 (nI_l (by omega)) ?_
          refine z_lmul (v := lN (d i * e k)) hE d_Mo_multiply_42 (lN_mul _ _) ?_
          refine z_aload_n hE d_Mo_multiply_43 rfl ?_
          refine z_iload_n hE d_Mo_multiply_44 rfl ?_
          refine z_iload hE d_Mo_multiply_45 rfl ?_
          refine z_iadd (v := nI (i + k)) hE d_Mo_multiply_47 (nI_add _ _) ?_
          refine z_iald hE d_Mo_multiply_48 (by assumption) (nI_in' hik (by omega)) ?_
          rw [nI_cl (by omega)]
          refine z_i2l (v := lN (f' (i + k))) hE d_Mo_multiply_49 (nI_l (by omega)) ?_
          refine z_ladd (v := lN (d i * e k + f' (i + k))) hE d_Mo_multiply_50 (lN_add _ _) ?_
          refine z_lload hE d_Mo_multiply_51 rfl ?_
          refine z_ladd (v := lN (d i * e k + f' (i + k) + c)) hE d_Mo_multiply_53 (lN_add _ _) ?_
          refine z_lstore hE d_Mo_multiply_54 (by decide) ?_
          refine z_aload_n hE d_Mo_multiply_56 rfl ?_
          refine z_iload_n hE d_Mo_multiply_57 rfl ?_
          refine z_iload hE d_Mo_multiply_58 rfl ?_
          refine z_iadd (v := nI (i + k)) hE d_Mo_multiply_60 (nI_add _ _) ?_
          refine z_lload hE d_Mo_multiply_61 rfl ?_
          refine z_ldc2 hE d_Mo_multiply_63 cn_Mo_58 ?_
          refine z_land (v := lN ((d i * e k + f' (i + k) + c) % 65536)) hE d_Mo_multiply_66 (l_mask16 (by omega)) ?_
          refine z_l2i (v := nI ((d i * e k + f' (i + k) + c) % 65536)) hE d_Mo_multiply_67 (lN_i _) ?_
          refine z_iast hE d_Mo_multiply_68 (by assumption) (nI_in' hik (by omega)) ?_
          rw [nI_cl (by omega)]
          refine z_lload hE d_Mo_multiply_69 rfl ?_
          refine z_bipush (v := nI 16) hE d_Mo_multiply_71 (by decide) ?_
          refine z_lshr (v := lN ((d i * e k + f' (i + k) + c) / 65536)) hE d_Mo_multiply_73 (l_shr16 (by omega)) ?_
          refine z_lstore hE d_Mo_multiply_74 (by decide) ?_
          refine z_iinc (v := nI (k + 1)) hE d_Mo_multiply_76 rfl (nI_1 k) (by decide) ?_
          refine z_goto (tgt := 18) hE d_Mo_multiply_79 (by decide) ?_
          refine ih (k + 1) _ _ _ (by omega) (I56_S hI (Nat.mod_lt _ (by decide))) (g1_t hg g1_S) (fun j h1 => ?_) (by omega) ?_ _ rfl rfl rfl rfl rfl rfl
          · rw [upN_n (by omega)]; exact hj j (by omega)
          · have hst := st_prod (P := 65536 ^ (i + k)) (show (d i * e k + f' (i + k) + c) % 65536 + 65536 * ((d i * e k + f' (i + k) + c) / 65536) = d i * e k + f' (i + k) + c by omega)
            have hm : d i * w16 e (k + 1) * 65536 ^ i = d i * w16 e k * 65536 ^ i + d i * e k * 65536 ^ (i + k) := by
              rw [w16_s, Nat.mul_add, Nat.add_mul, Nat.pow_add]
              congr 1
              simp only [Nat.mul_assoc, Nat.mul_comm, Nat.mul_left_comm]
            rw [show i + (k + 1) = i + k + 1 by omega, w16_up, w16_s, Hs, hm, ← efk]
            omega
      exact inner (56 - i) 0 0 g3 f (by omega) hI3 hg3 (fun j _ => rfl) (by omega) (by simp [w16]) _ rfl rfl rfl rfl rfl rfl
  refine z_iconst (v := nI 0) hE d_Mo_multiply_4 (by decide) ?_
  refine z_istore_n hE d_Mo_multiply_5 rfl (by decide) ?_
  exact loop 56 0 g_1 f0 (by omega) hf0 hg0 (by rw [hv0]; simp [w16]) _ rfl rfl rfl rfl
theorem st_dbl {x c' a c P : Nat} (h : x + 65536 * c' = 2 * a + c) : x * P + c' * (65536 * P) = 2 * (a * P) + c * P := by
  have := st_add (P := P) (x := x) (c' := c') (a := a) (b := a) (c := c) (by omega)
  omega
theorem c_Mo_doubled (l : Launch) {g : Gh} (nx : Nat) {a x bit : Nat} (hA : MA g a x) (hb : bit ≤ 1) (hlt : 2 * x + bit < 65536 ^ 56) : Ct l m_Mo_doubled 0 0 [.ref a, .int (nI bit)] g nx (p1 g a (2 * x + bit) nx) := by
  obtain ⟨d, hd, hv⟩ := hA
  refine Ct.of (by decide) (Nat.le_of_ble_eq_true rfl) (fun E hE hQ => ?_)
  have loop : ∀ (u k : Nat) (c : Nat) (g' : Gh) (d' : Nat → Nat), k + u = 56 → I56 g' a d' → g1 g g' a → (∀ j, k ≤ j → d' j = d j) → c ≤ 1 → w16 d' k + c * 65536 ^ k = 2 * w16 d k + bit → ∀ lv, lG lv 0 = some (.ref a) → lG lv 2 = some (.int (nI c)) → lG lv 3 = some (.int (nI k)) → zJ E g' nx 0 0 4 lv [] := by
    intro u
    induction u with
    | zero =>
      intro k c g' d' hu hI hg hj hc hs lv l0 l2 l3
      refine z_sub (lv' := [(0, .ref a), (2, .int (nI c)), (3, .int (nI k))]) (by simp only [List.map, l0, l2, l3]) ?_
      obtain rfl : k = 56 := by omega
      have hI1 := hI.1
      refine z_iload_n hE d_Mo_doubled_4 rfl ?_
      refine z_bipush (v := nI 56) hE d_Mo_doubled_5 (by decide) ?_
      refine z_icmp_ge (tgt := 39) hE d_Mo_doubled_7 (by decide) (fun _ => ?_) (fun c_ => absurd c_ (fun z => z ((nI_LE (by omega) (by omega)).mpr (by omega))))
      refine z_vret hE hQ d_Mo_doubled_39 rfl (Nat.le_refl _) (Nat.le_refl _) ⟨rfl, rfl, ⟨d', hI, ?_⟩, hg⟩
      rw [hv] at hs
      rcases (by omega : c = 0 ∨ c = 1) with z | z
      · rw [z, Nat.zero_mul, Nat.add_zero] at hs; exact hs
      · rw [z, Nat.one_mul] at hs; omega
    | succ u ih =>
      intro k c g' d' hu hI hg hj hc hs lv l0 l2 l3
      refine z_sub (lv' := [(0, .ref a), (2, .int (nI c)), (3, .int (nI k))]) (by simp only [List.map, l0, l2, l3]) ?_
      have hI1 := hI.1
      refine z_iload_n hE d_Mo_doubled_4 rfl ?_
      refine z_bipush (v := nI 56) hE d_Mo_doubled_5 (by decide) ?_
      refine z_icmp_ge (tgt := 39) hE d_Mo_doubled_7 (by decide) (fun c_ => absurd c_ (fun z => absurd ((nI_LE (by omega) (by omega)).mp z) (by omega))) (fun _ => ?_)
      have hdk := hd.2 k
      refine z_iconst (v := nI 2) hE d_Mo_doubled_10 (by decide) ?_
      refine z_aload_n hE d_Mo_doubled_11 rfl ?_
      refine z_iload_n hE d_Mo_doubled_12 rfl ?_
      refine z_iald hE d_Mo_doubled_13 (by assumption) (nI_in' (by omega : k < 56) (by omega)) ?_
      rw [nI_cl (by omega), hj k (Nat.le_refl k)]
      refine z_imul (v := nI (2 * d k)) hE d_Mo_doubled_14 (pk_mul 2 _) ?_
      refine z_iload_n hE d_Mo_doubled_15 rfl ?_
      refine z_iadd (v := nI (2 * d k + c)) hE d_Mo_doubled_16 (nI_add _ _) ?_
      refine z_istore hE d_Mo_doubled_17 (by decide) ?_
      refine z_aload_n hE d_Mo_doubled_19 rfl ?_
      refine z_iload_n hE d_Mo_doubled_20 rfl ?_
      refine z_iload hE d_Mo_doubled_21 rfl ?_
      refine z_ldc hE d_Mo_doubled_23 cn_Mo_60 ?_
      refine z_iand (v := nI ((2 * d k + c) % 65536)) hE d_Mo_doubled_25 (nx_mod _) ?_
      refine z_iast hE d_Mo_doubled_26 (by assumption) (nI_in' (by omega : k < 56) (by omega)) ?_
      rw [nI_cl (by omega)]
      refine z_iload hE d_Mo_doubled_27 rfl ?_
      refine z_bipush (v := nI 16) hE d_Mo_doubled_29 (by decide) ?_
      refine z_ishr (v := nI ((2 * d k + c) / 65536)) hE d_Mo_doubled_31 (i_shr (k := 16) (by omega) (by omega)) ?_
      refine z_istore_n hE d_Mo_doubled_32 rfl (by decide) ?_
      refine z_iinc (v := nI (k + 1)) hE d_Mo_doubled_33 rfl (nI_1 k) (by decide) ?_
      refine z_goto (tgt := 4) hE d_Mo_doubled_36 (by decide) ?_
      refine ih (k + 1) _ _ _ (by omega) (I56_S hI (Nat.mod_lt _ (by decide))) (g1_t hg g1_S) (fun j h1 => ?_) (by omega) ?_ _ rfl rfl rfl
      · rw [upN_n (by omega)]; exact hj j (by omega)
      · have hst := st_dbl (P := 65536 ^ k) (show (2 * d k + c) % 65536 + 65536 * ((2 * d k + c) / 65536) = 2 * d k + c by omega)
        rw [w16_up, w16_s, Hs]
        omega
  refine z_iload_n hE d_Mo_doubled_0 rfl ?_
  refine z_istore_n hE d_Mo_doubled_1 rfl (by decide) ?_
  refine z_iconst (v := nI 0) hE d_Mo_doubled_2 (by decide) ?_
  refine z_istore_n hE d_Mo_doubled_3 rfl (by decide) ?_
  exact loop 56 0 bit g d (by omega) hd g1_r (fun j _ => rfl) hb (by simp [w16]) _ rfl rfl rfl
theorem st_half {a h P : Nat} : 2 * ((a / 2 + h * 32768) * P) + a % 2 * P = a * P + h * (65536 * P) := by
  have e : 2 * (a / 2 + h * 32768) + a % 2 = a + 65536 * h := by omega
  generalize a / 2 + h * 32768 = X at e ⊢
  have := congrArg (· * P) e
  rw [Nat.add_mul, Nat.add_mul, Nat.mul_assoc, Nat.mul_assoc] at this
  rw [Nat.mul_left_comm h]
  exact this
theorem i_orh {a h : Nat} (ha : a < 65536) (hh : h ≤ 1) : nI (a / 2) ||| nI (h * 32768) = nI (a / 2 + h * 32768) := by
  rw [i_or]
  congr 1
  have := Nat.shiftLeft_add_eq_or_of_lt (i := 15) (b := a / 2) (by omega) h
  rw [Nat.shiftLeft_eq, show (2 : Nat) ^ 15 = 32768 from rfl] at this
  rw [Nat.or_comm]
  omega
theorem c_Mo_halved (l : Launch) {g : Gh} (nx : Nat) {a x : Nat} (hA : MA g a x) : Ct l m_Mo_halved 0 0 [.ref a] g nx (p1 g a (x / 2) nx) := by
  obtain ⟨d, hd, hv⟩ := hA
  obtain ⟨hb, hhb⟩ : ∃ hb : Nat → Nat, hb = fun k => if k < 56 then d k % 2 else 0 := ⟨_, rfl⟩
  have hbi : ∀ k, k < 56 → hb k = d k % 2 := fun k hk => by rw [hhb]; exact if_pos hk
  have hbo : hb 56 = 0 := by rw [hhb]; rfl
  refine Ct.of (by decide) (Nat.le_of_ble_eq_true rfl) (fun E hE hQ => ?_)
  have loop : ∀ (u k : Nat) (g' : Gh) (d' : Nat → Nat), k + u = 56 → I56 g' a d' → g1 g g' a → (∀ j, k ≤ j → d' j = d j) → 2 * w16 d' k + d 0 % 2 = w16 d k + hb k * 65536 ^ k → ∀ lv, lG lv 0 = some (.ref a) → lG lv 1 = some (.int (nI k)) → zJ E g' nx 0 0 2 lv [] := by
    intro u
    induction u with
    | zero =>
      intro k g' d' hu hI hg hj hs lv l0 l1
      refine z_sub (lv' := [(0, .ref a), (1, .int (nI k))]) (by simp only [List.map, l0, l1]) ?_
      obtain rfl : k = 56 := by omega
      have hI1 := hI.1
      refine z_iload_n hE d_Mo_halved_2 rfl ?_
      refine z_bipush (v := nI 56) hE d_Mo_halved_3 (by decide) ?_
      refine z_icmp_ge (tgt := 47) hE d_Mo_halved_5 (by decide) (fun _ => ?_) (fun c_ => absurd c_ (fun z => z ((nI_LE (by omega) (by omega)).mpr (by omega))))
      refine z_vret hE hQ d_Mo_halved_47 rfl (Nat.le_refl _) (Nat.le_refl _) ⟨rfl, rfl, ⟨d', hI, ?_⟩, hg⟩
      rw [hbo, Nat.zero_mul, Nat.add_zero, hv] at hs
      omega
    | succ u ih =>
      intro k g' d' hu hI hg hj hs lv l0 l1
      refine z_sub (lv' := [(0, .ref a), (1, .int (nI k))]) (by simp only [List.map, l0, l1]) ?_
      have hI1 := hI.1
      refine z_iload_n hE d_Mo_halved_2 rfl ?_
      refine z_bipush (v := nI 56) hE d_Mo_halved_3 (by decide) ?_
      refine z_icmp_ge (tgt := 47) hE d_Mo_halved_5 (by decide) (fun c_ => absurd c_ (fun z => absurd ((nI_LE (by omega) (by omega)).mp z) (by omega))) (fun _ => ?_)
      have hdk := hd.2 k
      have go : ∀ lv, lG lv 0 = some (.ref a) → lG lv 1 = some (.int (nI k)) → zJ E g' nx 0 0 27 lv [.int (nI (hb (k + 1)))] := by
        intro lv l0 l1
        refine z_sub (lv' := [(0, .ref a), (1, .int (nI k))]) (by simp only [List.map, l0, l1]) ?_
        have hb1 : hb (k + 1) ≤ 1 := by rw [hhb]; dsimp only; split <;> omega
        refine z_istore_n hE d_Mo_halved_27 rfl (by decide) ?_
        refine z_aload_n hE d_Mo_halved_28 rfl ?_
        refine z_iload_n hE d_Mo_halved_29 rfl ?_
        refine z_aload_n hE d_Mo_halved_30 rfl ?_
        refine z_iload_n hE d_Mo_halved_31 rfl ?_
        refine z_iald hE d_Mo_halved_32 (by assumption) (nI_in' (by omega : k < 56) (by omega)) ?_
        rw [nI_cl (by omega), hj k (Nat.le_refl k)]
        refine z_iconst (v := nI 1) hE d_Mo_halved_33 (by decide) ?_
        refine z_ishr (v := nI (d k / 2)) hE d_Mo_halved_34 (i_shr (k := 1) (by omega) (by omega)) ?_
        refine z_iload_n hE d_Mo_halved_35 rfl ?_
        refine z_bipush (v := nI 15) hE d_Mo_halved_36 (by decide) ?_
        refine z_ishl (v := nI (hb (k + 1) * 32768)) hE d_Mo_halved_38 (i_shl (k := 15) (by omega) (by omega)) ?_
        refine z_ior (v := nI (d k / 2 + hb (k + 1) * 32768)) hE d_Mo_halved_39 (i_orh hdk hb1) ?_
        refine z_iast hE d_Mo_halved_40 (by assumption) (nI_in' (by omega : k < 56) (by omega)) ?_
        rw [nI_cl (by omega)]
        refine z_iinc (v := nI (k + 1)) hE d_Mo_halved_41 rfl (nI_1 k) (by decide) ?_
        refine z_goto (tgt := 2) hE d_Mo_halved_44 (by decide) ?_
        refine ih (k + 1) _ _ (by omega) (I56_S hI (by omega)) (g1_t hg g1_S) (fun j h1 => ?_) ?_ _ rfl rfl
        · rw [upN_n (by omega)]; exact hj j (by omega)
        · have hst := st_half (a := d k) (h := hb (k + 1)) (P := 65536 ^ k)
          rw [w16_up, w16_s, Hs]
          rw [hbi k (by omega)] at hs
          omega
      refine z_iload_n hE d_Mo_halved_8 rfl ?_
      refine z_iconst (v := nI 1) hE d_Mo_halved_9 (by decide) ?_
      refine z_iadd (v := nI (k + 1)) hE d_Mo_halved_10 (nI_add _ _) ?_
      refine z_bipush (v := nI 56) hE d_Mo_halved_11 (by decide) ?_
      by_cases hk : k + 1 < 56
      · refine z_icmp_ge (tgt := 26) hE d_Mo_halved_13 (by decide) (fun c_ => absurd c_ (fun z => absurd ((nI_LE (by omega) (by omega)).mp z) (by omega))) (fun _ => ?_)
        refine z_aload_n hE d_Mo_halved_16 rfl ?_
        refine z_iload_n hE d_Mo_halved_17 rfl ?_
        refine z_iconst (v := nI 1) hE d_Mo_halved_18 (by decide) ?_
        refine z_iadd (v := nI (k + 1)) hE d_Mo_halved_19 (nI_add _ _) ?_
        refine z_iald hE d_Mo_halved_20 (by assumption) (nI_in' hk (by omega)) ?_
        rw [nI_cl (by omega), hj (k + 1) (by omega)]
        refine z_iconst (v := 1) hE d_Mo_halved_21 (by decide) ?_
        refine z_iand (v := nI (d (k + 1) % 2)) hE d_Mo_halved_22 (i_and1 _) ?_
        refine z_goto (tgt := 27) hE d_Mo_halved_23 (by decide) ?_
        rw [← hbi (k + 1) hk]
        exact go _ rfl rfl
      · refine z_icmp_ge (tgt := 26) hE d_Mo_halved_13 (by decide) (fun _ => ?_) (fun c_ => absurd c_ (fun z => z ((nI_LE (by omega) (by omega)).mpr (by omega))))
        refine z_iconst (v := nI 0) hE d_Mo_halved_26 (by decide) ?_
        have e : k + 1 = 56 := by omega
        have hg := go (lv := [(0, .ref a), (1, .int (nI k))]) rfl rfl
        rw [e, hbo] at hg
        exact hg
  refine z_iconst (v := nI 0) hE d_Mo_halved_0 (by decide) ?_
  refine z_istore_n hE d_Mo_halved_1 rfl (by decide) ?_
  exact loop 56 0 g d (by omega) hd g1_r (fun j _ => rfl) (by rw [hbi 0 (by omega)]; simp [w16]) _ rfl rfl
theorem c_Mo_shifted (l : Launch) {g : Gh} (nx : Nat) {a x n : Nat} (hA : MA g a x) (hn : n ≤ 100000) (hlt : x * 2 ^ n < 65536 ^ 56) : Ct l m_Mo_shifted 0 0 [.ref a, .int (nI n)] g nx (p1 g a (x * 2 ^ n) nx) := by
  refine Ct.of (by decide) (Nat.le_of_ble_eq_true rfl) (fun E hE hQ => ?_)
  have loop : ∀ (u k : Nat) (g' : Gh), k + u = n → MA g' a (x * 2 ^ k) → g1 g g' a → ∀ lv, lG lv 0 = some (.ref a) → lG lv 1 = some (.int (nI n)) → lG lv 2 = some (.int (nI k)) → zJ E g' nx 0 0 2 lv [] := by
    intro u
    induction u with
    | zero =>
      intro k g' hu hI hg lv l0 l1 l2
      refine z_sub (lv' := [(0, .ref a), (1, .int (nI n)), (2, .int (nI k))]) (by simp only [List.map, l0, l1, l2]) ?_
      obtain rfl : n = k := by omega
      refine z_iload_n hE d_Mo_shifted_2 rfl ?_
      refine z_iload_n hE d_Mo_shifted_3 rfl ?_
      refine z_icmp_ge (tgt := 18) hE d_Mo_shifted_4 (by decide) (fun _ => ?_) (fun c_ => absurd c_ (fun z => z ((nI_LE (by omega) (by omega)).mpr (by omega))))
      exact z_vret hE hQ d_Mo_shifted_18 rfl (Nat.le_refl _) (Nat.le_refl _) ⟨rfl, rfl, hI, hg⟩
    | succ u ih =>
      intro k g' hu hI hg lv l0 l1 l2
      refine z_sub (lv' := [(0, .ref a), (1, .int (nI n)), (2, .int (nI k))]) (by simp only [List.map, l0, l1, l2]) ?_
      refine z_iload_n hE d_Mo_shifted_2 rfl ?_
      refine z_iload_n hE d_Mo_shifted_3 rfl ?_
      refine z_icmp_ge (tgt := 18) hE d_Mo_shifted_4 (by decide) (fun c_ => absurd c_ (fun z => absurd ((nI_LE (by omega) (by omega)).mp z) (by omega))) (fun _ => ?_)
      have hle : x * 2 ^ (k + 1) < 65536 ^ 56 := Nat.lt_of_le_of_lt (Nat.mul_le_mul_left x (Nat.pow_le_pow_right (by decide) (by omega))) hlt
      have e : 2 * (x * 2 ^ k) + 0 = x * 2 ^ (k + 1) := by rw [Nat.pow_succ, Nat.add_zero, Nat.mul_left_comm, Nat.mul_comm 2]
      refine z_aload_n hE d_Mo_shifted_7 rfl ?_
      refine z_iconst (v := nI 0) hE d_Mo_shifted_8 (by decide) ?_
      refine z_callS hE d_Mo_shifted_9 cl_Mo_61 (c_Mo_doubled l nx hI (bit := 0) (by omega) (by rw [e]; exact hle)) rfl (Nat.le_of_ble_eq_true rfl) ⟨by decide, by decide⟩ ⟨by omega, by omega⟩ (fun r_1 g_1 nx_1 hp_1 => ?_) rfl
      try dsimp only [Option.toList, List.nil_append, List.cons_append]
      obtain ⟨rfl, rfl, hM, hg'⟩ := hp_1
      try dsimp only [Option.toList, List.nil_append, List.cons_append]
      refine z_iinc (v := nI (k + 1)) hE d_Mo_shifted_12 rfl (nI_1 k) (by decide) ?_
      refine z_goto (tgt := 2) hE d_Mo_shifted_15 (by decide) ?_
      exact ih (k + 1) _ (by omega) (by rw [← e]; exact hM) (g1_t hg hg') _ rfl rfl rfl
  refine z_iconst (v := nI 0) hE d_Mo_shifted_0 (by decide) ?_
  refine z_istore_n hE d_Mo_shifted_1 rfl (by decide) ?_
  exact loop n 0 g (by omega) (by rw [Nat.pow_zero, Nat.mul_one]; exact hA) g1_r _ rfl rfl rfl
theorem c_Mo_exchange (l : Launch) {g : Gh} (nx : Nat) {a b x y : Nat} (hA : MA g a x) (hB : MA g b y) (hne : a ≠ b) : Ct l m_Mo_exchange 0 0 [.ref a, .ref b] g nx (fun r g' nx' => r = none ∧ nx = nx' ∧ MA g' a y ∧ MA g' b x ∧ g2 g g' a b) := by
  obtain ⟨d, hd, hv⟩ := hA
  obtain ⟨e, he, hw⟩ := hB
  refine Ct.of (by decide) (Nat.le_of_ble_eq_true rfl) (fun E hE hQ => ?_)
  have loop : ∀ (u k : Nat) (g' : Gh) (d' e' : Nat → Nat), k + u = 56 → I56 g' a d' → I56 g' b e' → g2 g g' a b → (∀ j, j < k → d' j = e j ∧ e' j = d j) → (∀ j, k ≤ j → d' j = d j ∧ e' j = e j) → ∀ lv, lG lv 0 = some (.ref a) → lG lv 1 = some (.ref b) → lG lv 2 = some (.int (nI k)) → zJ E g' nx 0 0 2 lv [] := by
    intro u
    induction u with
    | zero =>
      intro k g' d' e' hu hI hJ hg h1 h2 lv l0 l1 l2
      refine z_sub (lv' := [(0, .ref a), (1, .ref b), (2, .int (nI k))]) (by simp only [List.map, l0, l1, l2]) ?_
      obtain rfl : k = 56 := by omega
      have hI1 := hI.1
      have hJ1 := hJ.1
      refine z_iload_n hE d_Mo_exchange_2 rfl ?_
      refine z_bipush (v := nI 56) hE d_Mo_exchange_3 (by decide) ?_
      refine z_icmp_ge (tgt := 28) hE d_Mo_exchange_5 (by decide) (fun _ => ?_) (fun c_ => absurd c_ (fun z => z ((nI_LE (by omega) (by omega)).mpr (by omega))))
      exact z_vret hE hQ d_Mo_exchange_28 rfl (Nat.le_refl _) (Nat.le_refl _) ⟨rfl, rfl, ⟨d', hI, (w16_ext 56 (fun j hj => (h1 j hj).1)).trans hw⟩, ⟨e', hJ, (w16_ext 56 (fun j hj => (h1 j hj).2)).trans hv⟩, hg⟩
    | succ u ih =>
      intro k g' d' e' hu hI hJ hg h1 h2 lv l0 l1 l2
      refine z_sub (lv' := [(0, .ref a), (1, .ref b), (2, .int (nI k))]) (by simp only [List.map, l0, l1, l2]) ?_
      have hI1 := hI.1
      have hJ1 := hJ.1
      refine z_iload_n hE d_Mo_exchange_2 rfl ?_
      refine z_bipush (v := nI 56) hE d_Mo_exchange_3 (by decide) ?_
      refine z_icmp_ge (tgt := 28) hE d_Mo_exchange_5 (by decide) (fun c_ => absurd c_ (fun z => absurd ((nI_LE (by omega) (by omega)).mp z) (by omega))) (fun _ => ?_)
      refine z_aload_n hE d_Mo_exchange_8 rfl ?_
      refine z_iload_n hE d_Mo_exchange_9 rfl ?_
      refine z_iald hE d_Mo_exchange_10 (by assumption) (nI_in' (by omega : k < 56) (by omega)) ?_
      rw [nI_cl (by omega)]
      refine z_istore_n hE d_Mo_exchange_11 rfl (by decide) ?_
      refine z_aload_n hE d_Mo_exchange_12 rfl ?_
      refine z_iload_n hE d_Mo_exchange_13 rfl ?_
      refine z_aload_n hE d_Mo_exchange_14 rfl ?_
      refine z_iload_n hE d_Mo_exchange_15 rfl ?_
      refine z_iald hE d_Mo_exchange_16 (by assumption) (nI_in' (by omega : k < 56) (by omega)) ?_
      rw [nI_cl (by omega)]
      refine z_iast hE d_Mo_exchange_17 (by assumption) (nI_in' (by omega : k < 56) (by omega)) ?_
      rw [nI_cl (by omega)]
      have hI2 := I56_S (k := k) hI (hJ.2 k)
      have hJ2 := I56_o hJ (g1_S (g := g') (a := a) (e := .inl (1, 56, .inl (upd (fun j => nI (d' j)) k (nI (e' k)))))) (Ne.symm hne)
      have hJ21 := hJ2.1
      refine z_aload_n hE d_Mo_exchange_18 rfl ?_
      refine z_iload_n hE d_Mo_exchange_19 rfl ?_
      refine z_iload_n hE d_Mo_exchange_20 rfl ?_
      refine z_iast hE d_Mo_exchange_21 (by assumption) (nI_in' (by omega : k < 56) (by omega)) ?_
      rw [nI_cl (by omega)]
      refine z_iinc (v := nI (k + 1)) hE d_Mo_exchange_22 rfl (nI_1 k) (by decide) ?_
      refine z_goto (tgt := 2) hE d_Mo_exchange_25 (by decide) ?_
      refine ih (k + 1) _ _ _ (by omega) (I56_o hI2 g1_S hne) (I56_S hJ2 (hI.2 k)) (fun q z1 z2 => ?_) (fun j hj => ?_) (fun j hj => ?_) _ rfl rfl rfl
      · rw [gS_n z2, gS_n z1]; exact hg q z1 z2
      · unfold upN
        by_cases hjk : j = k
        · rw [if_pos hjk, if_pos hjk, hjk]; exact ⟨(h2 k (Nat.le_refl k)).2, (h2 k (Nat.le_refl k)).1⟩
        · rw [if_neg hjk, if_neg hjk]; exact h1 j (by omega)
      · rw [upN_n (by omega), upN_n (by omega)]; exact h2 j (by omega)
  refine z_iconst (v := nI 0) hE d_Mo_exchange_0 (by decide) ?_
  refine z_istore_n hE d_Mo_exchange_1 rfl (by decide) ?_
  exact loop 56 0 g d e (by omega) hd he (fun _ _ _ => rfl) (fun j hj => by omega) (fun j _ => ⟨rfl, rfl⟩) _ rfl rfl rfl
theorem gcd_half {x y : Nat} (hx : x % 2 = 0) (hy : y % 2 = 1) : Nat.gcd (x / 2) y = Nat.gcd x y := by
  have hc : Nat.Coprime 2 y := by
    show Nat.gcd 2 y = 1
    rw [Nat.gcd_rec, hy]; rfl
  have e : x = 2 * (x / 2) := by omega
  rw [e, Nat.mul_div_cancel_left _ (by decide : 0 < 2)]
  exact (Nat.Coprime.gcd_mul_left_cancel _ hc).symm
theorem gcd_2 {x y : Nat} (hx : x % 2 = 0) (hy : y % 2 = 0) : Nat.gcd x y = 2 * Nat.gcd (x / 2) (y / 2) := by
  have e : x = 2 * (x / 2) := by omega
  have f : y = 2 * (y / 2) := by omega
  rw [← Nat.gcd_mul_left, ← e, ← f]
theorem g2_1 {g g' g'' : Gh} {a b : Nat} (h : g2 g g' a b) (h' : g1 g' g'' a) : g2 g g'' a b := fun q z1 z2 => (h' q z1).trans (h q z1 z2)
theorem g2_2 {g g' g'' : Gh} {a b : Nat} (h : g2 g g' a b) (h' : g1 g' g'' b) : g2 g g'' a b := fun q z1 z2 => (h' q z2).trans (h q z1 z2)
theorem g2_t {g g' g'' : Gh} {a b : Nat} (h : g2 g g' a b) (h' : g2 g' g'' a b) : g2 g g'' a b := fun q z1 z2 => (h' q z1 z2).trans (h q z1 z2)
theorem MA_0 {g : Gh} {a v : Nat} (h : MA g a v) : ∃ d, I56 g a d ∧ d 0 % 2 = v % 2 := by
  obtain ⟨d, hd, e⟩ := h
  exact ⟨d, hd, by rw [← e, w16_odd d 55]⟩
theorem lt_2of {t x : Nat} (hx : 0 < x) (h : 2 ^ t * x < 65536 ^ 56) : t < 896 := by
  have h1 : 2 ^ t < 2 ^ 896 := by
    have := Nat.mul_le_mul_left (2 ^ t) hx
    rw [show 2 ^ 896 = 65536 ^ 56 by rw [H2]]
    omega
  exact (Nat.pow_lt_pow_iff_right (by decide : 1 < 2)).mp h1
theorem c_Mo_shared (l : Launch) {g : Gh} (nx : Nat) {a b x y : Nat} (hA : MA g a x) (hB : MA g b y) (hne : a ≠ b) : Ct l m_Mo_shared 0 0 [.ref a, .ref b] g nx (fun r g' nx' => r = none ∧ nx = nx' ∧ MA g' a (Nat.gcd x y) ∧ (∃ z, MA g' b z) ∧ g2 g g' a b) := by
  have hne' := Ne.symm hne
  have hxl := MA_lt hA
  have hyl := MA_lt hB
  refine Ct.of (by decide) (Nat.le_of_ble_eq_true rfl) (fun E hE hQ => ?_)
  refine z_aload_n hE d_Mo_shared_0 rfl ?_
  refine z_callS hE d_Mo_shared_1 cl_Mo_77 (c_Mo_isZero l nx hA) rfl (Nat.le_of_ble_eq_true rfl) ⟨by decide, by decide⟩ ⟨by omega, by omega⟩ (fun r_1 g_1 nx_1 hp_1 => ?_) rfl
  obtain ⟨rfl, rfl, rfl⟩ := hp_1
  try dsimp only [Option.toList, List.nil_append, List.cons_append]
  by_cases hx0 : x = 0
  case pos =>
    rw [if_pos hx0]
    refine z_if_eq (tgt := 13) hE d_Mo_shared_4 (by decide) (fun c_ => absurd c_ (by decide)) (fun _ => ?_)
    refine z_aload_n hE d_Mo_shared_7 rfl ?_
    refine z_aload_n hE d_Mo_shared_8 rfl ?_
    refine z_callS hE d_Mo_shared_9 cl_Mo_81 (c_Mo_lay l nx hB hA hne') rfl (Nat.le_of_ble_eq_true rfl) ⟨by decide, by decide⟩ ⟨by omega, by omega⟩ (fun r_1 g_1 nx_1 hp_1 => ?_) rfl
    try dsimp only [Option.toList, List.nil_append, List.cons_append]
    obtain ⟨rfl, rfl, hM, hg⟩ := hp_1
    try dsimp only [Option.toList, List.nil_append, List.cons_append]
    exact z_vret hE hQ d_Mo_shared_12 rfl (Nat.le_refl _) (Nat.le_refl _) ⟨rfl, rfl, by rw [hx0, Nat.gcd_zero_left]; exact hM, ⟨y, MA_o hB hg hne'⟩, fun q z1 _ => hg q z1⟩
  rw [if_neg hx0]
  refine z_if_eq (tgt := 13) hE d_Mo_shared_4 (by decide) (fun _ => ?_) (fun c_ => absurd c_ (by decide))
  refine z_aload_n hE d_Mo_shared_13 rfl ?_
  refine z_callS hE d_Mo_shared_14 cl_Mo_77 (c_Mo_isZero l nx hB) rfl (Nat.le_of_ble_eq_true rfl) ⟨by decide, by decide⟩ ⟨by omega, by omega⟩ (fun r_14 g_14 nx_14 hp_14 => ?_) rfl
  obtain ⟨rfl, rfl, rfl⟩ := hp_14
  try dsimp only [Option.toList, List.nil_append, List.cons_append]
  by_cases hy0 : y = 0
  case pos =>
    rw [if_pos hy0]
    refine z_if_eq (tgt := 21) hE d_Mo_shared_17 (by decide) (fun c_ => absurd c_ (by decide)) (fun _ => ?_)
    exact z_vret hE hQ d_Mo_shared_20 rfl (Nat.le_refl _) (Nat.le_refl _) ⟨rfl, rfl, by rw [hy0, Nat.gcd_zero_right]; exact hA, ⟨y, hB⟩, fun q _ _ => rfl⟩
  rw [if_neg hy0]
  refine z_if_eq (tgt := 21) hE d_Mo_shared_17 (by decide) (fun _ => ?_) (fun c_ => absurd c_ (by decide))
  have hGp : 0 < Nat.gcd x y := Nat.gcd_pos_of_pos_left y (by omega)
  have hGl : Nat.gcd x y < 65536 ^ 56 := Nat.lt_of_le_of_lt (Nat.gcd_le_left y (by omega)) hxl
  -- the second loop
  have loop2 : ∀ (u t x1 y1 : Nat) (g' : Gh), x1 + y1 ≤ u → MA g' a x1 → MA g' b y1 → g2 g g' a b → x1 ≠ 0 → (x1 % 2 = 1 ∨ y1 % 2 = 1) → Nat.gcd x y = 2 ^ t * Nat.gcd x1 y1 → ∀ lv, lG lv 0 = some (.ref a) → lG lv 1 = some (.ref b) → lG lv 2 = some (.int (nI t)) → zJ E g' nx 0 0 53 lv [] := by
    intro u
    induction u with
    | zero =>
      intro t x1 y1 g' hu _ _ _ h1
      omega
    | succ u ih =>
      intro t x1 y1 g' hu hM hN hg h1 ho hG lv l0 l1 l2
      refine z_sub (lv' := [(0, .ref a), (1, .ref b), (2, .int (nI t))]) (by simp only [List.map, l0, l1, l2]) ?_
      refine z_aload_n hE d_Mo_shared_53 rfl ?_
      refine z_callS hE d_Mo_shared_54 cl_Mo_77 (c_Mo_isZero l nx hN) rfl (Nat.le_of_ble_eq_true rfl) ⟨by decide, by decide⟩ ⟨by omega, by omega⟩ (fun r_54 g_54 nx_54 hp_54 => ?_) rfl
      obtain ⟨rfl, rfl, rfl⟩ := hp_54
      try dsimp only [Option.toList, List.nil_append, List.cons_append]
      by_cases hy1 : y1 = 0
      case pos =>
        rw [if_pos hy1]
        refine z_if_ne (tgt := 111) hE d_Mo_shared_57 (by decide) (fun _ => ?_) (fun c_ => absurd c_ (by decide))
        rw [hy1, Nat.gcd_zero_right, Nat.mul_comm] at hG
        have ht := lt_2of (t := t) (x := x1) (by omega) (by rw [Nat.mul_comm, ← hG]; exact hGl)
        refine z_aload_n hE d_Mo_shared_111 rfl ?_
        refine z_iload_n hE d_Mo_shared_112 rfl ?_
        refine z_callS hE d_Mo_shared_113 cl_Mo_90 (c_Mo_shifted l nx hM (n := t) (by omega) (by rw [← hG]; exact hGl)) rfl (Nat.le_of_ble_eq_true rfl) ⟨by decide, by decide⟩ ⟨by omega, by omega⟩ (fun r_1 g_1 nx_1 hp_1 => ?_) rfl
        try dsimp only [Option.toList, List.nil_append, List.cons_append]
        obtain ⟨rfl, rfl, hM', hg'⟩ := hp_1
        try dsimp only [Option.toList, List.nil_append, List.cons_append]
        exact z_vret hE hQ d_Mo_shared_116 rfl (Nat.le_refl _) (Nat.le_refl _) ⟨rfl, rfl, by rw [hG]; exact hM', ⟨y1, MA_o hN hg' hne'⟩, g2_1 hg hg'⟩
      rw [if_neg hy1]
      refine z_if_ne (tgt := 111) hE d_Mo_shared_57 (by decide) (fun c_ => absurd c_ (by decide)) (fun _ => ?_)
      -- behind both halvings
      have last : ∀ (x2 y2 : Nat) (g3 : Gh), x2 ≤ x1 → y2 ≤ y1 → x2 ≠ 0 → y2 ≠ 0 → MA g3 a x2 → MA g3 b y2 → g2 g g3 a b → x2 % 2 = 1 → y2 % 2 = 1 → Nat.gcd x y = 2 ^ t * Nat.gcd x2 y2 → ∀ lv, lG lv 0 = some (.ref a) → lG lv 1 = some (.ref b) → lG lv 2 = some (.int (nI t)) → zJ E g3 nx 0 0 90 lv [] := by
        intro x2 y2 g3 hx2 hy2 hx20 hy20 hM3 hN3 hg3 ho2 hp2 hG3 lv l0 l1 l2
        refine z_sub (lv' := [(0, .ref a), (1, .ref b), (2, .int (nI t))]) (by simp only [List.map, l0, l1, l2]) ?_
        refine z_aload_n hE d_Mo_shared_90 rfl ?_
        refine z_aload_n hE d_Mo_shared_91 rfl ?_
        refine z_callS hE d_Mo_shared_92 cl_Mo_69 (c_Mo_compared l nx hM3 hN3) rfl (Nat.le_of_ble_eq_true rfl) ⟨by decide, by decide⟩ ⟨by omega, by omega⟩ (fun r_92 g_92 nx_92 hp_92 => ?_) rfl
        obtain ⟨rfl, rfl, rfl⟩ := hp_92
        try dsimp only [Option.toList, List.nil_append, List.cons_append]
        by_cases hgt : y2 < x2
        · have hcm : cmpN x2 y2 = 1 := by unfold cmpN; rw [if_neg (by omega), if_neg (by omega)]
          rw [hcm]
          refine z_if_le (tgt := 103) hE d_Mo_shared_95 (by decide) (fun c_ => absurd c_ (by decide)) (fun _ => ?_)
          refine z_aload_n hE d_Mo_shared_98 rfl ?_
          refine z_aload_n hE d_Mo_shared_99 rfl ?_
          refine z_callS hE d_Mo_shared_100 cl_Mo_87 (c_Mo_exchange l nx hM3 hN3 hne) rfl (Nat.le_of_ble_eq_true rfl) ⟨by decide, by decide⟩ ⟨by omega, by omega⟩ (fun r_2 g_2 nx_2 hp_2 => ?_) rfl
          try dsimp only [Option.toList, List.nil_append, List.cons_append]
          obtain ⟨rfl, rfl, hM4, hN4, hg4⟩ := hp_2
          try dsimp only [Option.toList, List.nil_append, List.cons_append]
          refine z_aload_n hE d_Mo_shared_103 rfl ?_
          refine z_aload_n hE d_Mo_shared_104 rfl ?_
          refine z_callS hE d_Mo_shared_105 cl_Mo_73 (c_Mo_takeFrom l nx hN4 hM4 hne (by omega)) rfl (Nat.le_of_ble_eq_true rfl) ⟨by decide, by decide⟩ ⟨by omega, by omega⟩ (fun r_3 g_3 nx_3 hp_3 => ?_) rfl
          try dsimp only [Option.toList, List.nil_append, List.cons_append]
          obtain ⟨rfl, rfl, hN5, hg5⟩ := hp_3
          try dsimp only [Option.toList, List.nil_append, List.cons_append]
          refine z_goto (tgt := 53) hE d_Mo_shared_108 (by decide) ?_
          refine ih t y2 (x2 - y2) _ (by omega) (MA_o hM4 hg5 hne) hN5 (g2_2 (g2_t hg3 hg4) hg5) hy20 (Or.inl hp2) ?_ _ rfl rfl rfl
          rw [hG3, Nat.gcd_comm x2 y2, Nat.gcd_sub_self_right (by omega)]
        · have hcm : cmpN x2 y2 ≤ 0 := by unfold cmpN; split; decide; split; decide; omega
          refine z_if_le (tgt := 103) hE d_Mo_shared_95 (by decide) (fun _ => ?_) (fun c_ => absurd c_ (fun z => z hcm))
          refine z_aload_n hE d_Mo_shared_103 rfl ?_
          refine z_aload_n hE d_Mo_shared_104 rfl ?_
          refine z_callS hE d_Mo_shared_105 cl_Mo_73 (c_Mo_takeFrom l nx hN3 hM3 hne (by omega)) rfl (Nat.le_of_ble_eq_true rfl) ⟨by decide, by decide⟩ ⟨by omega, by omega⟩ (fun r_3 g_3 nx_3 hp_3 => ?_) rfl
          try dsimp only [Option.toList, List.nil_append, List.cons_append]
          obtain ⟨rfl, rfl, hN5, hg5⟩ := hp_3
          try dsimp only [Option.toList, List.nil_append, List.cons_append]
          refine z_goto (tgt := 53) hE d_Mo_shared_108 (by decide) ?_
          refine ih t x2 (y2 - x2) _ (by omega) (MA_o hM3 hg5 hne) hN5 (g2_2 hg3 hg5) hx20 (Or.inl ho2) ?_ _ rfl rfl rfl
          rw [hG3, Nat.gcd_sub_self_right (by omega)]
      have halfB : ∀ (w x2 y2 : Nat) (g3 : Gh), y2 ≤ w → x2 ≤ x1 → y2 ≤ y1 → x2 ≠ 0 → y2 ≠ 0 → MA g3 a x2 → MA g3 b y2 → g2 g g3 a b → x2 % 2 = 1 → Nat.gcd x y = 2 ^ t * Nat.gcd x2 y2 → ∀ lv, lG lv 0 = some (.ref a) → lG lv 1 = some (.ref b) → lG lv 2 = some (.int (nI t)) → zJ E g3 nx 0 0 75 lv [] := by
        intro w
        induction w with
        | zero =>
          intro x2 y2 g3 hw _ _ _ h
          omega
        | succ w ihw =>
          intro x2 y2 g3 hw hx2 hy2 hx20 hy20 hM3 hN3 hg3 ho2 hG3 lv l0 l1 l2
          refine z_sub (lv' := [(0, .ref a), (1, .ref b), (2, .int (nI t))]) (by simp only [List.map, l0, l1, l2]) ?_
          obtain ⟨e, he, he0⟩ := MA_0 hN3
          have he1 := he.1
          refine z_aload_n hE d_Mo_shared_75 rfl ?_
          refine z_iconst (v := nI 0) hE d_Mo_shared_76 (by decide) ?_
          refine z_iald hE d_Mo_shared_77 (by assumption) (nI_in' (by omega : 0 < 56) (by omega)) ?_
          rw [nI_cl (by omega)]
          refine z_iconst (v := 1) hE d_Mo_shared_78 (by decide) ?_
          refine z_iand (v := nI (e 0 % 2)) hE d_Mo_shared_79 (i_and1 _) ?_
          by_cases hp : y2 % 2 = 1
          · rw [he0, hp]
            refine z_if_ne (tgt := 90) hE d_Mo_shared_80 (by decide) (fun _ => ?_) (fun c_ => absurd c_ (by decide))
            exact last x2 y2 g3 hx2 hy2 hx20 hy20 hM3 hN3 hg3 ho2 hp hG3 _ rfl rfl rfl
          · have hp0 : y2 % 2 = 0 := by omega
            rw [he0, hp0]
            refine z_if_ne (tgt := 90) hE d_Mo_shared_80 (by decide) (fun c_ => absurd c_ (fun z => z rfl)) (fun _ => ?_)
            refine z_aload_n hE d_Mo_shared_83 rfl ?_
            refine z_callS hE d_Mo_shared_84 cl_Mo_84 (c_Mo_halved l nx hN3) rfl (Nat.le_of_ble_eq_true rfl) ⟨by decide, by decide⟩ ⟨by omega, by omega⟩ (fun r_4 g_4 nx_4 hp_4 => ?_) rfl
            try dsimp only [Option.toList, List.nil_append, List.cons_append]
            obtain ⟨rfl, rfl, hN4, hg4⟩ := hp_4
            try dsimp only [Option.toList, List.nil_append, List.cons_append]
            refine z_goto (tgt := 75) hE d_Mo_shared_87 (by decide) ?_
            refine ihw x2 (y2 / 2) _ (by omega) hx2 (by omega) hx20 (by omega) (MA_o hM3 hg4 hne) hN4 (g2_2 hg3 hg4) ho2 ?_ _ rfl rfl rfl
            rw [hG3, Nat.gcd_comm x2 (y2 / 2), gcd_half hp0 ho2, Nat.gcd_comm x2 y2]
      have halfA : ∀ (w x2 : Nat) (g3 : Gh), x2 ≤ w → x2 ≤ x1 → x2 ≠ 0 → MA g3 a x2 → MA g3 b y1 → g2 g g3 a b → (x2 % 2 = 1 ∨ y1 % 2 = 1) → Nat.gcd x y = 2 ^ t * Nat.gcd x2 y1 → ∀ lv, lG lv 0 = some (.ref a) → lG lv 1 = some (.ref b) → lG lv 2 = some (.int (nI t)) → zJ E g3 nx 0 0 60 lv [] := by
        intro w
        induction w with
        | zero =>
          intro x2 g3 hw _ h
          omega
        | succ w ihw =>
          intro x2 g3 hw hx2 hx20 hM3 hN3 hg3 ho2 hG3 lv l0 l1 l2
          refine z_sub (lv' := [(0, .ref a), (1, .ref b), (2, .int (nI t))]) (by simp only [List.map, l0, l1, l2]) ?_
          obtain ⟨e, he, he0⟩ := MA_0 hM3
          have he1 := he.1
          refine z_aload_n hE d_Mo_shared_60 rfl ?_
          refine z_iconst (v := nI 0) hE d_Mo_shared_61 (by decide) ?_
          refine z_iald hE d_Mo_shared_62 (by assumption) (nI_in' (by omega : 0 < 56) (by omega)) ?_
          rw [nI_cl (by omega)]
          refine z_iconst (v := 1) hE d_Mo_shared_63 (by decide) ?_
          refine z_iand (v := nI (e 0 % 2)) hE d_Mo_shared_64 (i_and1 _) ?_
          by_cases hp : x2 % 2 = 1
          · rw [he0, hp]
            refine z_if_ne (tgt := 75) hE d_Mo_shared_65 (by decide) (fun _ => ?_) (fun c_ => absurd c_ (by decide))
            exact halfB y1 x2 y1 g3 (Nat.le_refl _) hx2 (Nat.le_refl _) hx20 hy1 hM3 hN3 hg3 hp hG3 _ rfl rfl rfl
          · have hp0 : x2 % 2 = 0 := by omega
            rw [he0, hp0]
            refine z_if_ne (tgt := 75) hE d_Mo_shared_65 (by decide) (fun c_ => absurd c_ (fun z => z rfl)) (fun _ => ?_)
            refine z_aload_n hE d_Mo_shared_68 rfl ?_
            refine z_callS hE d_Mo_shared_69 cl_Mo_84 (c_Mo_halved l nx hM3) rfl (Nat.le_of_ble_eq_true rfl) ⟨by decide, by decide⟩ ⟨by omega, by omega⟩ (fun r_4 g_4 nx_4 hp_4 => ?_) rfl
            try dsimp only [Option.toList, List.nil_append, List.cons_append]
            obtain ⟨rfl, rfl, hM4, hg4⟩ := hp_4
            try dsimp only [Option.toList, List.nil_append, List.cons_append]
            refine z_goto (tgt := 60) hE d_Mo_shared_72 (by decide) ?_
            have hyo : y1 % 2 = 1 := by omega
            refine ihw (x2 / 2) _ (by omega) (by omega) (by omega) hM4 (MA_o hN3 hg4 hne') (g2_1 hg3 hg4) (Or.inr hyo) ?_ _ rfl rfl rfl
            rw [hG3, gcd_half hp0 hyo]
      exact halfA x1 x1 g' (Nat.le_refl _) (Nat.le_refl _) h1 hM hN hg ho hG _ rfl rfl rfl
  -- the first loop
  have loop1 : ∀ (u t x1 y1 : Nat) (g' : Gh), x1 ≤ u → MA g' a x1 → MA g' b y1 → g2 g g' a b → x1 ≠ 0 → y1 ≠ 0 → Nat.gcd x y = 2 ^ t * Nat.gcd x1 y1 → ∀ lv, lG lv 0 = some (.ref a) → lG lv 1 = some (.ref b) → lG lv 2 = some (.int (nI t)) → zJ E g' nx 0 0 23 lv [] := by
    intro u
    induction u with
    | zero =>
      intro t x1 y1 g' hu _ _ _ h1
      omega
    | succ u ih =>
      intro t x1 y1 g' hu hM hN hg h1 h2 hG lv l0 l1 l2
      refine z_sub (lv' := [(0, .ref a), (1, .ref b), (2, .int (nI t))]) (by simp only [List.map, l0, l1, l2]) ?_
      obtain ⟨d, hd, hd0⟩ := MA_0 hM
      obtain ⟨e, he, he0⟩ := MA_0 hN
      have hd1 := hd.1
      have he1 := he.1
      refine z_aload_n hE d_Mo_shared_23 rfl ?_
      refine z_iconst (v := nI 0) hE d_Mo_shared_24 (by decide) ?_
      refine z_iald hE d_Mo_shared_25 (by assumption) (nI_in' (by omega : 0 < 56) (by omega)) ?_
      rw [nI_cl (by omega)]
      refine z_iconst (v := 1) hE d_Mo_shared_26 (by decide) ?_
      refine z_iand (v := nI (d 0 % 2)) hE d_Mo_shared_27 (i_and1 _) ?_
      by_cases hp : x1 % 2 = 1
      · rw [hd0, hp]
        refine z_if_ne (tgt := 53) hE d_Mo_shared_28 (by decide) (fun _ => ?_) (fun c_ => absurd c_ (by decide))
        exact loop2 _ t x1 y1 g' (Nat.le_refl _) hM hN hg h1 (Or.inl hp) hG _ rfl rfl rfl
      · have hp0 : x1 % 2 = 0 := by omega
        rw [hd0, hp0]
        refine z_if_ne (tgt := 53) hE d_Mo_shared_28 (by decide) (fun c_ => absurd c_ (fun z => z rfl)) (fun _ => ?_)
        refine z_aload_n hE d_Mo_shared_31 rfl ?_
        refine z_iconst (v := nI 0) hE d_Mo_shared_32 (by decide) ?_
        refine z_iald hE d_Mo_shared_33 (by assumption) (nI_in' (by omega : 0 < 56) (by omega)) ?_
        rw [nI_cl (by omega)]
        refine z_iconst (v := 1) hE d_Mo_shared_34 (by decide) ?_
        refine z_iand (v := nI (e 0 % 2)) hE d_Mo_shared_35 (i_and1 _) ?_
        by_cases hq : y1 % 2 = 1
        · rw [he0, hq]
          refine z_if_ne (tgt := 53) hE d_Mo_shared_36 (by decide) (fun _ => ?_) (fun c_ => absurd c_ (by decide))
          exact loop2 _ t x1 y1 g' (Nat.le_refl _) hM hN hg h1 (Or.inr hq) hG _ rfl rfl rfl
        · have hq0 : y1 % 2 = 0 := by omega
          rw [he0, hq0]
          refine z_if_ne (tgt := 53) hE d_Mo_shared_36 (by decide) (fun c_ => absurd c_ (fun z => z rfl)) (fun _ => ?_)
          refine z_aload_n hE d_Mo_shared_39 rfl ?_
          refine z_callS hE d_Mo_shared_40 cl_Mo_84 (c_Mo_halved l nx hM) rfl (Nat.le_of_ble_eq_true rfl) ⟨by decide, by decide⟩ ⟨by omega, by omega⟩ (fun r_4 g_4 nx_4 hp_4 => ?_) rfl
          try dsimp only [Option.toList, List.nil_append, List.cons_append]
          obtain ⟨rfl, rfl, hM4, hg4⟩ := hp_4
          try dsimp only [Option.toList, List.nil_append, List.cons_append]
          refine z_aload_n hE d_Mo_shared_43 rfl ?_
          refine z_callS hE d_Mo_shared_44 cl_Mo_84 (c_Mo_halved l nx (MA_o hN hg4 hne')) rfl (Nat.le_of_ble_eq_true rfl) ⟨by decide, by decide⟩ ⟨by omega, by omega⟩ (fun r_5 g_5 nx_5 hp_5 => ?_) rfl
          try dsimp only [Option.toList, List.nil_append, List.cons_append]
          obtain ⟨rfl, rfl, hN5, hg5⟩ := hp_5
          try dsimp only [Option.toList, List.nil_append, List.cons_append]
          refine z_iinc (v := nI (t + 1)) hE d_Mo_shared_47 rfl (nI_1 t) (by decide) ?_
          refine z_goto (tgt := 23) hE d_Mo_shared_50 (by decide) ?_
          refine ih (t + 1) (x1 / 2) (y1 / 2) _ (by omega) (MA_o hM4 hg5 hne) hN5 (g2_2 (g2_1 hg hg4) hg5) (by omega) (by omega) ?_ _ rfl rfl rfl
          rw [hG, gcd_2 hp0 hq0, Nat.pow_succ, Nat.mul_assoc]
  refine z_iconst (v := nI 0) hE d_Mo_shared_21 (by decide) ?_
  refine z_istore_n hE d_Mo_shared_22 rfl (by decide) ?_
  exact loop1 x 0 x y g (Nat.le_refl _) hA hB (fun _ _ _ => rfl) hx0 hy0 (by rw [Nat.pow_zero, Nat.one_mul]) _ rfl rfl rfl

