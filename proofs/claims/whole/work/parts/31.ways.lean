/-! Reckoner: in how many ways; made -/
def ch : Nat → Nat → Nat
  | _, 0 => 1
  | 0, _ + 1 => 0
  | n + 1, k + 1 => ch n k + ch n (k + 1)
theorem ch_n0 (n : Nat) : ch n 0 = 1 := by cases n <;> rfl
theorem ch_ss (n k : Nat) : ch (n + 1) (k + 1) = ch n k + ch n (k + 1) := rfl
theorem ch_gt : ∀ (n k : Nat), n < k → ch n k = 0
  | 0, 0, h => by omega
  | 0, k + 1, _ => rfl
  | n + 1, 0, h => by omega
  | n + 1, k + 1, h => by rw [ch_ss, ch_gt n k (by omega), ch_gt n (k + 1) (by omega)]
theorem ch_nn : ∀ n, ch n n = 1
  | 0 => rfl
  | n + 1 => by rw [ch_ss, ch_nn n, ch_gt n (n + 1) (by omega)]
theorem ch_le : ∀ (n k : Nat), ch n k ≤ 2 ^ n
  | 0, 0 => by decide
  | 0, k + 1 => Nat.zero_le _
  | n + 1, 0 => by rw [ch_n0]; exact Nat.one_le_two_pow
  | n + 1, k + 1 => by
    rw [ch_ss, Nat.pow_succ]
    have h1 := ch_le n k
    have h2 := ch_le n (k + 1)
    omega
/-- (k + 1) ways(n + 1, k + 1) = (n + 1) ways(n, k) -/
theorem ch_mul : ∀ (n k : Nat), (k + 1) * ch (n + 1) (k + 1) = (n + 1) * ch n k
  | 0, 0 => rfl
  | 0, k + 1 => by rw [ch_ss, ch_gt 0 (k + 1) (by omega), ch_gt 0 (k + 1 + 1) (by omega)]; omega
  | n + 1, 0 => by
    rw [ch_ss, ch_n0]
    have h := ch_mul n 0
    rw [ch_n0] at h
    omega
  | n + 1, k + 1 => by
    have h1 := ch_mul n k
    have h2 := ch_mul n (k + 1)
    rw [ch_ss (n + 1) (k + 1)]
    have h3 : (n + 1 + 1) * ch (n + 1) (k + 1) = (n + 1) * ch (n + 1) (k + 1) + ch (n + 1) (k + 1) := by rw [Nat.add_mul (n + 1), Nat.one_mul]
    have h4 : (n + 1) * ch (n + 1) (k + 1) = (n + 1) * ch n k + (n + 1) * ch n (k + 1) := by rw [ch_ss, Nat.mul_add]
    have h5 : (k + 1 + 1) * (ch (n + 1) (k + 1) + ch (n + 1) (k + 1 + 1)) = (k + 1) * ch (n + 1) (k + 1) + ch (n + 1) (k + 1) + (k + 1 + 1) * ch (n + 1) (k + 1 + 1) := by
      rw [Nat.mul_add, Nat.add_mul (k + 1), Nat.one_mul]
    rw [h5, h3, h4, h1, h2]
    omega
theorem ch_sym : ∀ (n k : Nat), k ≤ n → ch n (n - k) = ch n k
  | 0, 0, _ => rfl
  | 0, k + 1, h => by omega
  | n + 1, 0, _ => by rw [Nat.sub_zero, ch_nn, ch_n0]
  | n + 1, k + 1, h => by
    rcases Nat.eq_or_lt_of_le h with z | z
    · rw [z, Nat.sub_self, ch_n0, ch_nn]
    · obtain ⟨m, hm⟩ : ∃ m, n - k = m + 1 := ⟨n - k - 1, by omega⟩
      rw [show n + 1 - (k + 1) = m + 1 by omega, ch_ss, ch_ss]
      have h1 := ch_sym n k (by omega)
      have h2 := ch_sym n (k + 1) (by omega)
      rw [hm] at h1
      rw [show n - (k + 1) = m by omega] at h2
      rw [h1, h2, Nat.add_comm]
/-- a step of the reckoning, exactly -/
theorem ch_step (m i : Nat) : ch (m + i) i * (m + (i + 1)) / (i + 1) = ch (m + (i + 1)) (i + 1) := by
  have h := ch_mul (m + i) i
  rw [show m + (i + 1) = m + i + 1 by omega, Nat.mul_comm (ch (m + i) i), ← h, Nat.mul_div_cancel_left _ (by omega)]
theorem d_Re_countWays_0 : decode b_Re_countWays 0 = .ok (.aload_n 0, 1) := by decide +kernel
theorem d_Re_countWays_1 : decode b_Re_countWays 1 = .ok (.getfield 14, 3) := by decide +kernel
theorem d_Re_countWays_4 : decode b_Re_countWays 4 = .ok (.iload_n 2, 1) := by decide +kernel
theorem d_Re_countWays_5 : decode b_Re_countWays 5 = .ok (.ifCond .lt 8, 3) := by decide +kernel
theorem d_Re_countWays_8 : decode b_Re_countWays 8 = .ok (.iload_n 2, 1) := by decide +kernel
theorem d_Re_countWays_9 : decode b_Re_countWays 9 = .ok (.iload_n 1, 1) := by decide +kernel
theorem d_Re_countWays_10 : decode b_Re_countWays 10 = .ok (.if_icmp .le 7, 3) := by decide +kernel
theorem d_Re_countWays_13 : decode b_Re_countWays 13 = .ok (.lconst 0, 1) := by decide +kernel
theorem d_Re_countWays_14 : decode b_Re_countWays 14 = .ok (.goto 4, 3) := by decide +kernel
theorem d_Re_countWays_17 : decode b_Re_countWays 17 = .ok (.lconst 1, 1) := by decide +kernel
theorem d_Re_countWays_18 : decode b_Re_countWays 18 = .ok (.invokevirtual 105, 3) := by decide +kernel
theorem d_Re_countWays_21 : decode b_Re_countWays 21 = .ok (.aload_n 0, 1) := by decide +kernel
theorem d_Re_countWays_22 : decode b_Re_countWays 22 = .ok (.getfield 14, 3) := by decide +kernel
theorem d_Re_countWays_25 : decode b_Re_countWays 25 = .ok (.getfield 55, 3) := by decide +kernel
theorem d_Re_countWays_28 : decode b_Re_countWays 28 = .ok (.ifCond .ne 4, 3) := by decide +kernel
theorem d_Re_countWays_31 : decode b_Re_countWays 31 = .ok (.return_, 1) := by decide +kernel
theorem d_Re_countWays_32 : decode b_Re_countWays 32 = .ok (.iload_n 2, 1) := by decide +kernel
theorem d_Re_countWays_33 : decode b_Re_countWays 33 = .ok (.iload_n 1, 1) := by decide +kernel
theorem d_Re_countWays_34 : decode b_Re_countWays 34 = .ok (.iload_n 2, 1) := by decide +kernel
theorem d_Re_countWays_35 : decode b_Re_countWays 35 = .ok (.isub, 1) := by decide +kernel
theorem d_Re_countWays_36 : decode b_Re_countWays 36 = .ok (.invokestatic 108, 3) := by decide +kernel
theorem d_Re_countWays_39 : decode b_Re_countWays 39 = .ok (.istore_n 3, 1) := by decide +kernel
theorem d_Re_countWays_40 : decode b_Re_countWays 40 = .ok (.iconst 1, 1) := by decide +kernel
theorem d_Re_countWays_41 : decode b_Re_countWays 41 = .ok (.istore 4, 2) := by decide +kernel
theorem d_Re_countWays_43 : decode b_Re_countWays 43 = .ok (.iload 4, 2) := by decide +kernel
theorem d_Re_countWays_45 : decode b_Re_countWays 45 = .ok (.iload_n 3, 1) := by decide +kernel
theorem d_Re_countWays_46 : decode b_Re_countWays 46 = .ok (.if_icmp .gt 37, 3) := by decide +kernel
theorem d_Re_countWays_49 : decode b_Re_countWays 49 = .ok (.aload_n 0, 1) := by decide +kernel
theorem d_Re_countWays_50 : decode b_Re_countWays 50 = .ok (.getfield 14, 3) := by decide +kernel
theorem d_Re_countWays_53 : decode b_Re_countWays 53 = .ok (.getfield 67, 3) := by decide +kernel
theorem d_Re_countWays_56 : decode b_Re_countWays 56 = .ok (.iload_n 1, 1) := by decide +kernel
theorem d_Re_countWays_57 : decode b_Re_countWays 57 = .ok (.iload_n 3, 1) := by decide +kernel
theorem d_Re_countWays_58 : decode b_Re_countWays 58 = .ok (.isub, 1) := by decide +kernel
theorem d_Re_countWays_59 : decode b_Re_countWays 59 = .ok (.iload 4, 2) := by decide +kernel
theorem d_Re_countWays_61 : decode b_Re_countWays 61 = .ok (.iadd, 1) := by decide +kernel
theorem d_Re_countWays_62 : decode b_Re_countWays 62 = .ok (.invokevirtual 113, 3) := by decide +kernel
theorem d_Re_countWays_65 : decode b_Re_countWays 65 = .ok (.aload_n 0, 1) := by decide +kernel
theorem d_Re_countWays_66 : decode b_Re_countWays 66 = .ok (.getfield 14, 3) := by decide +kernel
theorem d_Re_countWays_69 : decode b_Re_countWays 69 = .ok (.getfield 67, 3) := by decide +kernel
theorem d_Re_countWays_72 : decode b_Re_countWays 72 = .ok (.iload 4, 2) := by decide +kernel
theorem d_Re_countWays_74 : decode b_Re_countWays 74 = .ok (.invokevirtual 116, 3) := by decide +kernel
theorem d_Re_countWays_77 : decode b_Re_countWays 77 = .ok (.iinc 4 1, 3) := by decide +kernel
theorem d_Re_countWays_80 : decode b_Re_countWays 80 = .ok (.goto (-37), 3) := by decide +kernel
theorem d_Re_countWays_83 : decode b_Re_countWays 83 = .ok (.return_, 1) := by decide +kernel
theorem d_Re_init_0 : decode b_Re_init 0 = .ok (.aload_n 0, 1) := by decide +kernel
theorem d_Re_init_1 : decode b_Re_init 1 = .ok (.invokespecial 1, 3) := by decide +kernel
theorem d_Re_init_4 : decode b_Re_init 4 = .ok (.aload_n 0, 1) := by decide +kernel
theorem d_Re_init_5 : decode b_Re_init 5 = .ok (.new 7, 3) := by decide +kernel
theorem d_Re_init_8 : decode b_Re_init 8 = .ok (.dup, 1) := by decide +kernel
theorem d_Re_init_9 : decode b_Re_init 9 = .ok (.bipush 20, 2) := by decide +kernel
theorem d_Re_init_11 : decode b_Re_init 11 = .ok (.bipush 20, 2) := by decide +kernel
theorem d_Re_init_13 : decode b_Re_init 13 = .ok (.invokespecial 11, 3) := by decide +kernel
theorem d_Re_init_16 : decode b_Re_init 16 = .ok (.putfield 14, 3) := by decide +kernel
theorem d_Re_init_19 : decode b_Re_init 19 = .ok (.aload_n 0, 1) := by decide +kernel
theorem d_Re_init_20 : decode b_Re_init 20 = .ok (.new 20, 3) := by decide +kernel
theorem d_Re_init_23 : decode b_Re_init 23 = .ok (.dup, 1) := by decide +kernel
theorem d_Re_init_24 : decode b_Re_init 24 = .ok (.invokespecial 22, 3) := by decide +kernel
theorem d_Re_init_27 : decode b_Re_init 27 = .ok (.putfield 23, 3) := by decide +kernel
theorem d_Re_init_30 : decode b_Re_init 30 = .ok (.aload_n 0, 1) := by decide +kernel
theorem d_Re_init_31 : decode b_Re_init 31 = .ok (.new 9, 3) := by decide +kernel
theorem d_Re_init_34 : decode b_Re_init 34 = .ok (.dup, 1) := by decide +kernel
theorem d_Re_init_35 : decode b_Re_init 35 = .ok (.bipush 20, 2) := by decide +kernel
theorem d_Re_init_37 : decode b_Re_init 37 = .ok (.invokespecial 27, 3) := by decide +kernel
theorem d_Re_init_40 : decode b_Re_init 40 = .ok (.putfield 30, 3) := by decide +kernel
theorem d_Re_init_43 : decode b_Re_init 43 = .ok (.aload_n 0, 1) := by decide +kernel
theorem d_Re_init_44 : decode b_Re_init 44 = .ok (.new 9, 3) := by decide +kernel
theorem d_Re_init_47 : decode b_Re_init 47 = .ok (.dup, 1) := by decide +kernel
theorem d_Re_init_48 : decode b_Re_init 48 = .ok (.bipush 20, 2) := by decide +kernel
theorem d_Re_init_50 : decode b_Re_init 50 = .ok (.invokespecial 27, 3) := by decide +kernel
theorem d_Re_init_53 : decode b_Re_init 53 = .ok (.putfield 34, 3) := by decide +kernel
theorem d_Re_init_56 : decode b_Re_init 56 = .ok (.aload_n 0, 1) := by decide +kernel
theorem d_Re_init_57 : decode b_Re_init 57 = .ok (.new 9, 3) := by decide +kernel
theorem d_Re_init_60 : decode b_Re_init 60 = .ok (.dup, 1) := by decide +kernel
theorem d_Re_init_61 : decode b_Re_init 61 = .ok (.bipush 20, 2) := by decide +kernel
theorem d_Re_init_63 : decode b_Re_init 63 = .ok (.invokespecial 27, 3) := by decide +kernel
theorem d_Re_init_66 : decode b_Re_init 66 = .ok (.putfield 37, 3) := by decide +kernel
theorem d_Re_init_69 : decode b_Re_init 69 = .ok (.aload_n 0, 1) := by decide +kernel
theorem d_Re_init_70 : decode b_Re_init 70 = .ok (.new 9, 3) := by decide +kernel
theorem d_Re_init_73 : decode b_Re_init 73 = .ok (.dup, 1) := by decide +kernel
theorem d_Re_init_74 : decode b_Re_init 74 = .ok (.bipush 20, 2) := by decide +kernel
theorem d_Re_init_76 : decode b_Re_init 76 = .ok (.invokespecial 27, 3) := by decide +kernel
theorem d_Re_init_79 : decode b_Re_init 79 = .ok (.putfield 40, 3) := by decide +kernel
theorem d_Re_init_82 : decode b_Re_init 82 = .ok (.aload_n 0, 1) := by decide +kernel
theorem d_Re_init_83 : decode b_Re_init 83 = .ok (.new 9, 3) := by decide +kernel
theorem d_Re_init_86 : decode b_Re_init 86 = .ok (.dup, 1) := by decide +kernel
theorem d_Re_init_87 : decode b_Re_init 87 = .ok (.bipush 20, 2) := by decide +kernel
theorem d_Re_init_89 : decode b_Re_init 89 = .ok (.invokespecial 27, 3) := by decide +kernel
theorem d_Re_init_92 : decode b_Re_init 92 = .ok (.putfield 43, 3) := by decide +kernel
theorem d_Re_init_95 : decode b_Re_init 95 = .ok (.aload_n 0, 1) := by decide +kernel
theorem d_Re_init_96 : decode b_Re_init 96 = .ok (.new 9, 3) := by decide +kernel
theorem d_Re_init_99 : decode b_Re_init 99 = .ok (.dup, 1) := by decide +kernel
theorem d_Re_init_100 : decode b_Re_init 100 = .ok (.bipush 20, 2) := by decide +kernel
theorem d_Re_init_102 : decode b_Re_init 102 = .ok (.invokespecial 27, 3) := by decide +kernel
theorem d_Re_init_105 : decode b_Re_init 105 = .ok (.putfield 46, 3) := by decide +kernel
theorem d_Re_init_108 : decode b_Re_init 108 = .ok (.return_, 1) := by decide +kernel
theorem c_Re_countWays (l : Launch) {g : Gh} (nx : Nat) {R n : Nat} {sg k : Int32} {v : Nat → Nat} (hV : RV g R sg v) (hn : n ≤ 250) : Ct l m_Re_countWays 0 0 [.ref R, .int (nI n), .int k] g nx (fun r g' nx' => r = none ∧ nx = nx' ∧ gW g g' R (R + 25) ∧ ∃ (c : Nat) (v' : Nat → Nat), c = (if 0 ≤ k.toInt ∧ k.toInt ≤ n then ch n k.toInt.toNat else 0) ∧ RV g' R (if 0 ≤ k.toInt ∧ k.toInt ≤ n then 1 else 0) v' ∧ v' 2 = c ∧ v' 4 = 1) := by
  have r1 := hV.1
  have r3 := hV.2.2.1
  unfold RE at r1
  refine Ct.of (by decide) (Nat.le_of_ble_eq_true rfl) (fun E hE hQ => ?_)
  have b19 : (2 : Nat) ^ 250 < 4294967296 ^ 19 := by
    rw [show (4294967296 : Nat) = 2 ^ 32 from rfl, ← Nat.pow_mul]
    exact Nat.pow_lt_pow_right (by decide) (by decide)
  have zero : ∀ lv, ¬ (0 ≤ k.toInt ∧ k.toInt ≤ n) → lG lv 0 = some (.ref R) → zJ E g nx 0 0 13 lv [.ref (R + 1)] := by
    intro lv hk l0
    refine z_sub (lv' := [(0, .ref R)]) (by simp only [List.map, l0]) ?_
    refine z_lconst (v := 0) hE d_Re_countWays_13 (by decide) ?_
    refine z_goto (tgt := 18) hE d_Re_countWays_14 (by decide) ?_
    refine z_callV hE d_Re_countWays_18 cl_Re_105 (c_Fr_becomeWhole l nx (RV_F hV) 0) (by assumption) cb_Fr rfl (Nat.le_of_ble_eq_true rfl) ⟨by decide, by decide⟩ ⟨by omega, by omega⟩ (fun r_1 g_1 nx_1 hp_1 => ?_) rfl
    try dsimp only [Option.toList, List.nil_append, List.cons_append]
    obtain ⟨rfl, rfl, hF, hW⟩ := hp_1
    try dsimp only [Option.toList, List.nil_append, List.cons_append]
    have V1 : RV g_1 R 0 (upN (upN v 2 0) 4 1) := by
      obtain ⟨q1, q2, q3⟩ := hF
      refine ⟨?_, ?_, q1, fun j hj => ?_⟩
      · unfold RE; rw [hW R (by omega)]; exact hV.1
      · unfold DV; rw [hW (R + 6) (by omega)]; exact hV.2.1
      · have b := kL_b j hj
        by_cases j2 : j = 2
        · subst j2; exact q2
        · by_cases j4 : j = 4
          · subst j4; exact q3
          · rw [upN_n j4, upN_n j2]
            have j7 : 7 ≤ j := by
              simp only [kL, List.mem_cons, List.not_mem_nil, or_false] at hj
              omega
            exact NA_W (hV.2.2.2 j hj) hW (by omega)
    have m1 := V1.1
    have m3 := V1.2.2.1
    unfold RE at m1
    refine z_aload_n hE d_Re_countWays_21 rfl ?_
    refine z_get hE d_Re_countWays_22 fl_Re_14 (by assumption) rfl ?_
    refine z_getN hE d_Re_countWays_25 fl_Re_55 (by assumption) rfl ?_
    refine z_if_ne (tgt := 32) hE d_Re_countWays_28 (by decide) (fun c_28 => ?_) (fun c_28 => ?_)
    · exact absurd rfl c_28
    · exact z_vret hE hQ d_Re_countWays_31 rfl (Nat.le_refl _) (Nat.le_refl _) ⟨rfl, rfl, gW_le hW (by omega) (by omega), 0, _, by rw [if_neg hk], by rw [if_neg hk]; exact V1, rfl, rfl⟩
  refine z_aload_n hE d_Re_countWays_0 rfl ?_
  refine z_get hE d_Re_countWays_1 fl_Re_14 (by assumption) rfl ?_
  refine z_iload_n hE d_Re_countWays_4 rfl ?_
  refine z_if_lt (tgt := 13) hE d_Re_countWays_5 (by decide) (fun c_5 => ?_) (fun c_5 => ?_)
  · refine zero _ (fun q => ?_) rfl
    have := i_lt0.mp c_5
    omega
  · have hk0 := mt i_lt0.mpr c_5
    refine z_iload_n hE d_Re_countWays_8 rfl ?_
    refine z_iload_n hE d_Re_countWays_9 rfl ?_
    refine z_icmp_le (tgt := 17) hE d_Re_countWays_10 (by decide) (fun c_10 => ?_) (fun c_10 => ?_)
    · rw [Int32.le_iff_toInt_le, nI_ti (by omega)] at c_10
      obtain ⟨K, hK⟩ : ∃ K : Nat, k.toInt = K := ⟨k.toInt.toNat, by omega⟩
      have hkK : k = nI K := by rw [← Int32.toInt_inj, nI_ti (by omega)]; exact hK
      have hKn : K ≤ n := by omega
      have hcond : 0 ≤ k.toInt ∧ k.toInt ≤ n := ⟨by omega, by omega⟩
      refine z_lconst (v := lN 1) hE d_Re_countWays_17 (by decide) ?_
      refine z_callV hE d_Re_countWays_18 cl_Re_105 (c_Fr_becomeWhole l nx (RV_F hV) (lN 1)) (by assumption) cb_Fr rfl (Nat.le_of_ble_eq_true rfl) ⟨by decide, by decide⟩ ⟨by omega, by omega⟩ (fun r_1 g_1 nx_1 hp_1 => ?_) rfl
      try dsimp only [Option.toList, List.nil_append, List.cons_append]
      obtain ⟨rfl, rfl, hF, hW⟩ := hp_1
      try dsimp only [Option.toList, List.nil_append, List.cons_append]
      have V1 : RV g_1 R 1 (upN (upN v 2 1) 4 1) := by
        obtain ⟨q1, q2, q3⟩ := hF
        refine ⟨?_, ?_, q1, fun j hj => ?_⟩
        · unfold RE; rw [hW R (by omega)]; exact hV.1
        · unfold DV; rw [hW (R + 6) (by omega)]; exact hV.2.1
        · have b := kL_b j hj
          by_cases j2 : j = 2
          · subst j2; exact q2
          · by_cases j4 : j = 4
            · subst j4; exact q3
            · rw [upN_n j4, upN_n j2]
              have j7 : 7 ≤ j := by
                simp only [kL, List.mem_cons, List.not_mem_nil, or_false] at hj
                omega
              exact NA_W (hV.2.2.2 j hj) hW (by omega)
      have w1 : gW g g_1 R (R + 25) := gW_le hW (by omega) (by omega)
      have m1 := V1.1
      have m3 := V1.2.2.1
      unfold RE at m1
      refine z_aload_n hE d_Re_countWays_21 rfl ?_
      refine z_get hE d_Re_countWays_22 fl_Re_14 (by assumption) rfl ?_
      refine z_getN hE d_Re_countWays_25 fl_Re_55 (by assumption) rfl ?_
      refine z_if_ne (tgt := 32) hE d_Re_countWays_28 (by decide) (fun c_28 => ?_) (fun c_28 => ?_)
      · subst hkK
        refine z_iload_n hE d_Re_countWays_32 rfl ?_
        refine z_iload_n hE d_Re_countWays_33 rfl ?_
        refine z_iload_n hE d_Re_countWays_34 rfl ?_
        refine z_isub (v := nI (n - K)) hE d_Re_countWays_35 (pk_sub hKn) ?_
        refine z_mmin (v := nI (min K (n - K))) hE d_Re_countWays_36 cl_Re_108 (by decide) (Nat.le_of_ble_eq_true rfl) (by omega) (by omega) (i_min (by omega) (by omega)) ?_
        obtain ⟨t, ht⟩ : ∃ t, min K (n - K) = t := ⟨_, rfl⟩
        have htn : t ≤ n := by omega
        rw [ht]
        have hch : ch n t = ch n K := by
          rcases Nat.le_total K (n - K) with z | z
          · rw [← ht, Nat.min_eq_left z]
          · rw [← ht, Nat.min_eq_right z, ch_sym n K hKn]
        have loop : ∀ (u i : Nat) (gL : Gh) (vL : Nat → Nat), i + u = t → RV gL R 1 vL → gW g gL R (R + 25) → vL 2 = ch (n - t + i) i → vL 4 = 1 → ∀ lv, lG lv 0 = some (.ref R) → lG lv 1 = some (.int (nI n)) → lG lv 3 = some (.int (nI t)) → lG lv 4 = some (.int (nI (i + 1))) → zJ E gL nx 0 0 43 lv [] := by
          intro u
          induction u with
          | zero =>
            intro i gL vL hi VL wL e2 e4 lv l0 l1 l3 l4
            refine z_sub (lv' := [(3, .int (nI t)), (4, .int (nI (i + 1)))]) (by simp only [List.map, l3, l4]) ?_
            refine z_iload hE d_Re_countWays_43 rfl ?_
            refine z_iload_n hE d_Re_countWays_45 rfl ?_
            refine z_icmp_gt (tgt := 83) hE d_Re_countWays_46 (by decide) (fun c_46 => ?_) (fun c_46 => ?_)
            · refine z_vret hE hQ d_Re_countWays_83 rfl (Nat.le_refl _) (Nat.le_refl _) ⟨rfl, rfl, wL, _, vL, rfl, by rw [if_pos hcond]; exact VL, ?_, e4⟩
              rw [if_pos hcond, e2, show i = t by omega, show n - t + t = n by omega, hK, hch]
              rfl
            · exact absurd ((nI_LT (by omega) (by omega)).mpr (by omega)) c_46
          | succ u ih =>
            intro i gL vL hi VL wL e2 e4 lv l0 l1 l3 l4
            refine z_sub (lv' := [(0, .ref R), (1, .int (nI n)), (3, .int (nI t)), (4, .int (nI (i + 1)))]) (by simp only [List.map, l0, l1, l3, l4]) ?_
            have m1 := VL.1
            have m3 := VL.2.2.1
            unfold RE at m1
            have n2 := VL.2.2.2 2 (by decide)
            rw [e2] at n2
            obtain ⟨_, _, ⟨K21, -⟩, -⟩ := id n2
            have cb : ch (n - t + i) i < 4294967296 ^ 19 := by
              have y1 := ch_le (n - t + i) i
              have y2 := Nat.pow_le_pow_right (n := 2) (by decide) (show n - t + i ≤ 250 by omega)
              omega
            refine z_iload hE d_Re_countWays_43 rfl ?_
            refine z_iload_n hE d_Re_countWays_45 rfl ?_
            refine z_icmp_gt (tgt := 83) hE d_Re_countWays_46 (by decide) (fun c_46 => ?_) (fun c_46 => ?_)
            · exact absurd ((nI_LT (by omega) (by omega)).mp c_46) (by omega)
            · refine z_aload_n hE d_Re_countWays_49 rfl ?_
              refine z_get hE d_Re_countWays_50 fl_Re_14 (by assumption) rfl ?_
              refine z_getN hE d_Re_countWays_53 fl_Re_67 (by assumption) rfl ?_
              refine z_iload_n hE d_Re_countWays_56 rfl ?_
              refine z_iload_n hE d_Re_countWays_57 rfl ?_
              refine z_isub (v := nI (n - t)) hE d_Re_countWays_58 (pk_sub htn) ?_
              refine z_iload hE d_Re_countWays_59 rfl ?_
              refine z_iadd (v := nI (n - t + (i + 1))) hE d_Re_countWays_61 (nI_add _ _) ?_
              refine z_callV hE d_Re_countWays_62 cl_Re_113 (c_Na_multiplyByInt l nx n2 cb (n - t + (i + 1)) (by omega)) (by assumption) cb_Na rfl (Nat.le_of_ble_eq_true rfl) ⟨by decide, by decide⟩ ⟨by omega, by omega⟩ (fun r_2 g_2 nx_2 hp_2 => ?_) rfl
              try dsimp only [Option.toList, List.nil_append, List.cons_append]
              obtain ⟨rfl, rfl, hA2, hO2⟩ := hp_2
              try dsimp only [Option.toList, List.nil_append, List.cons_append]
              have V2 := RV_O VL (by decide) hA2 hO2
              have w2 : gW g g_2 R (R + 25) := gW_t wL (gW_O hO2 (by omega) (by omega))
              have m1 := V2.1
              have m3 := V2.2.2.1
              unfold RE at m1
              obtain ⟨_, _, ⟨K22, -⟩, -⟩ := id hA2
              refine z_aload_n hE d_Re_countWays_65 rfl ?_
              refine z_get hE d_Re_countWays_66 fl_Re_14 (by assumption) rfl ?_
              refine z_getN hE d_Re_countWays_69 fl_Re_67 (by assumption) rfl ?_
              refine z_iload hE d_Re_countWays_72 rfl ?_
              refine z_callV hE d_Re_countWays_74 cl_Re_116 (c_Na_divideByInt l nx hA2 (i + 1) (by omega) (by omega)) (by assumption) cb_Na rfl (Nat.le_of_ble_eq_true rfl) ⟨by decide, by decide⟩ ⟨by omega, by omega⟩ (fun r_3 g_3 nx_3 hp_3 => ?_) rfl
              try dsimp only [Option.toList, List.nil_append, List.cons_append]
              obtain ⟨rfl, rfl, hA3, hO3⟩ := hp_3
              try dsimp only [Option.toList, List.nil_append, List.cons_append]
              have V3 := RV_O V2 (by decide) hA3 hO3
              refine z_iinc (v := nI (i + 1 + 1)) hE d_Re_countWays_77 rfl (nI_1 _) (by decide) ?_
              refine z_goto (tgt := 43) hE d_Re_countWays_80 (by decide) ?_
              refine ih (i + 1) g_3 _ (by omega) V3 (gW_t w2 (gW_O hO3 (by omega) (by omega))) ?_ ?_ _ rfl rfl rfl rfl
              · rw [upN_s]; exact ch_step (n - t) i
              · rw [upN_n (by decide), upN_n (by decide)]; exact e4
        refine z_istore_n hE d_Re_countWays_39 rfl (by decide) ?_
        refine z_iconst (v := nI 1) hE d_Re_countWays_40 (by decide) ?_
        refine z_istore hE d_Re_countWays_41 (by decide) ?_
        refine loop t 0 g_1 _ (by omega) V1 w1 ?_ rfl _ rfl rfl rfl rfl
        rw [ch_n0]; rfl
      · exact absurd c_28 (by decide)
    · rw [Int32.le_iff_toInt_le, nI_ti (by omega)] at c_10
      exact zero _ (fun q => by omega) rfl

