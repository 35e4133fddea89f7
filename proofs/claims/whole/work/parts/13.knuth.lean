/-! the numbers of long division -/
theorem q_le {m L v1 v2 r : Nat} (h0 : 0 < v1) (hr : r < 4294967296) (h : m * (v1 * 4294967296 + v2) ≤ L * 4294967296 + r) : m ≤ L / v1 := by
  rw [Nat.le_div_iff_mul_le h0]
  have h1 : m * v1 * 4294967296 ≤ m * (v1 * 4294967296 + v2) := by
    rw [Nat.mul_add, ← Nat.mul_assoc]; omega
  omega
/-- the first guess is at most two too high -/
theorem q_two {m L v1 v2 r : Nat} (hv : 2147483648 ≤ v1) (h2 : v2 < 4294967296) (hm : m ≤ 4294967295) (h : m * v1 ≤ L) : m ≤ (L * 4294967296 + r) / (v1 * 4294967296 + v2) + 2 := by
  rcases Nat.lt_or_ge m 2 with q | q
  · exact Nat.le_trans (Nat.le_of_lt q) (Nat.le_add_left 2 _)
  · obtain ⟨k, rfl⟩ : ∃ k, m = k + 2 := ⟨m - 2, by omega⟩
    have h3 : k ≤ (L * 4294967296 + r) / (v1 * 4294967296 + v2) := by
      rw [Nat.le_div_iff_mul_le (by omega)]
      have h4 : k * v2 ≤ 4294967295 * 4294967295 := Nat.mul_le_mul (by omega) (by omega)
      rw [Nat.add_mul] at h
      rw [Nat.mul_add, ← Nat.mul_assoc]
      omega
    omega
/-- what the guess of two limbs says of the digit -/
theorem q_digit {q W P U V lo u : Nat} (hU : U = lo * P + u) (hu : u < P) (hV1 : W * P ≤ V) (hV2 : V < (W + 1) * P) (hW : 4294967296 ≤ W) (hq : q ≤ 4294967295) (h1 : q * W ≤ lo) (h2 : lo < (q + 1) * W ∨ q = 4294967295) (hUV : U < V * 4294967296) : q * V < U + V ∧ U < (q + 1) * V := by
  constructor
  · have a1 : q * V ≤ q * ((W + 1) * P) := Nat.mul_le_mul_left q (Nat.le_of_lt hV2)
    have a2 : q * ((W + 1) * P) = q * W * P + q * P := by
      rw [Nat.add_mul, Nat.one_mul, Nat.mul_add, Nat.mul_assoc]
    have a3 : q * W * P ≤ lo * P := Nat.mul_le_mul_right P h1
    have a4 : q * P ≤ 4294967295 * P := Nat.mul_le_mul_right P hq
    have a5 : 4294967296 * P ≤ W * P := Nat.mul_le_mul_right P hW
    have a6 : 0 < P := by omega
    omega
  · rcases h2 with h2 | h2
    · have b1 : (lo + 1) * P ≤ (q + 1) * W * P := Nat.mul_le_mul_right P h2
      have b2 : (q + 1) * W * P ≤ (q + 1) * V := by
        rw [Nat.mul_assoc]; exact Nat.mul_le_mul_left _ hV1
      rw [Nat.add_mul, Nat.one_mul] at b1
      omega
    · subst h2
      omega
def sh (d : Nat → Nat) (k : Nat) : Nat → Nat := fun i => d (k + i)
theorem val_sh (d : Nat → Nat) (k : Nat) : ∀ j, val d (k + j) = val d k + 4294967296 ^ k * val (sh d k) j
  | 0 => by
    show val d k = val d k + _ * 0
    omega
  | j + 1 => by
    rw [show k + (j + 1) = (k + j) + 1 by omega, val_s, val_s, val_sh d k j, Nat.mul_add, Nat.pow_add]
    show _ + d (k + j) * _ = _ + (_ + _ * (d (k + j) * _))
    rw [Nat.mul_left_comm (4294967296 ^ k)]
    omega
theorem val_top (d : Nat → Nat) (n : Nat) : val d (n + 2) = val d n + (d (n + 1) * 4294967296 + d n) * 4294967296 ^ n := by
  rw [val_s, val_s, Bs, Nat.add_mul, Nat.mul_assoc]
  omega
theorem l_add_min {X : Nat} (h : X < 18446744073709551616) : (lN X + (-9223372036854775808)).toInt = (X : Int) - 9223372036854775808 := by
  rw [show (-9223372036854775808 : Int64) = lN 9223372036854775808 from rfl, lN_add, lN_TI]
  split <;> omega
theorem d_Dv_divideUnsigned_0 : decode b_Dv_divideUnsigned 0 = .ok (.lload_n 2, 1) := by decide +kernel
theorem d_Dv_divideUnsigned_1 : decode b_Dv_divideUnsigned 1 = .ok (.lconst 0, 1) := by decide +kernel
theorem d_Dv_divideUnsigned_2 : decode b_Dv_divideUnsigned 2 = .ok (.lcmp, 1) := by decide +kernel
theorem d_Dv_divideUnsigned_3 : decode b_Dv_divideUnsigned 3 = .ok (.ifCond .gt 5, 3) := by decide +kernel
theorem d_Dv_divideUnsigned_6 : decode b_Dv_divideUnsigned 6 = .ok (.lconst 0, 1) := by decide +kernel
theorem d_Dv_divideUnsigned_7 : decode b_Dv_divideUnsigned 7 = .ok (.lreturn, 1) := by decide +kernel
theorem d_Dv_divideUnsigned_8 : decode b_Dv_divideUnsigned 8 = .ok (.lload_n 0, 1) := by decide +kernel
theorem d_Dv_divideUnsigned_9 : decode b_Dv_divideUnsigned 9 = .ok (.iconst 1, 1) := by decide +kernel
theorem d_Dv_divideUnsigned_10 : decode b_Dv_divideUnsigned 10 = .ok (.lushr, 1) := by decide +kernel
theorem d_Dv_divideUnsigned_11 : decode b_Dv_divideUnsigned 11 = .ok (.lload_n 2, 1) := by decide +kernel
theorem d_Dv_divideUnsigned_12 : decode b_Dv_divideUnsigned 12 = .ok (.ldiv, 1) := by decide +kernel
theorem d_Dv_divideUnsigned_13 : decode b_Dv_divideUnsigned 13 = .ok (.iconst 1, 1) := by decide +kernel
theorem d_Dv_divideUnsigned_14 : decode b_Dv_divideUnsigned 14 = .ok (.lshl, 1) := by decide +kernel
theorem d_Dv_divideUnsigned_15 : decode b_Dv_divideUnsigned 15 = .ok (.lstore 4, 2) := by decide +kernel
theorem d_Dv_divideUnsigned_17 : decode b_Dv_divideUnsigned 17 = .ok (.lload_n 0, 1) := by decide +kernel
theorem d_Dv_divideUnsigned_18 : decode b_Dv_divideUnsigned 18 = .ok (.lload 4, 2) := by decide +kernel
theorem d_Dv_divideUnsigned_20 : decode b_Dv_divideUnsigned 20 = .ok (.lload_n 2, 1) := by decide +kernel
theorem d_Dv_divideUnsigned_21 : decode b_Dv_divideUnsigned 21 = .ok (.lmul, 1) := by decide +kernel
theorem d_Dv_divideUnsigned_22 : decode b_Dv_divideUnsigned 22 = .ok (.lsub, 1) := by decide +kernel
theorem d_Dv_divideUnsigned_23 : decode b_Dv_divideUnsigned 23 = .ok (.lload_n 2, 1) := by decide +kernel
theorem d_Dv_divideUnsigned_24 : decode b_Dv_divideUnsigned 24 = .ok (.lcmp, 1) := by decide +kernel
theorem d_Dv_divideUnsigned_25 : decode b_Dv_divideUnsigned 25 = .ok (.ifCond .lt 10, 3) := by decide +kernel
theorem d_Dv_divideUnsigned_28 : decode b_Dv_divideUnsigned 28 = .ok (.lload 4, 2) := by decide +kernel
theorem d_Dv_divideUnsigned_30 : decode b_Dv_divideUnsigned 30 = .ok (.lconst 1, 1) := by decide +kernel
theorem d_Dv_divideUnsigned_31 : decode b_Dv_divideUnsigned 31 = .ok (.ladd, 1) := by decide +kernel
theorem d_Dv_divideUnsigned_32 : decode b_Dv_divideUnsigned 32 = .ok (.goto 5, 3) := by decide +kernel
theorem d_Dv_divideUnsigned_35 : decode b_Dv_divideUnsigned 35 = .ok (.lload 4, 2) := by decide +kernel
theorem d_Dv_divideUnsigned_37 : decode b_Dv_divideUnsigned 37 = .ok (.lreturn, 1) := by decide +kernel
theorem d_Dv_isAboveUnsigned_0 : decode b_Dv_isAboveUnsigned 0 = .ok (.lload_n 0, 1) := by decide +kernel
theorem d_Dv_isAboveUnsigned_1 : decode b_Dv_isAboveUnsigned 1 = .ok (.ldc2_w 89, 3) := by decide +kernel
theorem d_Dv_isAboveUnsigned_4 : decode b_Dv_isAboveUnsigned 4 = .ok (.ladd, 1) := by decide +kernel
theorem d_Dv_isAboveUnsigned_5 : decode b_Dv_isAboveUnsigned 5 = .ok (.lload_n 2, 1) := by decide +kernel
theorem d_Dv_isAboveUnsigned_6 : decode b_Dv_isAboveUnsigned 6 = .ok (.ldc2_w 89, 3) := by decide +kernel
theorem d_Dv_isAboveUnsigned_9 : decode b_Dv_isAboveUnsigned 9 = .ok (.ladd, 1) := by decide +kernel
theorem d_Dv_isAboveUnsigned_10 : decode b_Dv_isAboveUnsigned 10 = .ok (.lcmp, 1) := by decide +kernel
theorem d_Dv_isAboveUnsigned_11 : decode b_Dv_isAboveUnsigned 11 = .ok (.ifCond .le 7, 3) := by decide +kernel
theorem d_Dv_isAboveUnsigned_14 : decode b_Dv_isAboveUnsigned 14 = .ok (.iconst 1, 1) := by decide +kernel
theorem d_Dv_isAboveUnsigned_15 : decode b_Dv_isAboveUnsigned 15 = .ok (.goto 4, 3) := by decide +kernel
theorem d_Dv_isAboveUnsigned_18 : decode b_Dv_isAboveUnsigned 18 = .ok (.iconst 0, 1) := by decide +kernel
theorem d_Dv_isAboveUnsigned_19 : decode b_Dv_isAboveUnsigned 19 = .ok (.ireturn, 1) := by decide +kernel
theorem c_Dv_isAbove (l : Launch) (g : Gh) (nx X Y : Nat) (hX : X < 18446744073709551616) (hY : Y < 18446744073709551616) : Ct l m_Dv_isAboveUnsigned 0 0 [.long (lN X), .long (lN Y)] g nx (pP (some (.int (if Y < X then 1 else 0))) g nx) := by
  refine Ct.of (by decide) (Nat.le_of_ble_eq_true rfl) (fun E hE hQ => ?_)
  refine z_lload_n hE d_Dv_isAboveUnsigned_0 rfl ?_
  refine z_ldc2 hE d_Dv_isAboveUnsigned_1 cn_Dv_89 ?_
  refine z_ladd hE d_Dv_isAboveUnsigned_4 (rfl) ?_
  refine z_lload_n hE d_Dv_isAboveUnsigned_5 rfl ?_
  refine z_ldc2 hE d_Dv_isAboveUnsigned_6 cn_Dv_89 ?_
  refine z_ladd hE d_Dv_isAboveUnsigned_9 (rfl) ?_
  refine z_lcmp hE d_Dv_isAboveUnsigned_10 ?_
  refine z_if_le (tgt := 18) hE d_Dv_isAboveUnsigned_11 (by decide) (fun c_11 => ?_) (fun c_11 => ?_)
  · rw [lg_cmp_le, Int64.le_iff_toInt_le, l_add_min hX, l_add_min hY] at c_11
    refine z_iconst (v := 0) hE d_Dv_isAboveUnsigned_18 (by decide) ?_
    refine z_zret hE hQ d_Dv_isAboveUnsigned_19 rfl (Nat.le_refl _) (Nat.le_refl _) (Or.inl rfl) ⟨?_, rfl, rfl⟩
    rw [if_neg (by omega)]
  · rw [lg_cmp_le, Int64.le_iff_toInt_le, l_add_min hX, l_add_min hY] at c_11
    refine z_iconst (v := 1) hE d_Dv_isAboveUnsigned_14 (by decide) ?_
    refine z_goto (tgt := 19) hE d_Dv_isAboveUnsigned_15 (by decide) ?_
    refine z_zret hE hQ d_Dv_isAboveUnsigned_19 rfl (Nat.le_refl _) (Nat.le_refl _) (Or.inr rfl) ⟨?_, rfl, rfl⟩
    rw [if_pos (by omega)]
theorem c_Dv_divideUnsigned (l : Launch) (g : Gh) (nx X Y : Nat) (hX : X < 18446744073709551616) (hY0 : 0 < Y) (hY : Y < 4294967296) : Ct l m_Dv_divideUnsigned 0 0 [.long (lN X), .long (lN Y)] g nx (pP (some (.long (lN (X / Y)))) g nx) := by
  have e1 := Nat.mod_add_div (X / 2) Y
  have e2 := Nat.mod_lt (X / 2) hY0
  have e3 : X / 2 / Y ≤ X / 2 := Nat.div_le_self _ _
  generalize ht : X / 2 / Y = t at e1 e3
  generalize hr : X / 2 % Y = r at e1 e2
  have e4 : t * 2 * Y = 2 * (Y * t) := by rw [Nat.mul_right_comm, Nat.mul_comm t Y, Nat.mul_comm]
  refine Ct.of (by decide) (Nat.le_of_ble_eq_true rfl) (fun E hE hQ => ?_)
  refine z_lload_n hE d_Dv_divideUnsigned_0 rfl ?_
  refine z_lconst (v := lN 0) hE d_Dv_divideUnsigned_1 (by decide) ?_
  refine z_lcmp hE d_Dv_divideUnsigned_2 ?_
  refine z_if_gt (tgt := 8) hE d_Dv_divideUnsigned_3 (by decide) (fun c_3 => ?_) (fun c_3 => ?_)
  · refine z_lload_n hE d_Dv_divideUnsigned_8 rfl ?_
    refine z_iconst (v := nI 1) hE d_Dv_divideUnsigned_9 (by decide) ?_
    refine z_lushr (v := lN (X / 2)) hE d_Dv_divideUnsigned_10 (wb_shr (k := 1) (show X < 2 ^ 64 from hX) (by decide)) ?_
    refine z_lload_n hE d_Dv_divideUnsigned_11 rfl ?_
    refine z_ldiv (v := lN t) hE d_Dv_divideUnsigned_12 (by rw [show (0 : Int64) = lN 0 from rfl, pk_lEQ (by omega) (by omega)]; omega) (by rw [← ht]; exact pk_lDiv (by omega) hY0 (by omega)) ?_
    refine z_iconst (v := nI 1) hE d_Dv_divideUnsigned_13 (by decide) ?_
    refine z_lshl (v := lN (t * 2)) hE d_Dv_divideUnsigned_14 (wb_shl (k := 1) t (by decide)) ?_
    refine z_lstore hE d_Dv_divideUnsigned_15 (by decide) ?_
    refine z_lload_n hE d_Dv_divideUnsigned_17 rfl ?_
    refine z_lload hE d_Dv_divideUnsigned_18 rfl ?_
    refine z_lload_n hE d_Dv_divideUnsigned_20 rfl ?_
    refine z_lmul (v := lN (t * 2 * Y)) hE d_Dv_divideUnsigned_21 (lN_mul _ _) ?_
    refine z_lsub (v := lN (X - t * 2 * Y)) hE d_Dv_divideUnsigned_22 (lN_sub (by omega)) ?_
    refine z_lload_n hE d_Dv_divideUnsigned_23 rfl ?_
    refine z_lcmp hE d_Dv_divideUnsigned_24 ?_
    refine z_if_lt (tgt := 35) hE d_Dv_divideUnsigned_25 (by decide) (fun c_25 => ?_) (fun c_25 => ?_)
    · rw [lg_cmp_lt, pk_lLT (by omega) (by omega)] at c_25
      refine z_lload hE d_Dv_divideUnsigned_35 rfl ?_
      refine z_lret hE hQ d_Dv_divideUnsigned_37 rfl (Nat.le_refl _) (Nat.le_refl _) ⟨?_, rfl, rfl⟩
      congr 3
      have : X = X - t * 2 * Y + Y * (t * 2) := by rw [Nat.mul_comm Y (t * 2)]; omega
      rw [this, Nat.add_mul_div_left _ _ hY0, Nat.div_eq_of_lt (by omega)]
      omega
    · rw [lg_cmp_lt, pk_lLT (by omega) (by omega)] at c_25
      refine z_lload hE d_Dv_divideUnsigned_28 rfl ?_
      refine z_lconst (v := lN 1) hE d_Dv_divideUnsigned_30 (by decide) ?_
      refine z_ladd (v := lN (t * 2 + 1)) hE d_Dv_divideUnsigned_31 (lN_add _ _) ?_
      refine z_goto (tgt := 37) hE d_Dv_divideUnsigned_32 (by decide) ?_
      refine z_lret hE hQ d_Dv_divideUnsigned_37 rfl (Nat.le_refl _) (Nat.le_refl _) ⟨?_, rfl, rfl⟩
      congr 3
      have : X = (X - t * 2 * Y - Y) + Y * (t * 2 + 1) := by rw [Nat.mul_add, Nat.mul_one, Nat.mul_comm Y (t * 2)]; omega
      rw [this, Nat.add_mul_div_left _ _ hY0, Nat.div_eq_of_lt (by omega)]
      omega
  · rw [lg_cmp_gt, pk_lLT (by omega) (by omega)] at c_3
    omega

