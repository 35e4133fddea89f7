/-! Reckoner: common whole, powers -/
theorem c_Re_findCommonWhole (l : Launch) {g : Gh} (nx : Nat) {R f h N M N' M' aa ab ba bb : Nat} {sg sa sb : Int32} {v : Nat → Nat} (hV : RV g R sg v) (hf : FR g f N M sa aa ab) (hh : FR g h N' M' sb ba bb) (hfo : f + 5 ≤ R ∨ R + 25 ≤ f) (hho : h + 5 ≤ R ∨ R + 25 ≤ h) (b1 : aa < 4294967296 ^ 8) (b3 : ba < 4294967296 ^ 8) : Ct l m_Re_findCommonWhole 0 0 [.ref R, .ref f, .ref h] g nx (fun r g' nx' => r = none ∧ nx = nx' ∧ gW g g' R (R + 25) ∧ ∃ v', RV g' R (if Nat.gcd aa ba = 0 then 0 else 1) v' ∧ v' 2 = Nat.gcd aa ba ∧ v' 4 = 1) := by
  have w8 := w818
  obtain ⟨f1, f2, f3⟩ := id hf
  obtain ⟨h1, h2, h3⟩ := id hh
  have r1 := hV.1
  unfold RE at r1
  have hgb : Nat.gcd aa ba < 4294967296 ^ 20 := by
    have p20 := pw_ge (show 8 ≤ 20 by decide)
    rcases Nat.eq_zero_or_pos aa with z | z
    · rw [z, Nat.gcd_zero_left]; omega
    · have := Nat.gcd_le_left ba z; omega
  refine Ct.of (by decide) (Nat.le_of_ble_eq_true rfl) (fun E hE hQ => ?_)
  refine z_aload_n hE d_Re_findCommonWhole_0 rfl ?_
  refine z_aload_n hE d_Re_findCommonWhole_1 rfl ?_
  refine z_getN hE d_Re_findCommonWhole_2 fl_Re_67 (by assumption) rfl ?_
  refine z_aload_n hE d_Re_findCommonWhole_5 rfl ?_
  refine z_getN hE d_Re_findCommonWhole_6 fl_Re_67 (by assumption) rfl ?_
  refine z_callV hE d_Re_findCommonWhole_9 cl_Re_63 (c_Re_findCommon l nx (RV_RF hV) ⟨_, hV.2.2.2 13 (by decide)⟩ ⟨_, hV.2.2.2 15 (by decide)⟩ f2 h2 (by omega) (by omega) (by omega) (by omega)) (by assumption) cb_Re rfl (Nat.le_of_ble_eq_true rfl) ⟨by decide, by decide⟩ ⟨by omega, by omega⟩ (fun r_1 g_1 nx_1 hp_1 => ?_) rfl
  try dsimp only [Option.toList, List.nil_append, List.cons_append]
  obtain ⟨rfl, rfl, c13, c15, cF, cW⟩ := hp_1
  try dsimp only [Option.toList, List.nil_append, List.cons_append]
  obtain ⟨v1, V1, e13, -, -, -, -, -, -⟩ := RV_C hV c13 c15 cF cW
  have w1 : gW g g_1 R (R + 25) := gW_le cW (by omega) (by omega)
  have m1 := V1.1
  have m3 := V1.2.2.1
  unfold RE at m1
  obtain ⟨_, _, K2, -⟩ := id (V1.2.2.2 2 (by decide))
  have K21 := K2.1
  refine z_aload_n hE d_Re_findCommonWhole_12 rfl ?_
  refine z_get hE d_Re_findCommonWhole_13 fl_Re_14 (by assumption) rfl ?_
  refine z_getN hE d_Re_findCommonWhole_16 fl_Re_67 (by assumption) rfl ?_
  refine z_aload_n hE d_Re_findCommonWhole_19 rfl ?_
  refine z_get hE d_Re_findCommonWhole_20 fl_Re_30 (by assumption) rfl ?_
  refine z_callV hE d_Re_findCommonWhole_23 cl_Re_84 (c_Na_become l nx K2 c13 (by omega) hgb) (by assumption) cb_Na rfl (Nat.le_of_ble_eq_true rfl) ⟨by decide, by decide⟩ ⟨by omega, by omega⟩ (fun r_2 g_2 nx_2 hp_2 => ?_) rfl
  try dsimp only [Option.toList, List.nil_append, List.cons_append]
  obtain ⟨rfl, rfl, hA2, hO2⟩ := hp_2
  try dsimp only [Option.toList, List.nil_append, List.cons_append]
  have V2 := RV_O V1 (by decide) hA2 hO2
  have w2 : gW g g_2 R (R + 25) := gW_t w1 (gW_O hO2 (by omega) (by omega))
  have m1 := V2.1
  have m3 := V2.2.2.1
  unfold RE at m1
  obtain ⟨_, _, K4, -⟩ := id (V2.2.2.2 4 (by decide))
  have K41 := K4.1
  refine z_aload_n hE d_Re_findCommonWhole_26 rfl ?_
  refine z_get hE d_Re_findCommonWhole_27 fl_Re_14 (by assumption) rfl ?_
  refine z_getN hE d_Re_findCommonWhole_30 fl_Re_74 (by assumption) rfl ?_
  refine z_lconst (v := lN 1) hE d_Re_findCommonWhole_33 (by decide) ?_
  refine z_callV hE d_Re_findCommonWhole_34 cl_Re_59 (c_Na_becomeLong l nx K4 1 (by decide)) (by assumption) cb_Na rfl (Nat.le_of_ble_eq_true rfl) ⟨by decide, by decide⟩ ⟨by omega, by omega⟩ (fun r_3 g_3 nx_3 hp_3 => ?_) rfl
  try dsimp only [Option.toList, List.nil_append, List.cons_append]
  obtain ⟨rfl, rfl, hA3, hO3⟩ := hp_3
  try dsimp only [Option.toList, List.nil_append, List.cons_append]
  have V3 := RV_O V2 (by decide) hA3 hO3
  have w3 : gW g g_3 R (R + 25) := gW_t w2 (gW_O hO3 (by omega) (by omega))
  have n13 := V3.2.2.2 13 (by decide)
  rw [upN_n (by decide), upN_n (by decide), e13] at n13
  obtain ⟨_, _, ⟨K13, -⟩, -⟩ := id n13
  have m1 := V3.1
  have m3 := V3.2.2.1
  unfold RE at m1
  have fin : ∀ (s' : Int32) lv, s' = (if Nat.gcd aa ba = 0 then 0 else 1) → zJ E g_3 nx 0 0 56 lv [.int s', .ref (R + 1)] := by
    intro s' lv hs
    refine z_putN hE d_Re_findCommonWhole_56 fl_Re_55 ct_Fr ff_Fr_2 (by assumption) rfl rfl (Nat.le_of_ble_eq_true rfl) ?_
    have V4 := RV_S (s' := s') V3
    refine z_vret hE hQ d_Re_findCommonWhole_59 rfl (Nat.le_refl _) (Nat.le_refl _) ⟨rfl, rfl, gW_t w3 (gW_S (by omega) (by omega)), _, by rw [← hs]; exact V4, ?_, upN_s⟩
    rw [upN_n (by decide), upN_s]
  refine z_aload_n hE d_Re_findCommonWhole_37 rfl ?_
  refine z_get hE d_Re_findCommonWhole_38 fl_Re_14 (by assumption) rfl ?_
  refine z_aload_n hE d_Re_findCommonWhole_41 rfl ?_
  refine z_get hE d_Re_findCommonWhole_42 fl_Re_30 (by assumption) rfl ?_
  refine z_callV hE d_Re_findCommonWhole_45 cl_Re_119 (c_Na_isZero l nx n13) (by assumption) cb_Na rfl (Nat.le_of_ble_eq_true rfl) ⟨by decide, by decide⟩ ⟨by omega, by omega⟩ (fun r_45 g_45 nx_45 hp_45 => ?_) rfl
  obtain ⟨rfl, rfl, rfl⟩ := hp_45
  try dsimp only [Option.toList, List.nil_append, List.cons_append]
  by_cases hz : Nat.gcd aa ba = 0
  · rw [if_pos hz]
    refine z_if_eq (tgt := 55) hE d_Re_findCommonWhole_48 (by decide) (fun c_48 => ?_) (fun c_48 => ?_)
    · exact absurd c_48 (by decide)
    · refine z_iconst (v := 0) hE d_Re_findCommonWhole_51 (by decide) ?_
      refine z_goto (tgt := 56) hE d_Re_findCommonWhole_52 (by decide) ?_
      exact fin 0 _ (by rw [if_pos hz])
  · rw [if_neg hz]
    refine z_if_eq (tgt := 55) hE d_Re_findCommonWhole_48 (by decide) (fun c_48 => ?_) (fun c_48 => ?_)
    · refine z_iconst (v := 1) hE d_Re_findCommonWhole_55 (by decide) ?_
      exact fin 1 _ (by rw [if_neg hz])
    · exact absurd rfl c_48
theorem s_lq : ∀ n, n < 32 → ((nI n &&& 31).toBitVec.smod 32).toNat = n := by decide +kernel
theorem shr_n {k b : Nat} (hk : k ≤ 1000000) (hb : b < 32) : nI k >>> (nI b &&& 31) = nI (k / 2 ^ b) := pk_shrN (by omega) _ b (s_lq b hb)
theorem and1_n (m : Nat) : nI m &&& 1 = nI (m % 2) := by
  rw [show (1 : Int32) = nI 1 from rfl, nx_and, Nat.and_one_is_mod]
theorem pow_big {x a b P : Nat} (h : P ≤ x ^ a) (hP : 1 < P) (hab : a ≤ b) : P ≤ x ^ b := by
  have hx : 0 < x := by
    rcases Nat.eq_zero_or_pos x with z | z
    · subst z
      cases a with
      | zero => rw [Nat.pow_zero] at h; omega
      | succ a => rw [Nat.zero_pow (by omega)] at h; omega
    · exact z
  exact Nat.le_trans h (Nat.pow_le_pow_right hx hab)
theorem d_Re_raiseInto_0 : decode b_Re_raiseInto 0 = .ok (.aload_n 3, 1) := by decide +kernel
theorem d_Re_raiseInto_1 : decode b_Re_raiseInto 1 = .ok (.lconst 1, 1) := by decide +kernel
theorem d_Re_raiseInto_2 : decode b_Re_raiseInto 2 = .ok (.invokevirtual 59, 3) := by decide +kernel
theorem d_Re_raiseInto_5 : decode b_Re_raiseInto 5 = .ok (.bipush 8, 2) := by decide +kernel
theorem d_Re_raiseInto_7 : decode b_Re_raiseInto 7 = .ok (.istore 4, 2) := by decide +kernel
theorem d_Re_raiseInto_9 : decode b_Re_raiseInto 9 = .ok (.iload 4, 2) := by decide +kernel
theorem d_Re_raiseInto_11 : decode b_Re_raiseInto 11 = .ok (.ifCond .lt 74, 3) := by decide +kernel
theorem d_Re_raiseInto_14 : decode b_Re_raiseInto 14 = .ok (.aload_n 0, 1) := by decide +kernel
theorem d_Re_raiseInto_15 : decode b_Re_raiseInto 15 = .ok (.getfield 37, 3) := by decide +kernel
theorem d_Re_raiseInto_18 : decode b_Re_raiseInto 18 = .ok (.aload_n 3, 1) := by decide +kernel
theorem d_Re_raiseInto_19 : decode b_Re_raiseInto 19 = .ok (.aload_n 3, 1) := by decide +kernel
theorem d_Re_raiseInto_20 : decode b_Re_raiseInto 20 = .ok (.invokevirtual 77, 3) := by decide +kernel
theorem d_Re_raiseInto_23 : decode b_Re_raiseInto 23 = .ok (.aload_n 3, 1) := by decide +kernel
theorem d_Re_raiseInto_24 : decode b_Re_raiseInto 24 = .ok (.aload_n 0, 1) := by decide +kernel
theorem d_Re_raiseInto_25 : decode b_Re_raiseInto 25 = .ok (.getfield 37, 3) := by decide +kernel
theorem d_Re_raiseInto_28 : decode b_Re_raiseInto 28 = .ok (.invokevirtual 84, 3) := by decide +kernel
theorem d_Re_raiseInto_31 : decode b_Re_raiseInto 31 = .ok (.aload_n 3, 1) := by decide +kernel
theorem d_Re_raiseInto_32 : decode b_Re_raiseInto 32 = .ok (.getfield 102, 3) := by decide +kernel
theorem d_Re_raiseInto_35 : decode b_Re_raiseInto 35 = .ok (.bipush 8, 2) := by decide +kernel
theorem d_Re_raiseInto_37 : decode b_Re_raiseInto 37 = .ok (.if_icmp .le 5, 3) := by decide +kernel
theorem d_Re_raiseInto_40 : decode b_Re_raiseInto 40 = .ok (.iconst 0, 1) := by decide +kernel
theorem d_Re_raiseInto_41 : decode b_Re_raiseInto 41 = .ok (.ireturn, 1) := by decide +kernel
theorem d_Re_raiseInto_42 : decode b_Re_raiseInto 42 = .ok (.iload_n 2, 1) := by decide +kernel
theorem d_Re_raiseInto_43 : decode b_Re_raiseInto 43 = .ok (.iload 4, 2) := by decide +kernel
theorem d_Re_raiseInto_45 : decode b_Re_raiseInto 45 = .ok (.ishr, 1) := by decide +kernel
theorem d_Re_raiseInto_46 : decode b_Re_raiseInto 46 = .ok (.iconst 1, 1) := by decide +kernel
theorem d_Re_raiseInto_47 : decode b_Re_raiseInto 47 = .ok (.iand, 1) := by decide +kernel
theorem d_Re_raiseInto_48 : decode b_Re_raiseInto 48 = .ok (.ifCond .eq 20, 3) := by decide +kernel
theorem d_Re_raiseInto_51 : decode b_Re_raiseInto 51 = .ok (.aload_n 0, 1) := by decide +kernel
theorem d_Re_raiseInto_52 : decode b_Re_raiseInto 52 = .ok (.getfield 37, 3) := by decide +kernel
theorem d_Re_raiseInto_55 : decode b_Re_raiseInto 55 = .ok (.aload_n 3, 1) := by decide +kernel
theorem d_Re_raiseInto_56 : decode b_Re_raiseInto 56 = .ok (.aload_n 1, 1) := by decide +kernel
theorem d_Re_raiseInto_57 : decode b_Re_raiseInto 57 = .ok (.invokevirtual 77, 3) := by decide +kernel
theorem d_Re_raiseInto_60 : decode b_Re_raiseInto 60 = .ok (.aload_n 3, 1) := by decide +kernel
theorem d_Re_raiseInto_61 : decode b_Re_raiseInto 61 = .ok (.aload_n 0, 1) := by decide +kernel
theorem d_Re_raiseInto_62 : decode b_Re_raiseInto 62 = .ok (.getfield 37, 3) := by decide +kernel
theorem d_Re_raiseInto_65 : decode b_Re_raiseInto 65 = .ok (.invokevirtual 84, 3) := by decide +kernel
theorem d_Re_raiseInto_68 : decode b_Re_raiseInto 68 = .ok (.aload_n 3, 1) := by decide +kernel
theorem d_Re_raiseInto_69 : decode b_Re_raiseInto 69 = .ok (.getfield 102, 3) := by decide +kernel
theorem d_Re_raiseInto_72 : decode b_Re_raiseInto 72 = .ok (.bipush 8, 2) := by decide +kernel
theorem d_Re_raiseInto_74 : decode b_Re_raiseInto 74 = .ok (.if_icmp .le 5, 3) := by decide +kernel
theorem d_Re_raiseInto_77 : decode b_Re_raiseInto 77 = .ok (.iconst 0, 1) := by decide +kernel
theorem d_Re_raiseInto_78 : decode b_Re_raiseInto 78 = .ok (.ireturn, 1) := by decide +kernel
theorem d_Re_raiseInto_79 : decode b_Re_raiseInto 79 = .ok (.iinc 4 (-1), 3) := by decide +kernel
theorem d_Re_raiseInto_82 : decode b_Re_raiseInto 82 = .ok (.goto (-73), 3) := by decide +kernel
theorem d_Re_raiseInto_85 : decode b_Re_raiseInto 85 = .ok (.iconst 1, 1) := by decide +kernel
theorem d_Re_raiseInto_86 : decode b_Re_raiseInto 86 = .ok (.ireturn, 1) := by decide +kernel
theorem d_Re_raise_0 : decode b_Re_raise 0 = .ok (.iload_n 2, 1) := by decide +kernel
theorem d_Re_raise_1 : decode b_Re_raise 1 = .ok (.ifCond .ge 8, 3) := by decide +kernel
theorem d_Re_raise_4 : decode b_Re_raise 4 = .ok (.iload_n 2, 1) := by decide +kernel
theorem d_Re_raise_5 : decode b_Re_raise 5 = .ok (.ineg, 1) := by decide +kernel
theorem d_Re_raise_6 : decode b_Re_raise 6 = .ok (.goto 4, 3) := by decide +kernel
theorem d_Re_raise_9 : decode b_Re_raise 9 = .ok (.iload_n 2, 1) := by decide +kernel
theorem d_Re_raise_10 : decode b_Re_raise 10 = .ok (.istore_n 3, 1) := by decide +kernel
theorem d_Re_raise_11 : decode b_Re_raise 11 = .ok (.aload_n 0, 1) := by decide +kernel
theorem d_Re_raise_12 : decode b_Re_raise 12 = .ok (.getfield 14, 3) := by decide +kernel
theorem d_Re_raise_15 : decode b_Re_raise 15 = .ok (.iload_n 3, 1) := by decide +kernel
theorem d_Re_raise_16 : decode b_Re_raise 16 = .ok (.iconst 2, 1) := by decide +kernel
theorem d_Re_raise_17 : decode b_Re_raise 17 = .ok (.irem, 1) := by decide +kernel
theorem d_Re_raise_18 : decode b_Re_raise 18 = .ok (.ifCond .ne 18, 3) := by decide +kernel
theorem d_Re_raise_21 : decode b_Re_raise 21 = .ok (.aload_n 1, 1) := by decide +kernel
theorem d_Re_raise_22 : decode b_Re_raise 22 = .ok (.getfield 55, 3) := by decide +kernel
theorem d_Re_raise_25 : decode b_Re_raise 25 = .ok (.ifCond .ne 7, 3) := by decide +kernel
theorem d_Re_raise_28 : decode b_Re_raise 28 = .ok (.iload_n 3, 1) := by decide +kernel
theorem d_Re_raise_29 : decode b_Re_raise 29 = .ok (.ifCond .ne 7, 3) := by decide +kernel
theorem d_Re_raise_32 : decode b_Re_raise 32 = .ok (.iconst 1, 1) := by decide +kernel
theorem d_Re_raise_33 : decode b_Re_raise 33 = .ok (.goto 7, 3) := by decide +kernel
theorem d_Re_raise_36 : decode b_Re_raise 36 = .ok (.aload_n 1, 1) := by decide +kernel
theorem d_Re_raise_37 : decode b_Re_raise 37 = .ok (.getfield 55, 3) := by decide +kernel
theorem d_Re_raise_40 : decode b_Re_raise 40 = .ok (.putfield 55, 3) := by decide +kernel
theorem d_Re_raise_43 : decode b_Re_raise 43 = .ok (.aload_n 0, 1) := by decide +kernel
theorem d_Re_raise_44 : decode b_Re_raise 44 = .ok (.iload_n 2, 1) := by decide +kernel
theorem d_Re_raise_45 : decode b_Re_raise 45 = .ok (.ifCond .ge 10, 3) := by decide +kernel
theorem d_Re_raise_48 : decode b_Re_raise 48 = .ok (.aload_n 1, 1) := by decide +kernel
theorem d_Re_raise_49 : decode b_Re_raise 49 = .ok (.getfield 74, 3) := by decide +kernel
theorem d_Re_raise_52 : decode b_Re_raise 52 = .ok (.goto 7, 3) := by decide +kernel
theorem d_Re_raise_55 : decode b_Re_raise 55 = .ok (.aload_n 1, 1) := by decide +kernel
theorem d_Re_raise_56 : decode b_Re_raise 56 = .ok (.getfield 67, 3) := by decide +kernel
theorem d_Re_raise_59 : decode b_Re_raise 59 = .ok (.iload_n 3, 1) := by decide +kernel
theorem d_Re_raise_60 : decode b_Re_raise 60 = .ok (.aload_n 0, 1) := by decide +kernel
theorem d_Re_raise_61 : decode b_Re_raise 61 = .ok (.getfield 14, 3) := by decide +kernel
theorem d_Re_raise_64 : decode b_Re_raise 64 = .ok (.getfield 67, 3) := by decide +kernel
theorem d_Re_raise_67 : decode b_Re_raise 67 = .ok (.invokevirtual 98, 3) := by decide +kernel
theorem d_Re_raise_70 : decode b_Re_raise 70 = .ok (.ifCond .eq 37, 3) := by decide +kernel
theorem d_Re_raise_73 : decode b_Re_raise 73 = .ok (.aload_n 0, 1) := by decide +kernel
theorem d_Re_raise_74 : decode b_Re_raise 74 = .ok (.iload_n 2, 1) := by decide +kernel
theorem d_Re_raise_75 : decode b_Re_raise 75 = .ok (.ifCond .ge 10, 3) := by decide +kernel
theorem d_Re_raise_78 : decode b_Re_raise 78 = .ok (.aload_n 1, 1) := by decide +kernel
theorem d_Re_raise_79 : decode b_Re_raise 79 = .ok (.getfield 67, 3) := by decide +kernel
theorem d_Re_raise_82 : decode b_Re_raise 82 = .ok (.goto 7, 3) := by decide +kernel
theorem d_Re_raise_85 : decode b_Re_raise 85 = .ok (.aload_n 1, 1) := by decide +kernel
theorem d_Re_raise_86 : decode b_Re_raise 86 = .ok (.getfield 74, 3) := by decide +kernel
theorem d_Re_raise_89 : decode b_Re_raise 89 = .ok (.iload_n 3, 1) := by decide +kernel
theorem d_Re_raise_90 : decode b_Re_raise 90 = .ok (.aload_n 0, 1) := by decide +kernel
theorem d_Re_raise_91 : decode b_Re_raise 91 = .ok (.getfield 14, 3) := by decide +kernel
theorem d_Re_raise_94 : decode b_Re_raise 94 = .ok (.getfield 74, 3) := by decide +kernel
theorem d_Re_raise_97 : decode b_Re_raise 97 = .ok (.invokevirtual 98, 3) := by decide +kernel
theorem d_Re_raise_100 : decode b_Re_raise 100 = .ok (.ifCond .eq 7, 3) := by decide +kernel
theorem d_Re_raise_103 : decode b_Re_raise 103 = .ok (.iconst 1, 1) := by decide +kernel
theorem d_Re_raise_104 : decode b_Re_raise 104 = .ok (.goto 4, 3) := by decide +kernel
theorem d_Re_raise_107 : decode b_Re_raise 107 = .ok (.iconst 0, 1) := by decide +kernel
theorem d_Re_raise_108 : decode b_Re_raise 108 = .ok (.ireturn, 1) := by decide +kernel
theorem c_Re_raiseInto (l : Launch) {g : Gh} (nx : Nat) {R r p Np x k : Nat} {sg : Int32} {v : Nat → Nat} (hV : RV g R sg v) (hr : r = 2 ∨ r = 4) (hp : NA g p Np x) (hpo : p + 2 ≤ R ∨ R + 25 ≤ p) (hx : x < 4294967296 ^ 8) (hk : k ≤ 500) : Ct l m_Re_raiseInto 0 0 [.ref R, .ref p, .int (nI k), .ref (R + r)] g nx (fun w g' nx' => nx = nx' ∧ gW g g' R (R + 25) ∧ ∃ v', RV g' R sg v' ∧ (∀ j, j ≠ r → j ≠ 17 → v' j = v j) ∧ (x ^ k < 4294967296 ^ 8 ∧ w = some (.int 1) ∧ v' r = x ^ k ∨ 4294967296 ^ 8 ≤ x ^ k ∧ w = some (.int 0))) := by
  have hrk : r ∈ kL := by rcases hr with z | z <;> subst z <;> decide
  have hr4 : r ≤ 4 := by omega
  have hr2 : 2 ≤ r := by omega
  obtain ⟨_, _, Kr, -⟩ := id (hV.2.2.2 r hrk)
  have Kr1 := Kr.1
  have B1 : (1 : Nat) < 4294967296 ^ 8 := by decide
  refine Ct.of (by decide) (Nat.le_of_ble_eq_true rfl) (fun E hE hQ => ?_)
  refine z_aload_n hE d_Re_raiseInto_0 rfl ?_
  refine z_lconst (v := lN 1) hE d_Re_raiseInto_1 (by decide) ?_
  refine z_callV hE d_Re_raiseInto_2 cl_Re_59 (c_Na_becomeLong l nx Kr 1 (by decide)) (by assumption) cb_Na rfl (Nat.le_of_ble_eq_true rfl) ⟨by decide, by decide⟩ ⟨by omega, by omega⟩ (fun r_1 g_1 nx_1 hp_1 => ?_) rfl
  try dsimp only [Option.toList, List.nil_append, List.cons_append]
  obtain ⟨rfl, rfl, hA1, hO1⟩ := hp_1
  try dsimp only [Option.toList, List.nil_append, List.cons_append]
  have V1 := RV_O hV hrk hA1 hO1
  have w1 : gW g g_1 R (R + 25) := gW_O hO1 (by omega) (by omega)
  have loop : ∀ (b : Nat) (gL : Gh) (vL : Nat → Nat) (z : Int32), b ≤ 9 → z.toInt = (b : Int) - 1 → RV gL R sg vL → gW g gL R (R + 25) → (∀ j, j ≠ r → j ≠ 17 → vL j = v j) → vL r = x ^ (k / 2 ^ b) → vL r < 4294967296 ^ 8 → ∀ lv, lG lv 0 = some (.ref R) → lG lv 1 = some (.ref p) → lG lv 2 = some (.int (nI k)) → lG lv 3 = some (.ref (R + r)) → lG lv 4 = some (.int z) → zJ E gL nx 0 0 9 lv [] := by
    intro b
    induction b with
    | zero =>
      intro gL vL z hb hz VL wL eo er hlt lv l0 l1 l2 l3 l4
      refine z_sub (lv' := [(4, .int z)]) (by simp only [List.map, l4]) ?_
      rw [Nat.pow_zero, Nat.div_one] at er
      refine z_iload hE d_Re_raiseInto_9 rfl ?_
      refine z_if_lt (tgt := 85) hE d_Re_raiseInto_11 (by decide) (fun c_11 => ?_) (fun c_11 => ?_)
      · refine z_iconst (v := 1) hE d_Re_raiseInto_85 (by decide) ?_
        exact z_zret hE hQ d_Re_raiseInto_86 rfl (Nat.le_refl _) (Nat.le_refl _) (Or.inr rfl) ⟨rfl, wL, vL, VL, eo, Or.inl ⟨by rw [← er]; exact hlt, rfl, er⟩⟩
      · exact absurd (i_lt0.mpr (by omega)) c_11
    | succ b ih =>
      intro gL vL z hb hz VL wL eo er hlt lv l0 l1 l2 l3 l4
      refine z_sub (lv' := [(0, .ref R), (1, .ref p), (2, .int (nI k)), (3, .ref (R + r)), (4, .int z)]) (by simp only [List.map, l0, l1, l2, l3, l4]) ?_
      have hzb : z = nI b := by rw [← Int32.toInt_inj, nI_ti (by omega)]; omega
      subst hzb
      obtain ⟨e, he⟩ : ∃ e, k / 2 ^ (b + 1) = e := ⟨_, rfl⟩
      have hke : k / 2 ^ b = 2 * e + k / 2 ^ b % 2 := by
        rw [← he, Nat.pow_succ, ← Nat.div_div_eq_div_mul]; omega
      have hkb : k / 2 ^ b ≤ k := Nat.div_le_self _ _
      rw [he] at er
      have m1 := VL.1
      unfold RE at m1
      obtain ⟨_, _, K17, -⟩ := id (VL.2.2.2 17 (by decide))
      have K171 := K17.1
      have nr := VL.2.2.2 r hrk
      refine z_iload hE d_Re_raiseInto_9 rfl ?_
      refine z_if_lt (tgt := 85) hE d_Re_raiseInto_11 (by decide) (fun c_11 => ?_) (fun c_11 => ?_)
      · exact absurd (i_lt0.mp c_11) (by rw [nI_ti (by omega)]; omega)
      · refine z_aload_n hE d_Re_raiseInto_14 rfl ?_
        refine z_get hE d_Re_raiseInto_15 fl_Re_37 (by assumption) rfl ?_
        refine z_aload_n hE d_Re_raiseInto_18 rfl ?_
        refine z_aload_n hE d_Re_raiseInto_19 rfl ?_
        refine z_callV hE d_Re_raiseInto_20 cl_Re_77 (c_Na_becomeProduct l nx (p := 8) (q := 8) K17 nr nr (by omega) (by omega) hlt hlt (by decide)) (by assumption) cb_Na rfl (Nat.le_of_ble_eq_true rfl) ⟨by decide, by decide⟩ ⟨by omega, by omega⟩ (fun r_2 g_2 nx_2 hp_2 => ?_) rfl
        try dsimp only [Option.toList, List.nil_append, List.cons_append]
        obtain ⟨rfl, rfl, hA2, hO2⟩ := hp_2
        try dsimp only [Option.toList, List.nil_append, List.cons_append]
        have V2 := RV_O VL (by decide) hA2 hO2
        have w2 : gW g g_2 R (R + 25) := gW_t wL (gW_O hO2 (by omega) (by omega))
        have sq : vL r * vL r = x ^ (2 * e) := by rw [er, ← Nat.pow_add]; congr 1; omega
        have sqb : vL r * vL r < 4294967296 ^ 20 := by
          have y1 := Nat.mul_le_mul (Nat.le_of_lt hlt) (Nat.le_of_lt hlt)
          rw [← Nat.pow_add] at y1
          have y2 := Nat.pow_lt_pow_right (a := 4294967296) (by decide) (show 8 + 8 < 20 by decide)
          omega
        have m1 := V2.1
        unfold RE at m1
        obtain ⟨_, _, Kr, -⟩ := id (V2.2.2.2 r hrk)
        have Kr1 := Kr.1
        refine z_aload_n hE d_Re_raiseInto_23 rfl ?_
        refine z_aload_n hE d_Re_raiseInto_24 rfl ?_
        refine z_get hE d_Re_raiseInto_25 fl_Re_37 (by assumption) rfl ?_
        refine z_callV hE d_Re_raiseInto_28 cl_Re_84 (c_Na_become l nx Kr hA2 (by omega) sqb) (by assumption) cb_Na rfl (Nat.le_of_ble_eq_true rfl) ⟨by decide, by decide⟩ ⟨by omega, by omega⟩ (fun r_3 g_3 nx_3 hp_3 => ?_) rfl
        try dsimp only [Option.toList, List.nil_append, List.cons_append]
        obtain ⟨rfl, rfl, hA3, hO3⟩ := hp_3
        try dsimp only [Option.toList, List.nil_append, List.cons_append]
        have V3 := RV_O V2 hrk hA3 hO3
        have w3 : gW g g_3 R (R + 25) := gW_t w2 (gW_O hO3 (by omega) (by omega))
        have eo3 : ∀ j, j ≠ r → j ≠ 17 → upN (upN vL 17 (vL r * vL r)) r (vL r * vL r) j = v j := fun j q1 q2 => by rw [upN_n q1, upN_n q2]; exact eo j q1 q2
        obtain ⟨n3, d3, R3, hv3, hn3⟩ := id hA3
        have R31 := R3.1
        have i3 := norm_len (k := 8) R3.2.2.2.2 hn3
        rw [hv3] at i3
        have j3 := Nat.le_trans R3.2.2.1 R3.2.2.2.1
        -- from 68 on, with a heap and what the result is
        have tail : ∀ (gT : Gh) (vT : Nat → Nat) (y : Nat) lv, RV gT R sg vT → gW g gT R (R + 25) → (∀ j, j ≠ r → j ≠ 17 → vT j = v j) → vT r = x ^ (k / 2 ^ b) → lG lv 0 = some (.ref R) → lG lv 1 = some (.ref p) → lG lv 2 = some (.int (nI k)) → lG lv 3 = some (.ref (R + r)) → lG lv 4 = some (.int (nI b)) → zJ E gT nx 0 0 68 lv [] := by
          intro gT vT y lv VT wT eT erT l0 l1 l2 l3 l4
          refine z_sub (lv' := [(0, .ref R), (1, .ref p), (2, .int (nI k)), (3, .ref (R + r)), (4, .int (nI b))]) (by simp only [List.map, l0, l1, l2, l3, l4]) ?_
          obtain ⟨nT, dT, RT, hvT, hnT⟩ := id (VT.2.2.2 r hrk)
          have RT1 := RT.1
          have iT := norm_len (k := 8) RT.2.2.2.2 hnT
          rw [hvT] at iT
          have jT := Nat.le_trans RT.2.2.1 RT.2.2.2.1
          refine z_aload_n hE d_Re_raiseInto_68 rfl ?_
          refine z_getN hE d_Re_raiseInto_69 fl_Re_102 (by assumption) rfl ?_
          refine z_bipush (v := nI 8) hE d_Re_raiseInto_72 (by decide) ?_
          refine z_icmp_le (tgt := 79) hE d_Re_raiseInto_74 (by decide) (fun c_74 => ?_) (fun c_74 => ?_)
          · rw [nI_LE (by omega) (by omega)] at c_74
            refine z_iinc (v := nI b + (-1)) hE d_Re_raiseInto_79 rfl (rfl) (by decide) ?_
            refine z_goto (tgt := 9) hE d_Re_raiseInto_82 (by decide) ?_
            refine ih gT vT _ (by omega) ?_ VT wT eT erT (iT.mpr c_74) _ rfl rfl rfl rfl rfl
            cases b with
            | zero => rfl
            | succ b => rw [pk_m1, nI_ti (by omega)]; omega
          · rw [nI_LE (by omega) (by omega)] at c_74
            refine z_iconst (v := 0) hE d_Re_raiseInto_77 (by decide) ?_
            refine z_zret hE hQ d_Re_raiseInto_78 rfl (Nat.le_refl _) (Nat.le_refl _) (Or.inl rfl) ⟨rfl, wT, vT, VT, eT, Or.inr ⟨?_, rfl⟩⟩
            refine pow_big (a := k / 2 ^ b) ?_ B1 hkb
            rw [← erT]
            rcases Nat.lt_or_ge (vT r) (4294967296 ^ 8) with q | q
            · exact absurd (iT.mp q) c_74
            · exact q
        refine z_aload_n hE d_Re_raiseInto_31 rfl ?_
        refine z_getN hE d_Re_raiseInto_32 fl_Re_102 (by assumption) rfl ?_
        refine z_bipush (v := nI 8) hE d_Re_raiseInto_35 (by decide) ?_
        refine z_icmp_le (tgt := 42) hE d_Re_raiseInto_37 (by decide) (fun c_37 => ?_) (fun c_37 => ?_)
        · rw [nI_LE (by omega) (by omega)] at c_37
          refine z_iload_n hE d_Re_raiseInto_42 rfl ?_
          refine z_iload hE d_Re_raiseInto_43 rfl ?_
          refine z_ishr (v := nI (k / 2 ^ b)) hE d_Re_raiseInto_45 (shr_n (by omega) (by omega)) ?_
          refine z_iconst (v := 1) hE d_Re_raiseInto_46 (by decide) ?_
          refine z_iand (v := nI (k / 2 ^ b % 2)) hE d_Re_raiseInto_47 (and1_n _) ?_
          refine z_if_eq (tgt := 68) hE d_Re_raiseInto_48 (by decide) (fun c_48 => ?_) (fun c_48 => ?_)
          · have hbit : k / 2 ^ b % 2 = 0 := (nI_EQ (b := 0) (by omega) (by omega)).mp c_48
            refine tail g_3 _ 0 _ V3 w3 eo3 ?_ rfl rfl rfl rfl rfl
            rw [upN_s, sq]; congr 1; omega
          · have hbit : k / 2 ^ b % 2 = 1 := by
              rcases (show k / 2 ^ b % 2 = 0 ∨ k / 2 ^ b % 2 = 1 by omega) with q | q
              · rw [q] at c_48; exact absurd rfl c_48
              · exact q
            have p3 := NA_W hp w3 (by omega)
            have m1 := V3.1
            unfold RE at m1
            obtain ⟨_, _, K17, -⟩ := id (V3.2.2.2 17 (by decide))
            have K171 := K17.1
            refine z_aload_n hE d_Re_raiseInto_51 rfl ?_
            refine z_get hE d_Re_raiseInto_52 fl_Re_37 (by assumption) rfl ?_
            refine z_aload_n hE d_Re_raiseInto_55 rfl ?_
            refine z_aload_n hE d_Re_raiseInto_56 rfl ?_
            refine z_callV hE d_Re_raiseInto_57 cl_Re_77 (c_Na_becomeProduct l nx (p := 8) (q := 8) K17 hA3 p3 (by omega) (by omega) (i3.mpr c_37) hx (by decide)) (by assumption) cb_Na rfl (Nat.le_of_ble_eq_true rfl) ⟨by decide, by decide⟩ ⟨by omega, by omega⟩ (fun r_4 g_4 nx_4 hp_4 => ?_) rfl
            try dsimp only [Option.toList, List.nil_append, List.cons_append]
            obtain ⟨rfl, rfl, hA4, hO4⟩ := hp_4
            try dsimp only [Option.toList, List.nil_append, List.cons_append]
            have V4 := RV_O V3 (by decide) hA4 hO4
            have w4 : gW g g_4 R (R + 25) := gW_t w3 (gW_O hO4 (by omega) (by omega))
            have pb : vL r * vL r * x < 4294967296 ^ 20 := by
              have y1 := Nat.mul_le_mul (Nat.le_of_lt (i3.mpr c_37)) (Nat.le_of_lt hx)
              rw [← Nat.pow_add] at y1
              have y2 := Nat.pow_lt_pow_right (a := 4294967296) (by decide) (show 8 + 8 < 20 by decide)
              omega
            have m1 := V4.1
            unfold RE at m1
            obtain ⟨_, _, Kr, -⟩ := id (V4.2.2.2 r hrk)
            have Kr1 := Kr.1
            refine z_aload_n hE d_Re_raiseInto_60 rfl ?_
            refine z_aload_n hE d_Re_raiseInto_61 rfl ?_
            refine z_get hE d_Re_raiseInto_62 fl_Re_37 (by assumption) rfl ?_
            refine z_callV hE d_Re_raiseInto_65 cl_Re_84 (c_Na_become l nx Kr hA4 (by omega) pb) (by assumption) cb_Na rfl (Nat.le_of_ble_eq_true rfl) ⟨by decide, by decide⟩ ⟨by omega, by omega⟩ (fun r_5 g_5 nx_5 hp_5 => ?_) rfl
            try dsimp only [Option.toList, List.nil_append, List.cons_append]
            obtain ⟨rfl, rfl, hA5, hO5⟩ := hp_5
            try dsimp only [Option.toList, List.nil_append, List.cons_append]
            have V5 := RV_O V4 hrk hA5 hO5
            refine tail g_5 _ 0 _ V5 (gW_t w4 (gW_O hO5 (by omega) (by omega))) (fun j q1 q2 => by rw [upN_n q1, upN_n q2]; exact eo3 j q1 q2) ?_ rfl rfl rfl rfl rfl
            rw [upN_s, sq, ← Nat.pow_succ]; congr 1; omega
        · rw [nI_LE (by omega) (by omega)] at c_37
          refine z_iconst (v := 0) hE d_Re_raiseInto_40 (by decide) ?_
          refine z_zret hE hQ d_Re_raiseInto_41 rfl (Nat.le_refl _) (Nat.le_refl _) (Or.inl rfl) ⟨rfl, w3, _, V3, eo3, Or.inr ⟨?_, rfl⟩⟩
          refine pow_big (a := 2 * e) ?_ B1 (by omega)
          rw [← sq]
          rcases Nat.lt_or_ge (vL r * vL r) (4294967296 ^ 8) with q | q
          · exact absurd (i3.mp q) c_37
          · exact q
  refine z_bipush (v := nI 8) hE d_Re_raiseInto_5 (by decide) ?_
  refine z_istore hE d_Re_raiseInto_7 (by decide) ?_
  refine loop 9 g_1 _ _ (by omega) (by decide) V1 w1 (fun j q1 q2 => upN_n q1) ?_ (by rw [upN_s]; exact B1) _ rfl rfl rfl rfl rfl
  rw [upN_s, Nat.div_eq_of_lt (show k < 2 ^ 9 by omega), Nat.pow_zero]

