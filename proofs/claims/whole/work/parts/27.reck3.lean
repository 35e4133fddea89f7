/-! Reckoner: signed sums, of longs, common whole -/
def isS (s : Int32) (n : Nat) : Prop := (s = 0 ∧ n = 0) ∨ (s = 1 ∧ 0 < n) ∨ (s = -1 ∧ 0 < n)
def sv (s : Int32) (n : Nat) : Int := s.toInt * n
def sgI (t : Int) : Int32 := if t < 0 then -1 else if t = 0 then 0 else 1
theorem sv_0 (n : Nat) : sv 0 n = 0 := by show (0 : Int) * n = 0; omega
theorem sv_1 (n : Nat) : sv 1 n = n := by show (1 : Int) * n = n; omega
theorem sv_m (n : Nat) : sv (-1) n = -n := by show (-1 : Int) * n = -n; omega
theorem sgI_p {t : Int} (h : 0 < t) : sgI t = 1 := by unfold sgI; rw [if_neg (by omega), if_neg (by omega)]
theorem sgI_n {t : Int} (h : t < 0) : sgI t = -1 := if_pos h
theorem sgI_0 : sgI 0 = 0 := rfl
theorem isS_t (t : Int) : isS (sgI t) t.natAbs := by
  unfold isS
  rcases Int.lt_trichotomy t 0 with h | h | h
  · right; right; exact ⟨sgI_n h, by omega⟩
  · left; subst h; exact ⟨rfl, rfl⟩
  · right; left; exact ⟨sgI_p h, by omega⟩
theorem d_Re_addSigned_0 : decode b_Re_addSigned 0 = .ok (.iload_n 1, 1) := by decide +kernel
theorem d_Re_addSigned_1 : decode b_Re_addSigned 1 = .ok (.iload_n 2, 1) := by decide +kernel
theorem d_Re_addSigned_2 : decode b_Re_addSigned 2 = .ok (.imul, 1) := by decide +kernel
theorem d_Re_addSigned_3 : decode b_Re_addSigned 3 = .ok (.ifCond .lt 24, 3) := by decide +kernel
theorem d_Re_addSigned_6 : decode b_Re_addSigned 6 = .ok (.aload_n 0, 1) := by decide +kernel
theorem d_Re_addSigned_7 : decode b_Re_addSigned 7 = .ok (.getfield 37, 3) := by decide +kernel
theorem d_Re_addSigned_10 : decode b_Re_addSigned 10 = .ok (.aload_n 0, 1) := by decide +kernel
theorem d_Re_addSigned_11 : decode b_Re_addSigned 11 = .ok (.getfield 40, 3) := by decide +kernel
theorem d_Re_addSigned_14 : decode b_Re_addSigned 14 = .ok (.invokevirtual 88, 3) := by decide +kernel
theorem d_Re_addSigned_17 : decode b_Re_addSigned 17 = .ok (.iload_n 1, 1) := by decide +kernel
theorem d_Re_addSigned_18 : decode b_Re_addSigned 18 = .ok (.ifCond .eq 7, 3) := by decide +kernel
theorem d_Re_addSigned_21 : decode b_Re_addSigned 21 = .ok (.iload_n 1, 1) := by decide +kernel
theorem d_Re_addSigned_22 : decode b_Re_addSigned 22 = .ok (.goto 4, 3) := by decide +kernel
theorem d_Re_addSigned_25 : decode b_Re_addSigned 25 = .ok (.iload_n 2, 1) := by decide +kernel
theorem d_Re_addSigned_26 : decode b_Re_addSigned 26 = .ok (.ireturn, 1) := by decide +kernel
theorem d_Re_addSigned_27 : decode b_Re_addSigned 27 = .ok (.aload_n 0, 1) := by decide +kernel
theorem d_Re_addSigned_28 : decode b_Re_addSigned 28 = .ok (.getfield 37, 3) := by decide +kernel
theorem d_Re_addSigned_31 : decode b_Re_addSigned 31 = .ok (.aload_n 0, 1) := by decide +kernel
theorem d_Re_addSigned_32 : decode b_Re_addSigned 32 = .ok (.getfield 40, 3) := by decide +kernel
theorem d_Re_addSigned_35 : decode b_Re_addSigned 35 = .ok (.invokevirtual 91, 3) := by decide +kernel
theorem d_Re_addSigned_38 : decode b_Re_addSigned 38 = .ok (.istore_n 3, 1) := by decide +kernel
theorem d_Re_addSigned_39 : decode b_Re_addSigned 39 = .ok (.iload_n 3, 1) := by decide +kernel
theorem d_Re_addSigned_40 : decode b_Re_addSigned 40 = .ok (.ifCond .lt 24, 3) := by decide +kernel
theorem d_Re_addSigned_43 : decode b_Re_addSigned 43 = .ok (.aload_n 0, 1) := by decide +kernel
theorem d_Re_addSigned_44 : decode b_Re_addSigned 44 = .ok (.getfield 37, 3) := by decide +kernel
theorem d_Re_addSigned_47 : decode b_Re_addSigned 47 = .ok (.aload_n 0, 1) := by decide +kernel
theorem d_Re_addSigned_48 : decode b_Re_addSigned 48 = .ok (.getfield 40, 3) := by decide +kernel
theorem d_Re_addSigned_51 : decode b_Re_addSigned 51 = .ok (.invokevirtual 95, 3) := by decide +kernel
theorem d_Re_addSigned_54 : decode b_Re_addSigned 54 = .ok (.iload_n 3, 1) := by decide +kernel
theorem d_Re_addSigned_55 : decode b_Re_addSigned 55 = .ok (.ifCond .ne 7, 3) := by decide +kernel
theorem d_Re_addSigned_58 : decode b_Re_addSigned 58 = .ok (.iconst 0, 1) := by decide +kernel
theorem d_Re_addSigned_59 : decode b_Re_addSigned 59 = .ok (.goto 4, 3) := by decide +kernel
theorem d_Re_addSigned_62 : decode b_Re_addSigned 62 = .ok (.iload_n 1, 1) := by decide +kernel
theorem d_Re_addSigned_63 : decode b_Re_addSigned 63 = .ok (.ireturn, 1) := by decide +kernel
theorem d_Re_addSigned_64 : decode b_Re_addSigned 64 = .ok (.aload_n 0, 1) := by decide +kernel
theorem d_Re_addSigned_65 : decode b_Re_addSigned 65 = .ok (.getfield 40, 3) := by decide +kernel
theorem d_Re_addSigned_68 : decode b_Re_addSigned 68 = .ok (.aload_n 0, 1) := by decide +kernel
theorem d_Re_addSigned_69 : decode b_Re_addSigned 69 = .ok (.getfield 37, 3) := by decide +kernel
theorem d_Re_addSigned_72 : decode b_Re_addSigned 72 = .ok (.invokevirtual 95, 3) := by decide +kernel
theorem d_Re_addSigned_75 : decode b_Re_addSigned 75 = .ok (.aload_n 0, 1) := by decide +kernel
theorem d_Re_addSigned_76 : decode b_Re_addSigned 76 = .ok (.getfield 37, 3) := by decide +kernel
theorem d_Re_addSigned_79 : decode b_Re_addSigned 79 = .ok (.aload_n 0, 1) := by decide +kernel
theorem d_Re_addSigned_80 : decode b_Re_addSigned 80 = .ok (.getfield 40, 3) := by decide +kernel
theorem d_Re_addSigned_83 : decode b_Re_addSigned 83 = .ok (.invokevirtual 84, 3) := by decide +kernel
theorem d_Re_addSigned_86 : decode b_Re_addSigned 86 = .ok (.iload_n 2, 1) := by decide +kernel
theorem d_Re_addSigned_87 : decode b_Re_addSigned 87 = .ok (.ireturn, 1) := by decide +kernel
theorem d_Re_findCommonWhole_0 : decode b_Re_findCommonWhole 0 = .ok (.aload_n 0, 1) := by decide +kernel
theorem d_Re_findCommonWhole_1 : decode b_Re_findCommonWhole 1 = .ok (.aload_n 1, 1) := by decide +kernel
theorem d_Re_findCommonWhole_2 : decode b_Re_findCommonWhole 2 = .ok (.getfield 67, 3) := by decide +kernel
theorem d_Re_findCommonWhole_5 : decode b_Re_findCommonWhole 5 = .ok (.aload_n 2, 1) := by decide +kernel
theorem d_Re_findCommonWhole_6 : decode b_Re_findCommonWhole 6 = .ok (.getfield 67, 3) := by decide +kernel
theorem d_Re_findCommonWhole_9 : decode b_Re_findCommonWhole 9 = .ok (.invokevirtual 63, 3) := by decide +kernel
theorem d_Re_findCommonWhole_12 : decode b_Re_findCommonWhole 12 = .ok (.aload_n 0, 1) := by decide +kernel
theorem d_Re_findCommonWhole_13 : decode b_Re_findCommonWhole 13 = .ok (.getfield 14, 3) := by decide +kernel
theorem d_Re_findCommonWhole_16 : decode b_Re_findCommonWhole 16 = .ok (.getfield 67, 3) := by decide +kernel
theorem d_Re_findCommonWhole_19 : decode b_Re_findCommonWhole 19 = .ok (.aload_n 0, 1) := by decide +kernel
theorem d_Re_findCommonWhole_20 : decode b_Re_findCommonWhole 20 = .ok (.getfield 30, 3) := by decide +kernel
theorem d_Re_findCommonWhole_23 : decode b_Re_findCommonWhole 23 = .ok (.invokevirtual 84, 3) := by decide +kernel
theorem d_Re_findCommonWhole_26 : decode b_Re_findCommonWhole 26 = .ok (.aload_n 0, 1) := by decide +kernel
theorem d_Re_findCommonWhole_27 : decode b_Re_findCommonWhole 27 = .ok (.getfield 14, 3) := by decide +kernel
theorem d_Re_findCommonWhole_30 : decode b_Re_findCommonWhole 30 = .ok (.getfield 74, 3) := by decide +kernel
theorem d_Re_findCommonWhole_33 : decode b_Re_findCommonWhole 33 = .ok (.lconst 1, 1) := by decide +kernel
theorem d_Re_findCommonWhole_34 : decode b_Re_findCommonWhole 34 = .ok (.invokevirtual 59, 3) := by decide +kernel
theorem d_Re_findCommonWhole_37 : decode b_Re_findCommonWhole 37 = .ok (.aload_n 0, 1) := by decide +kernel
theorem d_Re_findCommonWhole_38 : decode b_Re_findCommonWhole 38 = .ok (.getfield 14, 3) := by decide +kernel
theorem d_Re_findCommonWhole_41 : decode b_Re_findCommonWhole 41 = .ok (.aload_n 0, 1) := by decide +kernel
theorem d_Re_findCommonWhole_42 : decode b_Re_findCommonWhole 42 = .ok (.getfield 30, 3) := by decide +kernel
theorem d_Re_findCommonWhole_45 : decode b_Re_findCommonWhole 45 = .ok (.invokevirtual 119, 3) := by decide +kernel
theorem d_Re_findCommonWhole_48 : decode b_Re_findCommonWhole 48 = .ok (.ifCond .eq 7, 3) := by decide +kernel
theorem d_Re_findCommonWhole_51 : decode b_Re_findCommonWhole 51 = .ok (.iconst 0, 1) := by decide +kernel
theorem d_Re_findCommonWhole_52 : decode b_Re_findCommonWhole 52 = .ok (.goto 4, 3) := by decide +kernel
theorem d_Re_findCommonWhole_55 : decode b_Re_findCommonWhole 55 = .ok (.iconst 1, 1) := by decide +kernel
theorem d_Re_findCommonWhole_56 : decode b_Re_findCommonWhole 56 = .ok (.putfield 55, 3) := by decide +kernel
theorem d_Re_findCommonWhole_59 : decode b_Re_findCommonWhole 59 = .ok (.return_, 1) := by decide +kernel
theorem c_Re_addSigned (l : Launch) {g : Gh} (nx : Nat) {R : Nat} {sg sa sb : Int32} {v : Nat → Nat} (hV : RV g R sg v) (ha : isS sa (v 17)) (hb : isS sb (v 19)) (b1 : v 17 < 4294967296 ^ 19) (b2 : v 19 < 4294967296 ^ 19) : Ct l m_Re_addSigned 0 0 [.ref R, .int sa, .int sb] g nx (fun r g' nx' => r = some (.int (sgI (sv sa (v 17) + sv sb (v 19)))) ∧ nx = nx' ∧ gW g g' (R + 17) (R + 21) ∧ ∃ v', RV g' R sg v' ∧ v' 17 = (sv sa (v 17) + sv sb (v 19)).natAbs ∧ ∀ j, j < 17 ∨ 21 ≤ j → v' j = v j) := by
  have r1 := hV.1
  unfold RE at r1
  have n17 := hV.2.2.2 17 (by decide)
  have n19 := hV.2.2.2 19 (by decide)
  obtain ⟨_, _, R17, -⟩ := id n17
  obtain ⟨_, _, R19, -⟩ := id n19
  have R171 := R17.1
  have R191 := R19.1
  have p20 := pw_ge (show 19 ≤ 20 by decide)
  refine Ct.of (by decide) (Nat.le_of_ble_eq_true rfl) (fun E hE hQ => ?_)
  -- a sum
  have plus : ∀ lv, lG lv 0 = some (.ref R) → lG lv 1 = some (.int sa) → lG lv 2 = some (.int sb) → (if ¬ sa = 0 then sa else sb) = sgI (sv sa (v 17) + sv sb (v 19)) → v 17 + v 19 = (sv sa (v 17) + sv sb (v 19)).natAbs → zJ E g nx 0 0 6 lv [] := by
    intro lv l0 l1 l2 e1 e2
    refine z_sub (lv' := [(0, .ref R), (1, .int sa), (2, .int sb)]) (by simp only [List.map, l0, l1, l2]) ?_
    refine z_aload_n hE d_Re_addSigned_6 rfl ?_
    refine z_get hE d_Re_addSigned_7 fl_Re_37 (by assumption) rfl ?_
    refine z_aload_n hE d_Re_addSigned_10 rfl ?_
    refine z_get hE d_Re_addSigned_11 fl_Re_40 (by assumption) rfl ?_
    refine z_callV hE d_Re_addSigned_14 cl_Re_88 (c_Na_add l nx n17 n19 (by omega) b1 b2) (by assumption) cb_Na rfl (Nat.le_of_ble_eq_true rfl) ⟨by decide, by decide⟩ ⟨by omega, by omega⟩ (fun r_1 g_1 nx_1 hp_1 => ?_) rfl
    try dsimp only [Option.toList, List.nil_append, List.cons_append]
    obtain ⟨rfl, rfl, hA, hO⟩ := hp_1
    try dsimp only [Option.toList, List.nil_append, List.cons_append]
    have V1 := RV_O hV (by decide) hA hO
    have w1 : gW g g_1 (R + 17) (R + 21) := gW_O hO (by omega) (by omega)
    refine z_iload_n hE d_Re_addSigned_17 rfl ?_
    refine z_if_eq (tgt := 25) hE d_Re_addSigned_18 (by decide) (fun c_18 => ?_) (fun c_18 => ?_)
    · refine z_iload_n hE d_Re_addSigned_25 rfl ?_
      rw [if_neg (fun q => q c_18)] at e1
      refine z_iret hE hQ d_Re_addSigned_26 rfl (Nat.le_refl _) (Nat.le_refl _) ⟨by rw [← e1], rfl, w1, _, V1, by rw [upN_s]; exact e2, fun j hj => upN_n (by omega)⟩
    · refine z_iload_n hE d_Re_addSigned_21 rfl ?_
      refine z_goto (tgt := 26) hE d_Re_addSigned_22 (by decide) ?_
      rw [if_pos c_18] at e1
      refine z_iret hE hQ d_Re_addSigned_26 rfl (Nat.le_refl _) (Nat.le_refl _) ⟨by rw [← e1], rfl, w1, _, V1, by rw [upN_s]; exact e2, fun j hj => upN_n (by omega)⟩
  -- a difference
  have minus : ∀ lv, lG lv 0 = some (.ref R) → lG lv 1 = some (.int sa) → lG lv 2 = some (.int sb) → (sv sa (v 17) + sv sb (v 19) = (v 17 : Int) - (v 19 : Int) ∧ sa = 1 ∧ sb = -1 ∨ sv sa (v 17) + sv sb (v 19) = (v 19 : Int) - (v 17 : Int) ∧ sa = -1 ∧ sb = 1) → zJ E g nx 0 0 27 lv [] := by
    intro lv l0 l1 l2 e1
    refine z_sub (lv' := [(0, .ref R), (1, .int sa), (2, .int sb)]) (by simp only [List.map, l0, l1, l2]) ?_
    refine z_aload_n hE d_Re_addSigned_27 rfl ?_
    refine z_get hE d_Re_addSigned_28 fl_Re_37 (by assumption) rfl ?_
    refine z_aload_n hE d_Re_addSigned_31 rfl ?_
    refine z_get hE d_Re_addSigned_32 fl_Re_40 (by assumption) rfl ?_
    refine z_callV hE d_Re_addSigned_35 cl_Re_91 (c_Na_compareWith l nx n17 n19) (by assumption) cb_Na rfl (Nat.le_of_ble_eq_true rfl) ⟨by decide, by decide⟩ ⟨by omega, by omega⟩ (fun r_35 g_35 nx_35 hp_35 => ?_) rfl
    obtain ⟨rfl, rfl, rfl⟩ := hp_35
    try dsimp only [Option.toList, List.nil_append, List.cons_append]
    refine z_istore_n hE d_Re_addSigned_38 rfl (by decide) ?_
    refine z_iload_n hE d_Re_addSigned_39 rfl ?_
    refine z_if_lt (tgt := 64) hE d_Re_addSigned_40 (by decide) (fun c_40 => ?_) (fun c_40 => ?_)
    · have hlt : v 17 < v 19 := by
        rcases Nat.lt_trichotomy (v 17) (v 19) with z | z | z
        · exact z
        · rw [cmpN_eq z] at c_40; exact absurd c_40 (by decide)
        · rw [cmpN_gt z] at c_40; exact absurd c_40 (by decide)
      refine z_aload_n hE d_Re_addSigned_64 rfl ?_
      refine z_get hE d_Re_addSigned_65 fl_Re_40 (by assumption) rfl ?_
      refine z_aload_n hE d_Re_addSigned_68 rfl ?_
      refine z_get hE d_Re_addSigned_69 fl_Re_37 (by assumption) rfl ?_
      refine z_callV hE d_Re_addSigned_72 cl_Re_95 (c_Na_subtract l nx n19 n17 (by omega) (by omega)) (by assumption) cb_Na rfl (Nat.le_of_ble_eq_true rfl) ⟨by decide, by decide⟩ ⟨by omega, by omega⟩ (fun r_1 g_1 nx_1 hp_1 => ?_) rfl
      try dsimp only [Option.toList, List.nil_append, List.cons_append]
      obtain ⟨rfl, rfl, hA, hO⟩ := hp_1
      try dsimp only [Option.toList, List.nil_append, List.cons_append]
      have V1 := RV_O hV (by decide) hA hO
      have w1 : gW g g_1 (R + 17) (R + 21) := gW_O hO (by omega) (by omega)
      have m1 := V1.1
      unfold RE at m1
      have k17 := V1.2.2.2 17 (by decide)
      have k19 : NA g_1 (R + 19) 20 (v 19 - v 17) := hA
      obtain ⟨_, _, K17, -⟩ := id k17
      have K171 := K17.1
      refine z_aload_n hE d_Re_addSigned_75 rfl ?_
      refine z_get hE d_Re_addSigned_76 fl_Re_37 (by assumption) rfl ?_
      refine z_aload_n hE d_Re_addSigned_79 rfl ?_
      refine z_get hE d_Re_addSigned_80 fl_Re_40 (by assumption) rfl ?_
      refine z_callV hE d_Re_addSigned_83 cl_Re_84 (c_Na_become l nx K17 k19 (by omega) (by omega)) (by assumption) cb_Na rfl (Nat.le_of_ble_eq_true rfl) ⟨by decide, by decide⟩ ⟨by omega, by omega⟩ (fun r_2 g_2 nx_2 hp_2 => ?_) rfl
      try dsimp only [Option.toList, List.nil_append, List.cons_append]
      obtain ⟨rfl, rfl, hB, hO2⟩ := hp_2
      try dsimp only [Option.toList, List.nil_append, List.cons_append]
      have V2 := RV_O V1 (by decide) hB hO2
      refine z_iload_n hE d_Re_addSigned_86 rfl ?_
      refine z_iret hE hQ d_Re_addSigned_87 rfl (Nat.le_refl _) (Nat.le_refl _) ⟨?_, rfl, gW_t w1 (gW_O hO2 (by omega) (by omega)), _, V2, ?_, fun j hj => by rw [upN_n (by omega), upN_n (by omega)]⟩
      · rcases e1 with ⟨z1, z2, z3⟩ | ⟨z1, z2, z3⟩
        · rw [z1, sgI_n (by omega), z3]
        · rw [z1, sgI_p (by omega), z3]
      · rw [upN_s]
        rcases e1 with ⟨z1, z2, z3⟩ | ⟨z1, z2, z3⟩ <;> omega
    · have hge : v 19 ≤ v 17 := by
        rcases Nat.lt_or_ge (v 17) (v 19) with z | z
        · rw [cmpN_lt z] at c_40; exact absurd (show (-1 : Int32) < 0 by decide) c_40
        · exact z
      refine z_aload_n hE d_Re_addSigned_43 rfl ?_
      refine z_get hE d_Re_addSigned_44 fl_Re_37 (by assumption) rfl ?_
      refine z_aload_n hE d_Re_addSigned_47 rfl ?_
      refine z_get hE d_Re_addSigned_48 fl_Re_40 (by assumption) rfl ?_
      refine z_callV hE d_Re_addSigned_51 cl_Re_95 (c_Na_subtract l nx n17 n19 (by omega) hge) (by assumption) cb_Na rfl (Nat.le_of_ble_eq_true rfl) ⟨by decide, by decide⟩ ⟨by omega, by omega⟩ (fun r_1 g_1 nx_1 hp_1 => ?_) rfl
      try dsimp only [Option.toList, List.nil_append, List.cons_append]
      obtain ⟨rfl, rfl, hA, hO⟩ := hp_1
      try dsimp only [Option.toList, List.nil_append, List.cons_append]
      have V1 := RV_O hV (by decide) hA hO
      have w1 : gW g g_1 (R + 17) (R + 21) := gW_O hO (by omega) (by omega)
      have hT : upN v 17 (v 17 - v 19) 17 = (sv sa (v 17) + sv sb (v 19)).natAbs := by
        rw [upN_s]
        rcases e1 with ⟨z1, z2, z3⟩ | ⟨z1, z2, z3⟩ <;> omega
      refine z_iload_n hE d_Re_addSigned_54 rfl ?_
      refine z_if_ne (tgt := 62) hE d_Re_addSigned_55 (by decide) (fun c_55 => ?_) (fun c_55 => ?_)
      · refine z_iload_n hE d_Re_addSigned_62 rfl ?_
        refine z_iret hE hQ d_Re_addSigned_63 rfl (Nat.le_refl _) (Nat.le_refl _) ⟨?_, rfl, w1, _, V1, hT, fun j hj => upN_n (by omega)⟩
        have hne : v 19 < v 17 := by
          rcases Nat.eq_or_lt_of_le hge with z | z
          · rw [cmpN_eq z.symm] at c_55; exact absurd rfl c_55
          · exact z
        rcases e1 with ⟨z1, z2, z3⟩ | ⟨z1, z2, z3⟩
        · rw [z1, sgI_p (by omega), z2]
        · rw [z1, sgI_n (by omega), z2]
      · refine z_iconst (v := 0) hE d_Re_addSigned_58 (by decide) ?_
        refine z_goto (tgt := 63) hE d_Re_addSigned_59 (by decide) ?_
        refine z_iret hE hQ d_Re_addSigned_63 rfl (Nat.le_refl _) (Nat.le_refl _) ⟨?_, rfl, w1, _, V1, hT, fun j hj => upN_n (by omega)⟩
        have heq : v 17 = v 19 := by
          rcases Nat.eq_or_lt_of_le hge with z | z
          · exact z.symm
          · rw [cmpN_gt z] at c_55; exact absurd c_55 (by decide)
        rcases e1 with ⟨z1, z2, z3⟩ | ⟨z1, z2, z3⟩
        · rw [z1, show (v 17 : Int) - (v 19 : Int) = 0 by omega]; rfl
        · rw [z1, show (v 19 : Int) - (v 17 : Int) = 0 by omega]; rfl
  refine z_iload_n hE d_Re_addSigned_0 rfl ?_
  refine z_iload_n hE d_Re_addSigned_1 rfl ?_
  refine z_imul hE d_Re_addSigned_2 (rfl) ?_
  refine z_if_lt (tgt := 27) hE d_Re_addSigned_3 (by decide) (fun c_3 => ?_) (fun c_3 => ?_)
  · refine minus _ rfl rfl rfl ?_
    rcases ha with ⟨rfl, z⟩ | ⟨rfl, z⟩ | ⟨rfl, z⟩ <;> rcases hb with ⟨rfl, y⟩ | ⟨rfl, y⟩ | ⟨rfl, y⟩
    · exact absurd c_3 (by decide)
    · exact absurd c_3 (by decide)
    · exact absurd c_3 (by decide)
    · exact absurd c_3 (by decide)
    · exact absurd c_3 (by decide)
    · left; rw [sv_1, sv_m]; exact ⟨by omega, rfl, rfl⟩
    · exact absurd c_3 (by decide)
    · right; rw [sv_1, sv_m]; exact ⟨by omega, rfl, rfl⟩
    · exact absurd c_3 (by decide)
  · refine plus _ rfl rfl rfl ?_ ?_
    · rcases ha with ⟨rfl, z⟩ | ⟨rfl, z⟩ | ⟨rfl, z⟩ <;> rcases hb with ⟨rfl, y⟩ | ⟨rfl, y⟩ | ⟨rfl, y⟩
      · rw [sv_0, sv_0]; rfl
      · rw [sv_0, sv_1, sgI_p (by omega)]; rfl
      · rw [sv_0, sv_m, sgI_n (by omega)]; rfl
      · rw [sv_1, sv_0, sgI_p (by omega)]; rfl
      · rw [sv_1, sv_1, sgI_p (by omega)]; rfl
      · exact absurd (show (1 : Int32) * -1 < 0 by decide) c_3
      · rw [sv_m, sv_0, sgI_n (by omega)]; rfl
      · exact absurd (show (-1 : Int32) * 1 < 0 by decide) c_3
      · rw [sv_m, sv_m, sgI_n (by omega)]; rfl
    · rcases ha with ⟨rfl, z⟩ | ⟨rfl, z⟩ | ⟨rfl, z⟩ <;> rcases hb with ⟨rfl, y⟩ | ⟨rfl, y⟩ | ⟨rfl, y⟩
      · rw [sv_0, sv_0]; omega
      · rw [sv_0, sv_1]; omega
      · rw [sv_0, sv_m]; omega
      · rw [sv_1, sv_0]; omega
      · rw [sv_1, sv_1]; omega
      · exact absurd (show (1 : Int32) * -1 < 0 by decide) c_3
      · rw [sv_m, sv_0]; omega
      · exact absurd (show (-1 : Int32) * 1 < 0 by decide) c_3
      · rw [sv_m, sv_m]; omega
def redA (n m : Nat) : Nat := n / Nat.gcd n m
def redB (n m : Nat) : Nat := m / Nat.gcd n m
theorem szL_0 {x : Int64} (h : x ≠ 0) : szL x ≠ 0 := by
  unfold szL
  intro q
  exact h (Int64.toInt_inj.mp (by show x.toInt = 0; omega))
set_option maxHeartbeats 1000000 in
theorem c_Re_divideLongs (l : Launch) {g : Gh} (nx : Nat) {R : Nat} {sg : Int32} {v : Nat → Nat} (hV : RV g R sg v) (x y : Int64) (hy : y ≠ 0) : Ct l m_Re_divideLongs 0 0 [.ref R, .long x, .long y] g nx (fun r g' nx' => r = none ∧ nx = nx' ∧ gW g g' R (R + 25) ∧ ∃ v', RV g' R (sgL x * sgL y) v' ∧ v' 2 = redA (szL x) (szL y) ∧ v' 4 = redB (szL x) (szL y)) := by
  have r1 := hV.1
  unfold RE at r1
  have r3 := hV.2.2.1
  have hx9 := szL_le x
  have hy9 := szL_le y
  have b18 : (9223372036854775808 : Nat) < 4294967296 ^ 18 := by decide
  refine Ct.of (by decide) (Nat.le_of_ble_eq_true rfl) (fun E hE hQ => ?_)
  refine z_aload_n hE d_Re_divideLongs_0 rfl ?_
  refine z_get hE d_Re_divideLongs_1 fl_Re_14 (by assumption) rfl ?_
  refine z_lload_n hE d_Re_divideLongs_4 rfl ?_
  refine z_lconst (v := 0) hE d_Re_divideLongs_5 (by decide) ?_
  refine z_callS hE d_Re_divideLongs_6 cl_Re_49 (c_Jl_compare l g nx x) rfl (Nat.le_of_ble_eq_true rfl) ⟨by decide, by decide⟩ ⟨by omega, by omega⟩ (fun r_6 g_6 nx_6 hp_6 => ?_) rfl
  obtain ⟨rfl, rfl, rfl⟩ := hp_6
  try dsimp only [Option.toList, List.nil_append, List.cons_append]
  refine z_lload_n hE d_Re_divideLongs_9 rfl ?_
  refine z_lconst (v := 0) hE d_Re_divideLongs_10 (by decide) ?_
  refine z_callS hE d_Re_divideLongs_11 cl_Re_49 (c_Jl_compare l g nx y) rfl (Nat.le_of_ble_eq_true rfl) ⟨by decide, by decide⟩ ⟨by omega, by omega⟩ (fun r_11 g_11 nx_11 hp_11 => ?_) rfl
  obtain ⟨rfl, rfl, rfl⟩ := hp_11
  try dsimp only [Option.toList, List.nil_append, List.cons_append]
  refine z_imul hE d_Re_divideLongs_14 (rfl) ?_
  refine z_putN hE d_Re_divideLongs_15 fl_Re_55 ct_Fr ff_Fr_2 (by assumption) rfl rfl (Nat.le_of_ble_eq_true rfl) ?_
  have V1 := RV_S (s' := sgL x * sgL y) hV
  obtain ⟨g1, hg1⟩ : ∃ g1, gS g (R + 1) (.inr (1, [Value.ref (R + 2), .ref (R + 4), .int (sgL x * sgL y)])) = g1 := ⟨_, rfl⟩
  have w1 : gW g g1 R (R + 25) := by rw [← hg1]; exact gW_S (by omega) (by omega)
  rw [hg1] at V1
  show zJ E (gS g (R + 1) (.inr (1, [Value.ref (R + 2), .ref (R + 4), .int (sgL x * sgL y)]))) nx _ _ _ _ _
  rw [hg1]
  have m1 := V1.1
  unfold RE at m1
  obtain ⟨_, _, K17, -⟩ := id (V1.2.2.2 17 (by decide))
  have K171 := K17.1
  have second : ∀ (gL : Gh) (vL : Nat → Nat) lv, RV gL R (sgL x * sgL y) vL → gW g gL R (R + 25) → vL 17 = szL x → lG lv 0 = some (.ref R) → zJ E gL nx 0 0 53 lv [.long (lN (szL y)), .ref (R + 19)] := by
    intro gL vL lv VL wL e17 l0
    refine z_sub (lv' := [(0, .ref R)]) (by simp only [List.map, l0]) ?_
    obtain ⟨_, _, K19, -⟩ := id (VL.2.2.2 19 (by decide))
    have K191 := K19.1
    refine z_callV hE d_Re_divideLongs_53 cl_Re_59 (c_Na_becomeLong l nx K19 (szL y) (by omega)) (by assumption) cb_Na rfl (Nat.le_of_ble_eq_true rfl) ⟨by decide, by decide⟩ ⟨by omega, by omega⟩ (fun r_1 g_1 nx_1 hp_1 => ?_) rfl
    try dsimp only [Option.toList, List.nil_append, List.cons_append]
    obtain ⟨rfl, rfl, hA, hO⟩ := hp_1
    try dsimp only [Option.toList, List.nil_append, List.cons_append]
    have V2 := RV_O VL (by decide) hA hO
    have w2 : gW g g_1 R (R + 25) := gW_t wL (gW_O hO (by omega) (by omega))
    have e2 : upN vL 19 (szL y) 17 = szL x := by rw [upN_n (by decide)]; exact e17
    have k17 := V2.2.2.2 17 (by decide)
    rw [e2] at k17
    have k19 : NA g_1 (R + 19) 20 (szL y) := hA
    have m1 := V2.1
    unfold RE at m1
    refine z_aload_n hE d_Re_divideLongs_56 rfl ?_
    refine z_aload_n hE d_Re_divideLongs_57 rfl ?_
    refine z_get hE d_Re_divideLongs_58 fl_Re_37 (by assumption) rfl ?_
    refine z_aload_n hE d_Re_divideLongs_61 rfl ?_
    refine z_get hE d_Re_divideLongs_62 fl_Re_40 (by assumption) rfl ?_
    refine z_callV hE d_Re_divideLongs_65 cl_Re_63 (c_Re_findCommon l nx (RV_RF V2) ⟨_, V2.2.2.2 13 (by decide)⟩ ⟨_, V2.2.2.2 15 (by decide)⟩ k17 k19 (by omega) (by omega) (by omega) (by omega)) (by assumption) cb_Re rfl (Nat.le_of_ble_eq_true rfl) ⟨by decide, by decide⟩ ⟨by omega, by omega⟩ (fun r_2 g_2 nx_2 hp_2 => ?_) rfl
    try dsimp only [Option.toList, List.nil_append, List.cons_append]
    obtain ⟨rfl, rfl, c13, c15, cF, cW⟩ := hp_2
    try dsimp only [Option.toList, List.nil_append, List.cons_append]
    obtain ⟨v3, V3, e13, -, -, e17b, e19b, -, -⟩ := RV_C V2 c13 c15 cF cW
    have w3 : gW g g_2 R (R + 25) := gW_t w2 (gW_le cW (by omega) (by omega))
    have k17 := V3.2.2.2 17 (by decide)
    rw [e17b, e2] at k17
    have hgc : Nat.gcd (szL x) (szL y) ≠ 0 := by
      have := Nat.gcd_pos_of_pos_right (szL x) (Nat.pos_of_ne_zero (szL_0 hy))
      omega
    have m1 := V3.1
    have m3 := V3.2.2.1
    unfold RE at m1
    refine z_aload_n hE d_Re_divideLongs_68 rfl ?_
    refine z_aload_n hE d_Re_divideLongs_69 rfl ?_
    refine z_get hE d_Re_divideLongs_70 fl_Re_37 (by assumption) rfl ?_
    refine z_aload_n hE d_Re_divideLongs_73 rfl ?_
    refine z_get hE d_Re_divideLongs_74 fl_Re_30 (by assumption) rfl ?_
    refine z_aload_n hE d_Re_divideLongs_77 rfl ?_
    refine z_get hE d_Re_divideLongs_78 fl_Re_14 (by assumption) rfl ?_
    refine z_getN hE d_Re_divideLongs_81 fl_Re_67 (by assumption) rfl ?_
    refine z_callV hE d_Re_divideLongs_84 cl_Re_70 (c_Re_divideInto l nx (RV_RF V3) k17 c13 (V3.2.2.2 2 (by decide)) (by omega) (by omega) (by omega) (by omega) (by omega) hgc) (by assumption) cb_Re rfl (Nat.le_of_ble_eq_true rfl) ⟨by decide, by decide⟩ ⟨by omega, by omega⟩ (fun r_3 g_3 nx_3 hp_3 => ?_) rfl
    try dsimp only [Option.toList, List.nil_append, List.cons_append]
    obtain ⟨rfl, rfl, dA, dF, gi, dW, dO⟩ := hp_3
    try dsimp only [Option.toList, List.nil_append, List.cons_append]
    obtain ⟨v4, V4, e2', eo, dW'⟩ := RV_D V3 (by decide) (by decide) dA dF dW dO
    have w4 : gW g g_3 R (R + 25) := gW_t w3 (gW_le dW' (by split <;> omega) (by omega))
    have k19 := V4.2.2.2 19 (by decide)
    rw [eo 19 (by decide) (by decide), e19b, show upN vL 19 (szL y) 19 = szL y from upN_s] at k19
    have k13 := V4.2.2.2 13 (by decide)
    rw [eo 13 (by decide) (by decide), e13] at k13
    have m1 := V4.1
    have m3 := V4.2.2.1
    unfold RE at m1
    refine z_aload_n hE d_Re_divideLongs_87 rfl ?_
    refine z_aload_n hE d_Re_divideLongs_88 rfl ?_
    refine z_get hE d_Re_divideLongs_89 fl_Re_40 (by assumption) rfl ?_
    refine z_aload_n hE d_Re_divideLongs_92 rfl ?_
    refine z_get hE d_Re_divideLongs_93 fl_Re_30 (by assumption) rfl ?_
    refine z_aload_n hE d_Re_divideLongs_96 rfl ?_
    refine z_get hE d_Re_divideLongs_97 fl_Re_14 (by assumption) rfl ?_
    refine z_getN hE d_Re_divideLongs_100 fl_Re_74 (by assumption) rfl ?_
    refine z_callV hE d_Re_divideLongs_103 cl_Re_70 (c_Re_divideInto l nx (RV_RF V4) k19 k13 (V4.2.2.2 4 (by decide)) (by omega) (by omega) (by omega) (by omega) (by omega) hgc) (by assumption) cb_Re rfl (Nat.le_of_ble_eq_true rfl) ⟨by decide, by decide⟩ ⟨by omega, by omega⟩ (fun r_4 g_4 nx_4 hp_4 => ?_) rfl
    try dsimp only [Option.toList, List.nil_append, List.cons_append]
    obtain ⟨rfl, rfl, dA2, dF2, gi2, dW2, dO2⟩ := hp_4
    try dsimp only [Option.toList, List.nil_append, List.cons_append]
    obtain ⟨v5, V5, e4', eo5, dW5⟩ := RV_D V4 (by decide) (by decide) dA2 dF2 dW2 dO2
    refine z_vret hE hQ d_Re_divideLongs_106 rfl (Nat.le_refl _) (Nat.le_refl _) ⟨rfl, rfl, gW_t w4 (gW_le dW5 (by split <;> omega) (by omega)), v5, V5, ?_, e4'⟩
    rw [eo5 2 (by decide) (by decide)]; exact e2'
  have first : ∀ lv, lG lv 0 = some (.ref R) → lG lv 3 = some (.long y) → zJ E g1 nx 0 0 34 lv [.long (lN (szL x)), .ref (R + 17)] := by
    intro lv l0 l3
    refine z_sub (lv' := [(0, .ref R), (3, .long y)]) (by simp only [List.map, l0, l3]) ?_
    refine z_callV hE d_Re_divideLongs_34 cl_Re_59 (c_Na_becomeLong l nx K17 (szL x) (by omega)) (by assumption) cb_Na rfl (Nat.le_of_ble_eq_true rfl) ⟨by decide, by decide⟩ ⟨by omega, by omega⟩ (fun r_1 g_1 nx_1 hp_1 => ?_) rfl
    try dsimp only [Option.toList, List.nil_append, List.cons_append]
    obtain ⟨rfl, rfl, hA, hO⟩ := hp_1
    try dsimp only [Option.toList, List.nil_append, List.cons_append]
    have V2 := RV_O V1 (by decide) hA hO
    have m1 := V2.1
    unfold RE at m1
    refine z_aload_n hE d_Re_divideLongs_37 rfl ?_
    refine z_get hE d_Re_divideLongs_38 fl_Re_40 (by assumption) rfl ?_
    refine z_lload_n hE d_Re_divideLongs_41 rfl ?_
    refine z_lconst (v := 0) hE d_Re_divideLongs_42 (by decide) ?_
    refine z_lcmp hE d_Re_divideLongs_43 ?_
    refine z_if_ge (tgt := 52) hE d_Re_divideLongs_44 (by decide) (fun c_44 => ?_) (fun c_44 => ?_)
    · rw [lg_cmp_ge] at c_44
      have hx : ¬ y < 0 := by
        rw [Int64.lt_iff_toInt_lt]
        rw [Int64.le_iff_toInt_le] at c_44
        omega
      refine z_lload_n hE d_Re_divideLongs_52 rfl ?_
      rw [szL_nn hx]
      rw [← szL_nn hx]
      have := second g_1 _ [(0, .ref R), (3, .long y)] V2 (gW_t w1 (gW_O hO (by omega) (by omega))) upN_s rfl
      rw [← szL_nn hx] at this
      exact this
    · rw [lg_cmp_ge] at c_44
      have hx : y < 0 := by
        rw [Int64.lt_iff_toInt_lt]
        rw [Int64.le_iff_toInt_le] at c_44
        omega
      refine z_lload_n hE d_Re_divideLongs_47 rfl ?_
      refine z_lneg (v := lN (szL y)) hE d_Re_divideLongs_48 (szL_neg hx) ?_
      refine z_goto (tgt := 53) hE d_Re_divideLongs_49 (by decide) ?_
      exact second g_1 _ _ V2 (gW_t w1 (gW_O hO (by omega) (by omega))) upN_s rfl
  refine z_aload_n hE d_Re_divideLongs_18 rfl ?_
  refine z_get hE d_Re_divideLongs_19 fl_Re_37 (by assumption) rfl ?_
  refine z_lload_n hE d_Re_divideLongs_22 rfl ?_
  refine z_lconst (v := 0) hE d_Re_divideLongs_23 (by decide) ?_
  refine z_lcmp hE d_Re_divideLongs_24 ?_
  refine z_if_ge (tgt := 33) hE d_Re_divideLongs_25 (by decide) (fun c_25 => ?_) (fun c_25 => ?_)
  · rw [lg_cmp_ge] at c_25
    have hx : ¬ x < 0 := by
      rw [Int64.lt_iff_toInt_lt]
      rw [Int64.le_iff_toInt_le] at c_25
      omega
    refine z_lload_n hE d_Re_divideLongs_33 rfl ?_
    have := first [(0, .ref R), (1, .long x), (3, .long y)] rfl rfl
    rw [← szL_nn hx] at this
    exact this
  · rw [lg_cmp_ge] at c_25
    have hx : x < 0 := by
      rw [Int64.lt_iff_toInt_lt]
      rw [Int64.le_iff_toInt_le] at c_25
      omega
    refine z_lload_n hE d_Re_divideLongs_28 rfl ?_
    refine z_lneg (v := lN (szL x)) hE d_Re_divideLongs_29 (szL_neg hx) ?_
    refine z_goto (tgt := 34) hE d_Re_divideLongs_30 (by decide) ?_
    exact first _ rfl rfl

