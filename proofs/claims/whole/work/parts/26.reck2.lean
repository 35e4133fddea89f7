/-! Reckoner: its whole world -/
def kL : List Nat := [2, 4, 7, 9, 11, 13, 15, 17, 19, 21, 23]
def RV (g : Gh) (R : Nat) (sg : Int32) (v : Nat → Nat) : Prop := RE g R ∧ DV g (R + 6) ∧ g (R + 1) = some (.inr (1, [.ref (R + 2), .ref (R + 4), .int sg])) ∧ ∀ k ∈ kL, NA g (R + k) 20 (v k)
theorem kL_b : ∀ k ∈ kL, 2 ≤ k ∧ k ≠ 5 ∧ k ≠ 6 ∧ k ≤ 23 := by decide
theorem RV_F {g : Gh} {R : Nat} {sg : Int32} {v : Nat → Nat} (h : RV g R sg v) : FR g (R + 1) 20 20 sg (v 2) (v 4) := ⟨h.2.2.1, h.2.2.2 2 (by decide), h.2.2.2 4 (by decide)⟩
theorem RV_RF {g : Gh} {R : Nat} {sg : Int32} {v : Nat → Nat} (h : RV g R sg v) : RF g R := ⟨h.1, h.2.1, ⟨_, h.2.2.2 7 (by decide)⟩, ⟨_, h.2.2.2 9 (by decide)⟩, ⟨_, h.2.2.2 11 (by decide)⟩⟩
theorem RV_O {g g' : Gh} {R k x : Nat} {sg : Int32} {v : Nat → Nat} (h : RV g R sg v) (hk : k ∈ kL) (hA : NA g' (R + k) 20 x) (ho : gO g g' (R + k)) : RV g' R sg (upN v k x) := by
  have b := kL_b k hk
  refine ⟨?_, ?_, ?_, fun j hj => ?_⟩
  · unfold RE; rw [ho R (by omega) (by omega)]; exact h.1
  · unfold DV; rw [ho (R + 6) (by omega) (by omega)]; exact h.2.1
  · rw [ho (R + 1) (by omega) (by omega)]; exact h.2.2.1
  · by_cases hjk : j = k
    · rw [hjk, upN_s]; exact hA
    · rw [upN_n hjk]
      exact NA_o (h.2.2.2 k hk) (h.2.2.2 j hj) (by omega) ho
theorem RV_W {g g' : Gh} {R lo hi : Nat} {sg : Int32} {v : Nat → Nat} (h : RV g R sg v) (hw : gW g g' lo hi) (h1 : R + 25 ≤ lo ∨ hi ≤ R) : RV g' R sg v := by
  refine ⟨?_, ?_, ?_, fun j hj => ?_⟩
  · unfold RE; rw [hw R (by omega)]; exact h.1
  · unfold DV; rw [hw (R + 6) (by omega)]; exact h.2.1
  · rw [hw (R + 1) (by omega)]; exact h.2.2.1
  · have b := kL_b j hj
    exact NA_W (h.2.2.2 j hj) hw (by omega)
/-- behind findCommon -/
theorem RV_C {g g' : Gh} {R c : Nat} {sg : Int32} {v : Nat → Nat} (h : RV g R sg v) (h13 : NA g' (R + 13) 20 c) (h15 : ∃ v, NA g' (R + 15) 20 v) (hF : RF g' R) (hw : gW g g' (R + 7) (R + 17)) : ∃ v', RV g' R sg v' ∧ v' 13 = c ∧ v' 2 = v 2 ∧ v' 4 = v 4 ∧ v' 17 = v 17 ∧ v' 19 = v 19 ∧ v' 21 = v 21 ∧ v' 23 = v 23 := by
  obtain ⟨x15, h15⟩ := h15
  obtain ⟨f1, f2, ⟨x7, h7⟩, ⟨x9, h9⟩, ⟨x11, h11⟩⟩ := hF
  refine ⟨upN (upN (upN (upN (upN v 7 x7) 9 x9) 11 x11) 13 c) 15 x15, ⟨f1, f2, ?_, fun j hj => ?_⟩, rfl, rfl, rfl, rfl, rfl, rfl, rfl⟩
  · rw [hw (R + 1) (by omega)]; exact h.2.2.1
  · have hn := h.2.2.2 j hj
    simp only [kL, List.mem_cons, List.not_mem_nil, or_false] at hj
    rcases hj with rfl | rfl | rfl | rfl | rfl | rfl | rfl | rfl | rfl | rfl | rfl
    · exact NA_W hn hw (by omega)
    · exact NA_W hn hw (by omega)
    · exact h7
    · exact h9
    · exact h11
    · exact h13
    · exact h15
    · exact NA_W hn hw (by omega)
    · exact NA_W hn hw (by omega)
    · exact NA_W hn hw (by omega)
    · exact NA_W hn hw (by omega)
/-- behind divideInto with a result of the reckoner's own -/
theorem RV_D {g g1 g' : Gh} {R k x : Nat} {sg : Int32} {v : Nat → Nat} (h : RV g R sg v) (hk : k ∈ kL) (hk2 : k < 6 ∨ 13 ≤ k) (hA : NA g' (R + k) 20 x) (hF : RF g' R) (hw : gW g g1 (R + 7) (R + 13)) (ho : gO g1 g' (R + k)) : ∃ v', RV g' R sg v' ∧ v' k = x ∧ (∀ j, j ≠ k → j < 7 ∨ 13 ≤ j → v' j = v j) ∧ gW g g' (if k < 6 then R + k else R + 7) (R + 25) := by
  have b := kL_b k hk
  obtain ⟨f1, f2, ⟨x7, h7⟩, ⟨x9, h9⟩, ⟨x11, h11⟩⟩ := hF
  refine ⟨upN (upN (upN (upN v 7 x7) 9 x9) 11 x11) k x, ⟨f1, f2, ?_, fun j hj => ?_⟩, upN_s, fun j hjk hj => ?_, fun q hq => ?_⟩
  · rw [ho (R + 1) (by omega) (by omega), hw (R + 1) (by omega)]; exact h.2.2.1
  · by_cases hjk : j = k
    · rw [hjk, upN_s]; exact hA
    · rw [upN_n hjk]
      have hn := h.2.2.2 j hj
      have c := kL_b j hj
      by_cases j7 : j = 7
      · subst j7; exact h7
      · by_cases j9 : j = 9
        · subst j9; exact h9
        · by_cases j11 : j = 11
          · subst j11; exact h11
          · rw [upN_n j11, upN_n j9, upN_n j7]
            have jm : j < 6 ∨ 13 ≤ j := by
              simp only [kL, List.mem_cons, List.not_mem_nil, or_false] at hj
              omega
            have n1 := NA_W hn hw (by omega)
            have n2 := NA_W (h.2.2.2 k hk) hw (by omega)
            exact NA_o n2 n1 (by omega) ho
  · rw [upN_n hjk, upN_n (by omega), upN_n (by omega), upN_n (by omega)]
  · split at hq
    · rw [ho q (by omega) (by omega), hw q (by omega)]
    · rw [ho q (by omega) (by omega), hw q (by omega)]
/-- the answer's sign put -/
theorem RV_S {g : Gh} {R : Nat} {sg s' : Int32} {v : Nat → Nat} (h : RV g R sg v) : RV (gS g (R + 1) (.inr (1, [.ref (R + 2), .ref (R + 4), .int s']))) R s' v := by
  refine ⟨?_, ?_, gS_s, fun j hj => ?_⟩
  · unfold RE; rw [gS_n (by omega)]; exact h.1
  · unfold DV; rw [gS_n (by omega)]; exact h.2.1
  · have b := kL_b j hj
    exact NA_gS (h.2.2.2 j hj) (by omega) (by omega)
theorem d_Re_compare_0 : decode b_Re_compare 0 = .ok (.aload_n 1, 1) := by decide +kernel
theorem d_Re_compare_1 : decode b_Re_compare 1 = .ok (.getfield 55, 3) := by decide +kernel
theorem d_Re_compare_4 : decode b_Re_compare 4 = .ok (.aload_n 2, 1) := by decide +kernel
theorem d_Re_compare_5 : decode b_Re_compare 5 = .ok (.getfield 55, 3) := by decide +kernel
theorem d_Re_compare_8 : decode b_Re_compare 8 = .ok (.if_icmp .eq 20, 3) := by decide +kernel
theorem d_Re_compare_11 : decode b_Re_compare 11 = .ok (.aload_n 1, 1) := by decide +kernel
theorem d_Re_compare_12 : decode b_Re_compare 12 = .ok (.getfield 55, 3) := by decide +kernel
theorem d_Re_compare_15 : decode b_Re_compare 15 = .ok (.aload_n 2, 1) := by decide +kernel
theorem d_Re_compare_16 : decode b_Re_compare 16 = .ok (.getfield 55, 3) := by decide +kernel
theorem d_Re_compare_19 : decode b_Re_compare 19 = .ok (.if_icmp .ge 7, 3) := by decide +kernel
theorem d_Re_compare_22 : decode b_Re_compare 22 = .ok (.iconst (-1), 1) := by decide +kernel
theorem d_Re_compare_23 : decode b_Re_compare 23 = .ok (.goto 4, 3) := by decide +kernel
theorem d_Re_compare_26 : decode b_Re_compare 26 = .ok (.iconst 1, 1) := by decide +kernel
theorem d_Re_compare_27 : decode b_Re_compare 27 = .ok (.ireturn, 1) := by decide +kernel
theorem d_Re_compare_28 : decode b_Re_compare 28 = .ok (.aload_n 0, 1) := by decide +kernel
theorem d_Re_compare_29 : decode b_Re_compare 29 = .ok (.getfield 37, 3) := by decide +kernel
theorem d_Re_compare_32 : decode b_Re_compare 32 = .ok (.aload_n 1, 1) := by decide +kernel
theorem d_Re_compare_33 : decode b_Re_compare 33 = .ok (.getfield 67, 3) := by decide +kernel
theorem d_Re_compare_36 : decode b_Re_compare 36 = .ok (.aload_n 2, 1) := by decide +kernel
theorem d_Re_compare_37 : decode b_Re_compare 37 = .ok (.getfield 74, 3) := by decide +kernel
theorem d_Re_compare_40 : decode b_Re_compare 40 = .ok (.invokevirtual 77, 3) := by decide +kernel
theorem d_Re_compare_43 : decode b_Re_compare 43 = .ok (.aload_n 0, 1) := by decide +kernel
theorem d_Re_compare_44 : decode b_Re_compare 44 = .ok (.getfield 40, 3) := by decide +kernel
theorem d_Re_compare_47 : decode b_Re_compare 47 = .ok (.aload_n 2, 1) := by decide +kernel
theorem d_Re_compare_48 : decode b_Re_compare 48 = .ok (.getfield 67, 3) := by decide +kernel
theorem d_Re_compare_51 : decode b_Re_compare 51 = .ok (.aload_n 1, 1) := by decide +kernel
theorem d_Re_compare_52 : decode b_Re_compare 52 = .ok (.getfield 74, 3) := by decide +kernel
theorem d_Re_compare_55 : decode b_Re_compare 55 = .ok (.invokevirtual 77, 3) := by decide +kernel
theorem d_Re_compare_58 : decode b_Re_compare 58 = .ok (.aload_n 0, 1) := by decide +kernel
theorem d_Re_compare_59 : decode b_Re_compare 59 = .ok (.getfield 37, 3) := by decide +kernel
theorem d_Re_compare_62 : decode b_Re_compare 62 = .ok (.aload_n 0, 1) := by decide +kernel
theorem d_Re_compare_63 : decode b_Re_compare 63 = .ok (.getfield 40, 3) := by decide +kernel
theorem d_Re_compare_66 : decode b_Re_compare 66 = .ok (.invokevirtual 91, 3) := by decide +kernel
theorem d_Re_compare_69 : decode b_Re_compare 69 = .ok (.istore_n 3, 1) := by decide +kernel
theorem d_Re_compare_70 : decode b_Re_compare 70 = .ok (.aload_n 1, 1) := by decide +kernel
theorem d_Re_compare_71 : decode b_Re_compare 71 = .ok (.getfield 55, 3) := by decide +kernel
theorem d_Re_compare_74 : decode b_Re_compare 74 = .ok (.ifCond .ge 8, 3) := by decide +kernel
theorem d_Re_compare_77 : decode b_Re_compare 77 = .ok (.iload_n 3, 1) := by decide +kernel
theorem d_Re_compare_78 : decode b_Re_compare 78 = .ok (.ineg, 1) := by decide +kernel
theorem d_Re_compare_79 : decode b_Re_compare 79 = .ok (.goto 4, 3) := by decide +kernel
theorem d_Re_compare_82 : decode b_Re_compare 82 = .ok (.iload_n 3, 1) := by decide +kernel
theorem d_Re_compare_83 : decode b_Re_compare 83 = .ok (.ireturn, 1) := by decide +kernel
theorem d_Re_divideLongs_0 : decode b_Re_divideLongs 0 = .ok (.aload_n 0, 1) := by decide +kernel
theorem d_Re_divideLongs_1 : decode b_Re_divideLongs 1 = .ok (.getfield 14, 3) := by decide +kernel
theorem d_Re_divideLongs_4 : decode b_Re_divideLongs 4 = .ok (.lload_n 1, 1) := by decide +kernel
theorem d_Re_divideLongs_5 : decode b_Re_divideLongs 5 = .ok (.lconst 0, 1) := by decide +kernel
theorem d_Re_divideLongs_6 : decode b_Re_divideLongs 6 = .ok (.invokestatic 49, 3) := by decide +kernel
theorem d_Re_divideLongs_9 : decode b_Re_divideLongs 9 = .ok (.lload_n 3, 1) := by decide +kernel
theorem d_Re_divideLongs_10 : decode b_Re_divideLongs 10 = .ok (.lconst 0, 1) := by decide +kernel
theorem d_Re_divideLongs_11 : decode b_Re_divideLongs 11 = .ok (.invokestatic 49, 3) := by decide +kernel
theorem d_Re_divideLongs_14 : decode b_Re_divideLongs 14 = .ok (.imul, 1) := by decide +kernel
theorem d_Re_divideLongs_15 : decode b_Re_divideLongs 15 = .ok (.putfield 55, 3) := by decide +kernel
theorem d_Re_divideLongs_18 : decode b_Re_divideLongs 18 = .ok (.aload_n 0, 1) := by decide +kernel
theorem d_Re_divideLongs_19 : decode b_Re_divideLongs 19 = .ok (.getfield 37, 3) := by decide +kernel
theorem d_Re_divideLongs_22 : decode b_Re_divideLongs 22 = .ok (.lload_n 1, 1) := by decide +kernel
theorem d_Re_divideLongs_23 : decode b_Re_divideLongs 23 = .ok (.lconst 0, 1) := by decide +kernel
theorem d_Re_divideLongs_24 : decode b_Re_divideLongs 24 = .ok (.lcmp, 1) := by decide +kernel
theorem d_Re_divideLongs_25 : decode b_Re_divideLongs 25 = .ok (.ifCond .ge 8, 3) := by decide +kernel
theorem d_Re_divideLongs_28 : decode b_Re_divideLongs 28 = .ok (.lload_n 1, 1) := by decide +kernel
theorem d_Re_divideLongs_29 : decode b_Re_divideLongs 29 = .ok (.lneg, 1) := by decide +kernel
theorem d_Re_divideLongs_30 : decode b_Re_divideLongs 30 = .ok (.goto 4, 3) := by decide +kernel
theorem d_Re_divideLongs_33 : decode b_Re_divideLongs 33 = .ok (.lload_n 1, 1) := by decide +kernel
theorem d_Re_divideLongs_34 : decode b_Re_divideLongs 34 = .ok (.invokevirtual 59, 3) := by decide +kernel
theorem d_Re_divideLongs_37 : decode b_Re_divideLongs 37 = .ok (.aload_n 0, 1) := by decide +kernel
theorem d_Re_divideLongs_38 : decode b_Re_divideLongs 38 = .ok (.getfield 40, 3) := by decide +kernel
theorem d_Re_divideLongs_41 : decode b_Re_divideLongs 41 = .ok (.lload_n 3, 1) := by decide +kernel
theorem d_Re_divideLongs_42 : decode b_Re_divideLongs 42 = .ok (.lconst 0, 1) := by decide +kernel
theorem d_Re_divideLongs_43 : decode b_Re_divideLongs 43 = .ok (.lcmp, 1) := by decide +kernel
theorem d_Re_divideLongs_44 : decode b_Re_divideLongs 44 = .ok (.ifCond .ge 8, 3) := by decide +kernel
theorem d_Re_divideLongs_47 : decode b_Re_divideLongs 47 = .ok (.lload_n 3, 1) := by decide +kernel
theorem d_Re_divideLongs_48 : decode b_Re_divideLongs 48 = .ok (.lneg, 1) := by decide +kernel
theorem d_Re_divideLongs_49 : decode b_Re_divideLongs 49 = .ok (.goto 4, 3) := by decide +kernel
theorem d_Re_divideLongs_52 : decode b_Re_divideLongs 52 = .ok (.lload_n 3, 1) := by decide +kernel
theorem d_Re_divideLongs_53 : decode b_Re_divideLongs 53 = .ok (.invokevirtual 59, 3) := by decide +kernel
theorem d_Re_divideLongs_56 : decode b_Re_divideLongs 56 = .ok (.aload_n 0, 1) := by decide +kernel
theorem d_Re_divideLongs_57 : decode b_Re_divideLongs 57 = .ok (.aload_n 0, 1) := by decide +kernel
theorem d_Re_divideLongs_58 : decode b_Re_divideLongs 58 = .ok (.getfield 37, 3) := by decide +kernel
theorem d_Re_divideLongs_61 : decode b_Re_divideLongs 61 = .ok (.aload_n 0, 1) := by decide +kernel
theorem d_Re_divideLongs_62 : decode b_Re_divideLongs 62 = .ok (.getfield 40, 3) := by decide +kernel
theorem d_Re_divideLongs_65 : decode b_Re_divideLongs 65 = .ok (.invokevirtual 63, 3) := by decide +kernel
theorem d_Re_divideLongs_68 : decode b_Re_divideLongs 68 = .ok (.aload_n 0, 1) := by decide +kernel
theorem d_Re_divideLongs_69 : decode b_Re_divideLongs 69 = .ok (.aload_n 0, 1) := by decide +kernel
theorem d_Re_divideLongs_70 : decode b_Re_divideLongs 70 = .ok (.getfield 37, 3) := by decide +kernel
theorem d_Re_divideLongs_73 : decode b_Re_divideLongs 73 = .ok (.aload_n 0, 1) := by decide +kernel
theorem d_Re_divideLongs_74 : decode b_Re_divideLongs 74 = .ok (.getfield 30, 3) := by decide +kernel
theorem d_Re_divideLongs_77 : decode b_Re_divideLongs 77 = .ok (.aload_n 0, 1) := by decide +kernel
theorem d_Re_divideLongs_78 : decode b_Re_divideLongs 78 = .ok (.getfield 14, 3) := by decide +kernel
theorem d_Re_divideLongs_81 : decode b_Re_divideLongs 81 = .ok (.getfield 67, 3) := by decide +kernel
theorem d_Re_divideLongs_84 : decode b_Re_divideLongs 84 = .ok (.invokevirtual 70, 3) := by decide +kernel
theorem d_Re_divideLongs_87 : decode b_Re_divideLongs 87 = .ok (.aload_n 0, 1) := by decide +kernel
theorem d_Re_divideLongs_88 : decode b_Re_divideLongs 88 = .ok (.aload_n 0, 1) := by decide +kernel
theorem d_Re_divideLongs_89 : decode b_Re_divideLongs 89 = .ok (.getfield 40, 3) := by decide +kernel
theorem d_Re_divideLongs_92 : decode b_Re_divideLongs 92 = .ok (.aload_n 0, 1) := by decide +kernel
theorem d_Re_divideLongs_93 : decode b_Re_divideLongs 93 = .ok (.getfield 30, 3) := by decide +kernel
theorem d_Re_divideLongs_96 : decode b_Re_divideLongs 96 = .ok (.aload_n 0, 1) := by decide +kernel
theorem d_Re_divideLongs_97 : decode b_Re_divideLongs 97 = .ok (.getfield 14, 3) := by decide +kernel
theorem d_Re_divideLongs_100 : decode b_Re_divideLongs 100 = .ok (.getfield 74, 3) := by decide +kernel
theorem d_Re_divideLongs_103 : decode b_Re_divideLongs 103 = .ok (.invokevirtual 70, 3) := by decide +kernel
theorem d_Re_divideLongs_106 : decode b_Re_divideLongs 106 = .ok (.return_, 1) := by decide +kernel
def cmpF (sa : Int32) (aa ab : Nat) (sb : Int32) (ba bb : Nat) : Int32 := if sa = sb then (if sa < 0 then -(cmpN (aa * bb) (ba * ab)) else cmpN (aa * bb) (ba * ab)) else if sa < sb then -1 else 1
theorem c_Re_compare (l : Launch) {g : Gh} (nx : Nat) {R f h Nf Mf Nh Mh aa ab ba bb : Nat} {sg sa sb : Int32} {v : Nat → Nat} (hV : RV g R sg v) (hf : FR g f Nf Mf sa aa ab) (hh : FR g h Nh Mh sb ba bb) (hfo : f + 5 ≤ R + 6 ∨ R + 25 ≤ f) (hho : h + 5 ≤ R + 6 ∨ R + 25 ≤ h) (b1 : aa < 4294967296 ^ 8) (b2 : ab < 4294967296 ^ 8) (b3 : ba < 4294967296 ^ 8) (b4 : bb < 4294967296 ^ 8) : Ct l m_Re_compare 0 0 [.ref R, .ref f, .ref h] g nx (fun r g' nx' => r = some (.int (cmpF sa aa ab sb ba bb)) ∧ nx = nx' ∧ gW g g' (R + 17) (R + 21) ∧ ∃ v', RV g' R sg v' ∧ ∀ j, j < 17 ∨ 21 ≤ j → v' j = v j) := by
  obtain ⟨f1, f2, f3⟩ := id hf
  obtain ⟨h1, h2, h3⟩ := id hh
  have r1 := hV.1
  unfold RE at r1
  have n17 := hV.2.2.2 17 (by decide)
  have n19 := hV.2.2.2 19 (by decide)
  obtain ⟨_, _, R17, -⟩ := id n17
  have R171 := R17.1
  refine Ct.of (by decide) (Nat.le_of_ble_eq_true rfl) (fun E hE hQ => ?_)
  refine z_aload_n hE d_Re_compare_0 rfl ?_
  refine z_getN hE d_Re_compare_1 fl_Re_55 (by assumption) rfl ?_
  refine z_aload_n hE d_Re_compare_4 rfl ?_
  refine z_getN hE d_Re_compare_5 fl_Re_55 (by assumption) rfl ?_
  refine z_icmp_eq (tgt := 28) hE d_Re_compare_8 (by decide) (fun c_8 => ?_) (fun c_8 => ?_)
  · refine z_aload_n hE d_Re_compare_28 rfl ?_
    refine z_get hE d_Re_compare_29 fl_Re_37 (by assumption) rfl ?_
    refine z_aload_n hE d_Re_compare_32 rfl ?_
    refine z_getN hE d_Re_compare_33 fl_Re_67 (by assumption) rfl ?_
    refine z_aload_n hE d_Re_compare_36 rfl ?_
    refine z_getN hE d_Re_compare_37 fl_Re_74 (by assumption) rfl ?_
    refine z_callV hE d_Re_compare_40 cl_Re_77 (c_Na_becomeProduct l nx (p := 8) (q := 8) R17 f2 h3 (by omega) (by omega) b1 b4 (by decide)) (by assumption) cb_Na rfl (Nat.le_of_ble_eq_true rfl) ⟨by decide, by decide⟩ ⟨by omega, by omega⟩ (fun r_1 g_1 nx_1 hp_1 => ?_) rfl
    try dsimp only [Option.toList, List.nil_append, List.cons_append]
    obtain ⟨rfl, rfl, hA, hO⟩ := hp_1
    try dsimp only [Option.toList, List.nil_append, List.cons_append]
    have V1 := RV_O hV (by decide) hA hO
    have w1 : gW g g_1 (R + 17) (R + 21) := gW_O hO (by omega) (by omega)
    have hf1 := FR_W hf w1 (by omega)
    have hh1 := FR_W hh w1 (by omega)
    obtain ⟨f11, f21, f31⟩ := id hf1
    obtain ⟨h11, h21, h31⟩ := id hh1
    have m1 := V1.1
    unfold RE at m1
    have n19b := V1.2.2.2 19 (by decide)
    obtain ⟨_, _, R19, -⟩ := id n19b
    have R191 := R19.1
    refine z_aload_n hE d_Re_compare_43 rfl ?_
    refine z_get hE d_Re_compare_44 fl_Re_40 (by assumption) rfl ?_
    refine z_aload_n hE d_Re_compare_47 rfl ?_
    refine z_getN hE d_Re_compare_48 fl_Re_67 (by assumption) rfl ?_
    refine z_aload_n hE d_Re_compare_51 rfl ?_
    refine z_getN hE d_Re_compare_52 fl_Re_74 (by assumption) rfl ?_
    refine z_callV hE d_Re_compare_55 cl_Re_77 (c_Na_becomeProduct l nx (p := 8) (q := 8) R19 h21 f31 (by omega) (by omega) b3 b2 (by decide)) (by assumption) cb_Na rfl (Nat.le_of_ble_eq_true rfl) ⟨by decide, by decide⟩ ⟨by omega, by omega⟩ (fun r_2 g_2 nx_2 hp_2 => ?_) rfl
    try dsimp only [Option.toList, List.nil_append, List.cons_append]
    obtain ⟨rfl, rfl, hB, hO2⟩ := hp_2
    try dsimp only [Option.toList, List.nil_append, List.cons_append]
    have V2 := RV_O V1 (by decide) hB hO2
    have w2 : gW g g_2 (R + 17) (R + 21) := gW_t w1 (gW_O hO2 (by omega) (by omega))
    have hf2 := FR_W hf w2 (by omega)
    obtain ⟨f12, -⟩ := id hf2
    have m2 := V2.1
    unfold RE at m2
    have k17 : NA g_2 (R + 17) 20 (aa * bb) := V2.2.2.2 17 (by decide)
    have k19 : NA g_2 (R + 19) 20 (ba * ab) := V2.2.2.2 19 (by decide)
    obtain ⟨_, _, ⟨k171, -⟩, -⟩ := id k17
    have fin : ∀ j, j < 17 ∨ 21 ≤ j → upN (upN v 17 (aa * bb)) 19 (ba * ab) j = v j := fun j hj => by rw [upN_n (by omega), upN_n (by omega)]
    refine z_aload_n hE d_Re_compare_58 rfl ?_
    refine z_get hE d_Re_compare_59 fl_Re_37 (by assumption) rfl ?_
    refine z_aload_n hE d_Re_compare_62 rfl ?_
    refine z_get hE d_Re_compare_63 fl_Re_40 (by assumption) rfl ?_
    refine z_callV hE d_Re_compare_66 cl_Re_91 (c_Na_compareWith l nx k17 k19) (by assumption) cb_Na rfl (Nat.le_of_ble_eq_true rfl) ⟨by decide, by decide⟩ ⟨by omega, by omega⟩ (fun r_66 g_66 nx_66 hp_66 => ?_) rfl
    obtain ⟨rfl, rfl, rfl⟩ := hp_66
    try dsimp only [Option.toList, List.nil_append, List.cons_append]
    refine z_istore_n hE d_Re_compare_69 rfl (by decide) ?_
    refine z_aload_n hE d_Re_compare_70 rfl ?_
    refine z_getN hE d_Re_compare_71 fl_Re_55 (by assumption) rfl ?_
    refine z_if_ge (tgt := 82) hE d_Re_compare_74 (by decide) (fun c_74 => ?_) (fun c_74 => ?_)
    · refine z_iload_n hE d_Re_compare_82 rfl ?_
      refine z_iret hE hQ d_Re_compare_83 rfl (Nat.le_refl _) (Nat.le_refl _) ⟨?_, rfl, w2, _, V2, fin⟩
      unfold cmpF
      rw [if_pos c_8, if_neg]
      intro q
      rw [Int32.lt_iff_toInt_lt] at q
      rw [Int32.le_iff_toInt_le] at c_74
      omega
    · refine z_iload_n hE d_Re_compare_77 rfl ?_
      refine z_ineg hE d_Re_compare_78 (rfl) ?_
      refine z_goto (tgt := 83) hE d_Re_compare_79 (by decide) ?_
      refine z_iret hE hQ d_Re_compare_83 rfl (Nat.le_refl _) (Nat.le_refl _) ⟨?_, rfl, w2, _, V2, fin⟩
      unfold cmpF
      rw [if_pos c_8, if_pos]
      rw [Int32.lt_iff_toInt_lt]
      rw [Int32.le_iff_toInt_le] at c_74
      omega
  · refine z_aload_n hE d_Re_compare_11 rfl ?_
    refine z_getN hE d_Re_compare_12 fl_Re_55 (by assumption) rfl ?_
    refine z_aload_n hE d_Re_compare_15 rfl ?_
    refine z_getN hE d_Re_compare_16 fl_Re_55 (by assumption) rfl ?_
    refine z_icmp_ge (tgt := 26) hE d_Re_compare_19 (by decide) (fun c_19 => ?_) (fun c_19 => ?_)
    · refine z_iconst (v := 1) hE d_Re_compare_26 (by decide) ?_
      refine z_iret hE hQ d_Re_compare_27 rfl (Nat.le_refl _) (Nat.le_refl _) ⟨?_, rfl, gW_r, v, hV, fun _ _ => rfl⟩
      unfold cmpF
      rw [if_neg c_8, if_neg]
      intro q
      rw [Int32.lt_iff_toInt_lt] at q
      rw [Int32.le_iff_toInt_le] at c_19
      omega
    · refine z_iconst (v := (-1)) hE d_Re_compare_22 (by decide) ?_
      refine z_goto (tgt := 27) hE d_Re_compare_23 (by decide) ?_
      refine z_iret hE hQ d_Re_compare_27 rfl (Nat.le_refl _) (Nat.le_refl _) ⟨?_, rfl, gW_r, v, hV, fun _ _ => rfl⟩
      unfold cmpF
      rw [if_neg c_8, if_pos]
      rw [Int32.lt_iff_toInt_lt]
      rw [Int32.le_iff_toInt_le] at c_19
      omega

