/-! the reference: exact longs -/
theorem l_negT {x : Int64} (h : x ≠ -9223372036854775808) : (-x).toInt = -x.toInt := by
  have b1 := x.le_toInt
  have b2 := x.toInt_lt
  have hx : x.toInt ≠ -9223372036854775808 := fun q => h (by rw [← Int64.toInt_inj, q, l_min])
  rw [Int64.toInt_neg]
  exact Int.bmod_eq_of_le (by omega) (by omega)
theorem l_divm1 (a : Int64) : a / (-1) = -a := by
  by_cases h : a = -9223372036854775808
  · rw [h]; decide
  · rw [← Int64.toInt_inj, l_div (fun q => h q.1), l_negT h, l_m1, Int.tdiv_neg, Int.tdiv_one]
theorem l_mneg1 (a : Int64) : a - -a * (-1) = 0 := by rw [Int64.mul_neg, Int64.mul_one, Int64.neg_neg, Int64.sub_self]
theorem l_left {a b : Int64} (hb : b ≠ 0) (hm : b ≠ -1) : (a - a / b * b).toInt = a.toInt.tmod b.toInt := by
  have hd := l_div (x := a) (y := b) (fun q => hm q.2)
  have b1 := a.le_toInt
  have b2 := a.toInt_lt
  have e := Int.tmod_add_mul_tdiv a.toInt b.toInt
  have k1 := Int.natAbs_tmod a.toInt b.toInt
  have k3 : (a.toInt.tmod b.toInt).natAbs ≤ a.toInt.natAbs := by rw [k1]; exact Nat.mod_le _ _
  rw [Int64.toInt_sub, Int64.toInt_mul, hd, Int.sub_bmod_bmod]
  have e2 : a.toInt - a.toInt.tdiv b.toInt * b.toInt = a.toInt.tmod b.toInt := by rw [Int.mul_comm]; omega
  rw [e2]
  have hsg : 0 ≤ a.toInt → 0 ≤ a.toInt.tmod b.toInt := fun q => Int.tmod_nonneg _ q
  have hsg2 : a.toInt < 0 → a.toInt.tmod b.toInt ≤ 0 := fun q => by
    have := Int.tmod_nonneg b.toInt (show 0 ≤ -a.toInt by omega)
    rw [Int.neg_tmod] at this
    omega
  exact Int.bmod_eq_of_le (by omega) (by omega)
theorem l_leftS {a b : Int64} (hb : b ≠ 0) (hm : b ≠ -1) (h0 : a - a / b * b ≠ 0) : a - a / b * b < 0 ↔ a < 0 := by
  have e := l_left (a := a) hb hm
  rw [Int64.lt_iff_toInt_lt, Int64.lt_iff_toInt_lt, e, l_zero]
  have hn : a.toInt.tmod b.toInt ≠ 0 := by rw [← e]; exact l_ne0 h0
  constructor
  · intro h
    rcases Int.lt_or_le a.toInt 0 with q | q
    · exact q
    · have := Int.tmod_nonneg b.toInt q; omega
  · intro h
    rcases Int.lt_or_le (a.toInt.tmod b.toInt) 0 with q | q
    · exact q
    · have h2 : 0 ≤ (-a.toInt).tmod b.toInt := Int.tmod_nonneg _ (by omega)
      rw [Int.neg_tmod] at h2
      omega
theorem l_sz (a : Int64) : a = if a < 0 then -(lN (szL a)) else lN (szL a) := by
  by_cases h : a < 0
  · rw [if_pos h, ← szL_neg h, Int64.neg_neg]
  · rw [if_neg h]; exact szL_nn h
theorem l_prod (a b : Int64) : (if ¬ (a < 0 ↔ b < 0) then -(lN (szL a * szL b)) else lN (szL a * szL b)) = a * b := by
  have ha := l_sz a
  have hb := l_sz b
  by_cases h1 : a < 0 <;> by_cases h2 : b < 0
  · rw [if_neg (by simp [h1, h2])]
    rw [if_pos h1] at ha
    rw [if_pos h2] at hb
    rw [ha, hb, Int64.neg_mul, Int64.mul_neg, Int64.neg_neg, lN_mul, ← ha, ← hb]
  · rw [if_pos (by simp [h1, h2])]
    rw [if_pos h1] at ha
    rw [if_neg h2] at hb
    rw [ha, hb, Int64.neg_mul, lN_mul, ← ha, ← hb]
  · rw [if_pos (by simp [h1, h2])]
    rw [if_neg h1] at ha
    rw [if_pos h2] at hb
    rw [ha, hb, Int64.mul_neg, lN_mul, ← ha, ← hb]
  · rw [if_neg (by simp [h1, h2])]
    rw [if_neg h1] at ha
    rw [if_neg h2] at hb
    rw [ha, hb, lN_mul, ← ha, ← hb]
theorem l_fits (a b : Int64) : (szL a * szL b < 9223372036854775808 ∨ ¬ (a < 0 ↔ b < 0) ∧ szL a * szL b = 9223372036854775808) ↔ (-9223372036854775808 ≤ a.toInt * b.toInt ∧ a.toInt * b.toInt ≤ 9223372036854775807) := by
  unfold szL
  have e : a.toInt.natAbs * b.toInt.natAbs = (a.toInt * b.toInt).natAbs := (Int.natAbs_mul _ _).symm
  rw [e, Int64.lt_iff_toInt_lt, Int64.lt_iff_toInt_lt, l_zero]
  have hs : (¬ (a.toInt < 0 ↔ b.toInt < 0)) → a.toInt * b.toInt ≤ 0 := by
    intro h
    rcases Int.lt_or_le a.toInt 0 with q | q <;> rcases Int.lt_or_le b.toInt 0 with r | r
    · exact absurd (by omega) h
    · exact Int.mul_nonpos_of_nonpos_of_nonneg (by omega) r
    · exact Int.mul_nonpos_of_nonneg_of_nonpos q (by omega)
    · exact absurd (by omega) h
  have hp : (a.toInt < 0 ↔ b.toInt < 0) → 0 ≤ a.toInt * b.toInt := by
    intro h
    rcases Int.lt_or_le a.toInt 0 with q | q <;> rcases Int.lt_or_le b.toInt 0 with r | r
    · exact Int.mul_nonneg_of_nonpos_of_nonpos (by omega) (by omega)
    · exact absurd (h.mp q) (by omega)
    · exact absurd (h.mpr r) (by omega)
    · exact Int.mul_nonneg q r
  by_cases h : a.toInt < 0 ↔ b.toInt < 0
  · have := hp h
    constructor
    · rintro (z | ⟨z, -⟩)
      · omega
      · exact absurd h z
    · intro z; exact Or.inl (by omega)
  · have := hs h
    constructor
    · rintro (z | ⟨-, z⟩)
      · omega
      · omega
    · intro z
      rcases Int.lt_or_eq_of_le z.1 with q | q
      · exact Or.inl (by omega)
      · exact Or.inr ⟨h, by omega⟩
section ZL
variable {E : zE} {l : Launch} {M : mI} {tc ts : Nat} {g : Gh} {nx cells slots pc : Nat} {lv : List (Nat × Value)} {rest : List Value}
/-- a call that ends with another's answer of a long -/
theorem z_mlret (hE : zOk E l M tc ts) {g0 g1 : Gh} {P n0 : Nat} {p p' : Vx} {r : Option Value} (hQ : zRt E tc ts (pM g0 P n0 p)) (hd : decode M.2.1 pc = .ok (.lreturn, 1)) (hret : M.2.2.2.1 = some .long) (hc : cells ≤ tc) (hs : slots ≤ ts) (hx : gW g0 g1 P (P + 14)) (e : p = p') (hl : ∃ v, p'.1 = .long v) (hp : pM g1 P n0 p' r g nx) : zJ E g nx cells slots pc lv (r.toList ++ []) := by
  obtain ⟨v, hv⟩ := hl
  obtain ⟨h1, h2, h3, h4⟩ := hp
  rw [hv] at h1
  subst h1
  subst e
  exact z_lret hE hQ hd hret hc hs ⟨by rw [hv], h2, h3, gW_t hx h4⟩
end ZL
theorem c_Mo_exactProduct (l : Launch) {g : Gh} (nx : Nat) {P : Nat} {E0 : Nat → Option Qf} {S : Sx} {ts : Int32} {t : Nat → Nat} (hV : MV g P E0 S.2.1 S.2.2.2.1 S.2.2.2.2 ts t) (hEQ : EQS E0 S) (a b : Int64) : Ct l m_Mo_exactProduct 0 0 [.ref P, .long a, .long b] g nx (pM g P nx (if -9223372036854775808 ≤ a.toInt * b.toInt ∧ a.toInt * b.toInt ≤ 9223372036854775807 then (.long (a * b), sC S 0) else tellL S 7)) := by
  have h0 := hV.1
  have ba := szL_le a
  have bb := szL_le b
  refine Ct.of (by decide) (Nat.le_of_ble_eq_true rfl) (fun E hE hQ => ?_)
  have next : ∀ lv, lG lv 0 = some (.ref P) → lG lv 1 = some (.long a) → lG lv 3 = some (.long b) → zJ E g nx 0 0 16 lv [.long (lN (szL a)), .ref (P + 8)] := by
    intro lv l0 l1 l3
    refine z_sub (lv' := [(0, .ref P), (1, .long a), (3, .long b)]) (by simp only [List.map, l0, l1, l3]) ?_
    refine z_callS hE d_Mo_exactProduct_16 cl_Mo_142 (c_Mo_setLong l nx (MV_m hV 8 (by omega) (by omega)) (szL a) (by omega)) rfl (Nat.le_of_ble_eq_true rfl) ⟨by decide, by decide⟩ ⟨by omega, by omega⟩ (fun r_1 g_1 nx_1 hp_1 => ?_) rfl
    try dsimp only [Option.toList, List.nil_append, List.cons_append]
    obtain ⟨rfl, rfl, N1, G1⟩ := hp_1
    try dsimp only [Option.toList, List.nil_append, List.cons_append]
    have V1 := MV_up hV (by omega) N1 G1
    have m1 := V1.1
    have W1 : gW g g_1 P (P + 14) := gW_t gW_r (g1_W G1 (by omega) (by omega))
    have next2 : ∀ lv, lG lv 0 = some (.ref P) → lG lv 1 = some (.long a) → lG lv 3 = some (.long b) → zJ E g_1 nx 0 0 35 lv [.long (lN (szL b)), .ref (P + 9)] := by
      intro lv l0 l1 l3
      refine z_sub (lv' := [(0, .ref P), (1, .long a), (3, .long b)]) (by simp only [List.map, l0, l1, l3]) ?_
      refine z_callS hE d_Mo_exactProduct_35 cl_Mo_142 (c_Mo_setLong l nx (MV_m V1 9 (by omega) (by omega)) (szL b) (by omega)) rfl (Nat.le_of_ble_eq_true rfl) ⟨by decide, by decide⟩ ⟨by omega, by omega⟩ (fun r_2 g_2 nx_2 hp_2 => ?_) rfl
      try dsimp only [Option.toList, List.nil_append, List.cons_append]
      obtain ⟨rfl, rfl, N2, G2⟩ := hp_2
      try dsimp only [Option.toList, List.nil_append, List.cons_append]
      have V2 := MV_up V1 (by omega) N2 G2
      have m2 := V2.1
      have W2 : gW g g_2 P (P + 14) := gW_t W1 (g1_W G2 (by omega) (by omega))
      have hpl : szL a * szL b < 65536 ^ 56 := Nat.lt_of_le_of_lt (Nat.mul_le_mul ba bb) (by decide)
      refine z_aload_n hE d_Mo_exactProduct_38 rfl ?_
      refine z_get hE d_Mo_exactProduct_39 fl_Mo_32 (by assumption) rfl ?_
      refine z_aload_n hE d_Mo_exactProduct_42 rfl ?_
      refine z_get hE d_Mo_exactProduct_43 fl_Mo_35 (by assumption) rfl ?_
      refine z_aload_n hE d_Mo_exactProduct_46 rfl ?_
      refine z_get hE d_Mo_exactProduct_47 fl_Mo_44 (by assumption) rfl ?_
      refine z_callS hE d_Mo_exactProduct_50 cl_Mo_131 (c_Mo_multiply l nx (MA_o N1 G2 (by omega)) N2 (MV_m V2 12 (by omega) (by omega)) (by omega) (by omega) hpl) rfl (Nat.le_of_ble_eq_true rfl) ⟨by decide, by decide⟩ ⟨by omega, by omega⟩ (fun r_3 g_3 nx_3 hp_3 => ?_) rfl
      try dsimp only [Option.toList, List.nil_append, List.cons_append]
      obtain ⟨rfl, rfl, N3, G3⟩ := hp_3
      try dsimp only [Option.toList, List.nil_append, List.cons_append]
      have V3 := MV_up V2 (by omega) N3 G3
      have m3 := V3.1
      have W3 : gW g g_3 P (P + 14) := gW_t W2 (g1_W G3 (by omega) (by omega))
      have fin : ∀ lv, zJ E g_3 nx 0 0 84 lv [.int (if ¬ (a < 0 ↔ b < 0) then 1 else 0), .ref P] := by
        intro lv
        refine z_callV hE d_Mo_exactProduct_84 cl_Mo_193 (c_Mo_signedLong l nx V3 hEQ (¬ (a < 0 ↔ b < 0))) (by assumption) cb_Mo rfl (Nat.le_of_ble_eq_true rfl) ⟨by decide, by decide⟩ ⟨by omega, by omega⟩ (fun r_8 g_8 nx_8 hp_8 => ?_) rfl
        try dsimp only [Option.toList, List.nil_append, List.cons_append]
        refine z_mlret hE hQ d_Mo_exactProduct_87 rfl (by omega) (by omega) W3 ?_ (by split; exact ⟨_, rfl⟩; exact ⟨_, rfl⟩) hp_8
        show _ = if szL a * szL b < 9223372036854775808 ∨ ¬ (a < 0 ↔ b < 0) ∧ szL a * szL b = 9223372036854775808 then (.long (if ¬ (a < 0 ↔ b < 0) then -(lN (szL a * szL b)) else lN (szL a * szL b)), sC S 0) else tellL S 7
        rw [l_prod]
        by_cases hh : -9223372036854775808 ≤ a.toInt * b.toInt ∧ a.toInt * b.toInt ≤ 9223372036854775807
        · rw [if_pos hh, if_pos ((l_fits a b).mpr hh)]
        · rw [if_neg hh, if_neg (fun w => hh ((l_fits a b).mp w))]
      have f1 : ∀ (z : Int32) lv, z = (if a < 0 then 1 else 0) → lG lv 0 = some (.ref P) → lG lv 3 = some (.long b) → zJ E g_3 nx 0 0 65 lv (.int z :: [.ref P]) := by
        intro z lv hz l0 l3
        refine z_sub (lv' := [(0, .ref P), (3, .long b)]) (by simp only [List.map, l0, l3]) ?_
        have f2 : ∀ (z' : Int32) lv, z' = (if b < 0 then 1 else 0) → lG lv 0 = some (.ref P) → zJ E g_3 nx 0 0 76 lv (.int z' :: .int z :: [.ref P]) := by
          intro z' lv hz' l0
          refine z_sub (lv' := [(0, .ref P)]) (by simp only [List.map, l0]) ?_
          by_cases hzz : a < 0 ↔ b < 0
          · have hh := fin [(0, .ref P)]
            rw [if_neg (fun w => w hzz)] at hh
            refine z_icmp_eq (tgt := 83) hE d_Mo_exactProduct_76 (by decide) (fun _ => ?_) (fun c_ => absurd c_ (fun w => w (by rw [hz, hz']; by_cases q : a < 0; rw [if_pos q, if_pos (hzz.mp q)]; rw [if_neg q, if_neg (fun y => q (hzz.mpr y))])))
            refine z_iconst (v := 0) hE d_Mo_exactProduct_83 (by decide) ?_
            exact hh
          · have hh := fin [(0, .ref P)]
            rw [if_pos hzz] at hh
            refine z_icmp_eq (tgt := 83) hE d_Mo_exactProduct_76 (by decide) (fun c_ => absurd c_ (fun w => by rw [hz, hz'] at w; apply hzz; by_cases q : a < 0 <;> by_cases r : b < 0; exact ⟨fun _ => r, fun _ => q⟩; rw [if_pos q, if_neg r] at w; exact absurd w (by decide); rw [if_neg q, if_pos r] at w; exact absurd w (by decide); exact ⟨fun y => absurd y q, fun y => absurd y r⟩)) (fun _ => ?_)
            refine z_iconst (v := 1) hE d_Mo_exactProduct_79 (by decide) ?_
            refine z_goto (tgt := 84) hE d_Mo_exactProduct_80 (by decide) ?_
            exact hh
        refine z_lload_n hE d_Mo_exactProduct_65 rfl ?_
        refine z_lconst (v := (0 : Int64)) hE d_Mo_exactProduct_66 (by decide) ?_
        refine z_lcmp hE d_Mo_exactProduct_67 ?_
        refine z_if_ge (tgt := 75) hE d_Mo_exactProduct_68 (by decide) (fun c_68 => ?_) (fun c_68 => ?_)
        · rw [lg_cmp_ge] at c_68
          refine z_iconst (v := 0) hE d_Mo_exactProduct_75 (by decide) ?_
          exact f2 0 _ (by rw [if_neg (Int64.not_lt.mpr c_68)]) rfl
        · rw [lg_cmp_ge] at c_68
          refine z_iconst (v := 1) hE d_Mo_exactProduct_71 (by decide) ?_
          refine z_goto (tgt := 76) hE d_Mo_exactProduct_72 (by decide) ?_
          exact f2 1 _ (by rw [if_pos (Int64.not_le.mp c_68)]) rfl
      refine z_aload_n hE d_Mo_exactProduct_53 rfl ?_
      refine z_lload_n hE d_Mo_exactProduct_54 rfl ?_
      refine z_lconst (v := (0 : Int64)) hE d_Mo_exactProduct_55 (by decide) ?_
      refine z_lcmp hE d_Mo_exactProduct_56 ?_
      refine z_if_ge (tgt := 64) hE d_Mo_exactProduct_57 (by decide) (fun c_57 => ?_) (fun c_57 => ?_)
      · rw [lg_cmp_ge] at c_57
        refine z_iconst (v := 0) hE d_Mo_exactProduct_64 (by decide) ?_
        exact f1 0 _ (by rw [if_neg (Int64.not_lt.mpr c_57)]) rfl rfl
      · rw [lg_cmp_ge] at c_57
        refine z_iconst (v := 1) hE d_Mo_exactProduct_60 (by decide) ?_
        refine z_goto (tgt := 65) hE d_Mo_exactProduct_61 (by decide) ?_
        exact f1 1 _ (by rw [if_pos (Int64.not_le.mp c_57)]) rfl rfl
    refine z_aload_n hE d_Mo_exactProduct_19 rfl ?_
    refine z_get hE d_Mo_exactProduct_20 fl_Mo_35 (by assumption) rfl ?_
    refine z_lload_n hE d_Mo_exactProduct_23 rfl ?_
    refine z_lconst (v := (0 : Int64)) hE d_Mo_exactProduct_24 (by decide) ?_
    refine z_lcmp hE d_Mo_exactProduct_25 ?_
    refine z_if_ge (tgt := 34) hE d_Mo_exactProduct_26 (by decide) (fun c_26 => ?_) (fun c_26 => ?_)
    · rw [lg_cmp_ge] at c_26
      refine z_lload_n hE d_Mo_exactProduct_34 rfl ?_
      have hh := next2 [(0, .ref P), (1, .long a), (3, .long b)] rfl rfl rfl
      rw [← szL_nn (Int64.not_lt.mpr c_26)] at hh
      exact hh
    · rw [lg_cmp_ge] at c_26
      refine z_lload_n hE d_Mo_exactProduct_29 rfl ?_
      refine z_lneg (v := lN (szL b)) hE d_Mo_exactProduct_30 (szL_neg (Int64.not_le.mp c_26)) ?_
      refine z_goto (tgt := 35) hE d_Mo_exactProduct_31 (by decide) ?_
      exact next2 _ rfl rfl rfl
  refine z_aload_n hE d_Mo_exactProduct_0 rfl ?_
  refine z_get hE d_Mo_exactProduct_1 fl_Mo_32 (by assumption) rfl ?_
  refine z_lload_n hE d_Mo_exactProduct_4 rfl ?_
  refine z_lconst (v := (0 : Int64)) hE d_Mo_exactProduct_5 (by decide) ?_
  refine z_lcmp hE d_Mo_exactProduct_6 ?_
  refine z_if_ge (tgt := 15) hE d_Mo_exactProduct_7 (by decide) (fun c_7 => ?_) (fun c_7 => ?_)
  · rw [lg_cmp_ge] at c_7
    refine z_lload_n hE d_Mo_exactProduct_15 rfl ?_
    have hh := next [(0, .ref P), (1, .long a), (3, .long b)] rfl rfl rfl
    rw [← szL_nn (Int64.not_lt.mpr c_7)] at hh
    exact hh
  · rw [lg_cmp_ge] at c_7
    refine z_lload_n hE d_Mo_exactProduct_10 rfl ?_
    refine z_lneg (v := lN (szL a)) hE d_Mo_exactProduct_11 (szL_neg (Int64.not_le.mp c_7)) ?_
    refine z_goto (tgt := 16) hE d_Mo_exactProduct_12 (by decide) ?_
    exact next _ rfl rfl rfl
theorem c_Mo_exactQuotient (l : Launch) {g : Gh} (nx : Nat) {P : Nat} {E0 : Nat → Option Qf} {S : Sx} {ts : Int32} {t : Nat → Nat} (hV : MV g P E0 S.2.1 S.2.2.2.1 S.2.2.2.2 ts t) (hEQ : EQS E0 S) (hc : S.2.2.2.1 = 0) (k : Nat) (hk : 5 ≤ k) (hk7 : k ≤ 7) (a b : Int64) : Ct l m_Mo_exactQuotient 0 0 [.ref P, .int (nI k), .long a, .long b] g nx (pM g P nx (if b = 0 then tellL S 5 else match exV k a b with | none => tellL S 7 | some z => (.long z, sC S 0))) := by
  have h0 := hV.1
  have eS : sC S 0 = S := by obtain ⟨s1, s2, s3, s4, s5⟩ := S; dsimp only at hc; rw [hc]; rfl
  refine Ct.of (by decide) (Nat.le_of_ble_eq_true rfl) (fun E hE hQ => ?_)
  have fin : ∀ (z : Int64) lv pc, (pc = 53 ∨ pc = 133) → ¬ b = 0 → exV k a b = some z → zJ E g nx 0 0 pc lv [.long z] := by
    intro z lv pc hpc hb he
    have hp : pM g P nx (if b = 0 then tellL S 5 else match exV k a b with | none => tellL S 7 | some z => (.long z, sC S 0)) (some (.long z)) g nx := pM_of (S := S) (by rw [if_neg hb, he, eS]) hV hEQ gW_r
    rcases hpc with rfl | rfl
    · exact z_lret hE hQ d_Mo_exactQuotient_53 rfl (by omega) (by omega) hp
    · exact z_lret hE hQ d_Mo_exactQuotient_133 rfl (by omega) (by omega) hp
  refine z_lload hE d_Mo_exactQuotient_0 rfl ?_
  refine z_lconst (v := (0 : Int64)) hE d_Mo_exactQuotient_2 (by decide) ?_
  refine z_lcmp hE d_Mo_exactQuotient_3 ?_
  by_cases hb : b = 0
  case pos =>
    refine z_if_ne (tgt := 14) hE d_Mo_exactQuotient_4 (by decide) (fun c_ => absurd c_ (fun z => z (by rw [lg_cmp_eq]; exact hb))) (fun _ => ?_)
    refine z_aload_n hE d_Mo_exactQuotient_7 rfl ?_
    refine z_iconst (v := 5) hE d_Mo_exactQuotient_8 (by decide) ?_
    refine z_callV hE d_Mo_exactQuotient_9 cl_Mo_106 (c_Mo_fail l nx hV 5) (by assumption) cb_Mo rfl (Nat.le_of_ble_eq_true rfl) ⟨by decide, by decide⟩ ⟨by omega, by omega⟩ (fun r_9 g_9 nx_9 hp_9 => ?_) rfl
    try dsimp only [Option.toList, List.nil_append, List.cons_append]
    obtain ⟨rfl, rfl, V9, G9⟩ := hp_9
    try dsimp only [Option.toList, List.nil_append, List.cons_append]
    refine z_i2l hE d_Mo_exactQuotient_12 (rfl) ?_
    refine z_lret hE hQ d_Mo_exactQuotient_13 rfl (by omega) (by omega) (pM_of (S := sC S 5) ?_ V9 (EQS_c hEQ rfl rfl) (gW_t gW_r (g1_W G9 (by omega) (by omega))))
    rw [if_pos hb]; rfl
  refine z_if_ne (tgt := 14) hE d_Mo_exactQuotient_4 (by decide) (fun _ => ?_) (fun c_ => absurd c_ (fun z => hb (by rw [lg_cmp_eq] at z; exact z)))
  refine z_lload hE d_Mo_exactQuotient_14 rfl ?_
  refine z_ldc2 hE d_Mo_exactQuotient_16 cn_Mo_209 ?_
  refine z_lcmp hE d_Mo_exactQuotient_19 ?_
  by_cases hm : b = -1
  case pos =>
    refine z_if_ne (tgt := 54) hE d_Mo_exactQuotient_20 (by decide) (fun c_ => absurd c_ (fun z => z (by rw [lg_cmp_eq]; exact hm))) (fun _ => ?_)
    refine z_iload_n hE d_Mo_exactQuotient_23 rfl ?_
    refine z_bipush (v := nI 6) hE d_Mo_exactQuotient_24 (by decide) ?_
    by_cases k6 : k = 6
    · refine z_icmp_ne (tgt := 33) hE d_Mo_exactQuotient_26 (by decide) (fun c_ => absurd c_ (fun w => w (by rw [k6]))) (fun _ => ?_)
      refine z_lconst (v := (0 : Int64)) hE d_Mo_exactQuotient_29 (by decide) ?_
      refine z_goto (tgt := 53) hE d_Mo_exactQuotient_30 (by decide) ?_
      refine fin 0 _ 53 (Or.inl rfl) hb ?_
      rw [k6]
      show some (a - a / b * b) = some 0
      rw [hm, l_divm1, l_mneg1]
    · refine z_icmp_ne (tgt := 33) hE d_Mo_exactQuotient_26 (by decide) (fun _ => ?_) (fun c_ => absurd c_ (fun w => k6 ((nI_EQ (by omega) (by omega)).mp w)))
      have h57 : k = 5 ∨ k = 7 := by omega
      refine z_lload_n hE d_Mo_exactQuotient_33 rfl ?_
      refine z_ldc2 hE d_Mo_exactQuotient_34 cn_Mo_183 ?_
      refine z_lcmp hE d_Mo_exactQuotient_37 ?_
      by_cases hl : a = -9223372036854775808
      · refine z_if_ne (tgt := 51) hE d_Mo_exactQuotient_38 (by decide) (fun c_ => absurd c_ (fun z => z (by rw [lg_cmp_eq]; exact hl))) (fun _ => ?_)
        have he : exV k a b = none := by
          rcases h57 with q | q
          · rw [q]; exact if_pos ⟨hl, hm⟩
          · rw [q]; exact if_pos ⟨hl, hm⟩
        refine z_aload_n hE d_Mo_exactQuotient_41 rfl ?_
        refine z_bipush (v := 7) hE d_Mo_exactQuotient_42 (by decide) ?_
        refine z_callV hE d_Mo_exactQuotient_44 cl_Mo_106 (c_Mo_fail l nx hV 7) (by assumption) cb_Mo rfl (Nat.le_of_ble_eq_true rfl) ⟨by decide, by decide⟩ ⟨by omega, by omega⟩ (fun r_9 g_9 nx_9 hp_9 => ?_) rfl
        try dsimp only [Option.toList, List.nil_append, List.cons_append]
        obtain ⟨rfl, rfl, V9, G9⟩ := hp_9
        try dsimp only [Option.toList, List.nil_append, List.cons_append]
        refine z_i2l hE d_Mo_exactQuotient_47 (rfl) ?_
        refine z_goto (tgt := 53) hE d_Mo_exactQuotient_48 (by decide) ?_
        refine z_lret hE hQ d_Mo_exactQuotient_53 rfl (by omega) (by omega) (pM_of (S := sC S 7) ?_ V9 (EQS_c hEQ rfl rfl) (gW_t gW_r (g1_W G9 (by omega) (by omega))))
        rw [if_neg hb, he]; rfl
      · refine z_if_ne (tgt := 51) hE d_Mo_exactQuotient_38 (by decide) (fun _ => ?_) (fun c_ => absurd c_ (fun z => hl (by rw [lg_cmp_eq] at z; exact z)))
        refine z_lload_n hE d_Mo_exactQuotient_51 rfl ?_
        refine z_lneg hE d_Mo_exactQuotient_52 (rfl) ?_
        refine fin (-a) _ 53 (Or.inl rfl) hb ?_
        rcases h57 with q | q
        · rw [q]
          show (if a = -9223372036854775808 ∧ b = -1 then none else some (a / b)) = some (-a)
          rw [if_neg (fun w => hl w.1), hm, l_divm1]
        · rw [q]
          show (if a = -9223372036854775808 ∧ b = -1 then none else some (if ¬ a - a / b * b = 0 ∧ ¬ (a < 0 ↔ b < 0) then a / b - 1 else a / b)) = some (-a)
          rw [if_neg (fun w => hl w.1), hm, l_divm1, if_neg (fun w => w.1 (l_mneg1 a))]
  refine z_if_ne (tgt := 54) hE d_Mo_exactQuotient_20 (by decide) (fun _ => ?_) (fun c_ => absurd c_ (fun z => hm (by rw [lg_cmp_eq] at z; exact z)))
  refine z_lload_n hE d_Mo_exactQuotient_54 rfl ?_
  refine z_lload hE d_Mo_exactQuotient_55 rfl ?_
  refine z_ldiv hE d_Mo_exactQuotient_57 (hb) (rfl) ?_
  refine z_lstore hE d_Mo_exactQuotient_58 (by decide) ?_
  refine z_lload_n hE d_Mo_exactQuotient_60 rfl ?_
  refine z_lload hE d_Mo_exactQuotient_61 rfl ?_
  refine z_lload hE d_Mo_exactQuotient_63 rfl ?_
  refine z_lmul hE d_Mo_exactQuotient_65 (rfl) ?_
  refine z_lsub hE d_Mo_exactQuotient_66 (rfl) ?_
  refine z_lstore hE d_Mo_exactQuotient_67 (by decide) ?_
  refine z_iload_n hE d_Mo_exactQuotient_69 rfl ?_
  refine z_iconst (v := nI 5) hE d_Mo_exactQuotient_70 (by decide) ?_
  by_cases k5 : k = 5
  · refine z_icmp_ne (tgt := 79) hE d_Mo_exactQuotient_71 (by decide) (fun c_ => absurd c_ (fun w => w (by rw [k5]))) (fun _ => ?_)
    refine z_lload hE d_Mo_exactQuotient_74 rfl ?_
    refine z_goto (tgt := 133) hE d_Mo_exactQuotient_76 (by decide) ?_
    refine fin (a / b) _ 133 (Or.inr rfl) hb ?_
    rw [k5]
    exact if_neg (fun w => hm w.2)
  · refine z_icmp_ne (tgt := 79) hE d_Mo_exactQuotient_71 (by decide) (fun _ => ?_) (fun c_ => absurd c_ (fun w => k5 ((nI_EQ (by omega) (by omega)).mp w)))
    refine z_iload_n hE d_Mo_exactQuotient_79 rfl ?_
    refine z_bipush (v := nI 6) hE d_Mo_exactQuotient_80 (by decide) ?_
    by_cases k6 : k = 6
    · refine z_icmp_ne (tgt := 90) hE d_Mo_exactQuotient_82 (by decide) (fun c_ => absurd c_ (fun w => w (by rw [k6]))) (fun _ => ?_)
      refine z_lload hE d_Mo_exactQuotient_85 rfl ?_
      refine z_goto (tgt := 133) hE d_Mo_exactQuotient_87 (by decide) ?_
      refine fin (a - a / b * b) _ 133 (Or.inr rfl) hb ?_
      rw [k6]; rfl
    · refine z_icmp_ne (tgt := 90) hE d_Mo_exactQuotient_82 (by decide) (fun _ => ?_) (fun c_ => absurd c_ (fun w => k6 ((nI_EQ (by omega) (by omega)).mp w)))
      have k7 : k = 7 := by omega
      have he : exV k a b = some (if ¬ a - a / b * b = 0 ∧ ¬ (a < 0 ↔ b < 0) then a / b - 1 else a / b) := by rw [k7]; exact if_neg (fun w => hm w.2)
      have same : ∀ lv, ¬ (¬ a - a / b * b = 0 ∧ ¬ (a < 0 ↔ b < 0)) → lG lv 6 = some (.long (a / b)) → zJ E g nx 0 0 131 lv [] := by
        intro lv h l6
        refine z_sub (lv' := [(6, .long (a / b))]) (by simp only [List.map, l6]) ?_
        refine z_lload hE d_Mo_exactQuotient_131 rfl ?_
        exact fin _ _ 133 (Or.inr rfl) hb (by rw [he, if_neg h])
      refine z_lload hE d_Mo_exactQuotient_90 rfl ?_
      refine z_lconst (v := (0 : Int64)) hE d_Mo_exactQuotient_92 (by decide) ?_
      refine z_lcmp hE d_Mo_exactQuotient_93 ?_
      by_cases hr : a - a / b * b = 0
      · refine z_if_eq (tgt := 131) hE d_Mo_exactQuotient_94 (by decide) (fun _ => ?_) (fun c_ => absurd c_ (fun z => z (by rw [lg_cmp_eq]; exact hr)))
        exact same _ (fun w => w.1 hr) rfl
      · refine z_if_eq (tgt := 131) hE d_Mo_exactQuotient_94 (by decide) (fun c_ => absurd c_ (fun z => hr (by rw [lg_cmp_eq] at z; exact z))) (fun _ => ?_)
        have hsg := l_leftS hb hm hr
        obtain ⟨w, hw⟩ : ∃ w, a - a / b * b = w := ⟨_, rfl⟩
        obtain ⟨q, hq⟩ : ∃ q, a / b = q := ⟨_, rfl⟩
        have f1 : ∀ (z : Int32) lv, z = (if (a - a / b * b) < 0 then 1 else 0) → lG lv 4 = some (.long b) → lG lv 6 = some (.long (a / b)) → zJ E g nx 0 0 109 lv (.int z :: []) := by
          intro z lv hz l4 l6
          refine z_sub (lv' := [(4, .long b), (6, .long (a / b))]) (by simp only [List.map, l4, l6]) ?_
          have f2 : ∀ (z' : Int32) lv, z' = (if b < 0 then 1 else 0) → lG lv 6 = some (.long (a / b)) → zJ E g nx 0 0 121 lv (.int z' :: .int z :: []) := by
            intro z' lv hz' l6
            refine z_sub (lv' := [(6, .long (a / b))]) (by simp only [List.map, l6]) ?_
            by_cases hzz : a < 0 ↔ b < 0
            · refine z_icmp_eq (tgt := 131) hE d_Mo_exactQuotient_121 (by decide) (fun _ => ?_) (fun c_ => absurd c_ (fun w => w (by rw [hz, hz']; by_cases q : b < 0; rw [if_pos q, if_pos (hsg.mpr (hzz.mpr q))]; rw [if_neg q, if_neg (fun y => q (hzz.mp (hsg.mp y)))])))
              exact same _ (fun w => w.2 hzz) rfl
            · refine z_icmp_eq (tgt := 131) hE d_Mo_exactQuotient_121 (by decide) (fun c_ => absurd c_ (fun w => by rw [hz, hz'] at w; apply hzz; by_cases q : a < 0 <;> by_cases r : b < 0; exact ⟨fun _ => r, fun _ => q⟩; rw [if_pos (hsg.mpr q), if_neg r] at w; exact absurd w (by decide); rw [if_neg (fun y => q (hsg.mp y)), if_pos r] at w; exact absurd w (by decide); exact ⟨fun y => absurd y q, fun y => absurd y r⟩)) (fun _ => ?_)
              refine z_lload hE d_Mo_exactQuotient_124 rfl ?_
              refine z_lconst (v := (1 : Int64)) hE d_Mo_exactQuotient_126 (by decide) ?_
              refine z_lsub hE d_Mo_exactQuotient_127 (rfl) ?_
              refine z_goto (tgt := 133) hE d_Mo_exactQuotient_128 (by decide) ?_
              exact fin _ _ 133 (Or.inr rfl) hb (by rw [he, if_pos ⟨hr, hzz⟩])
          refine z_lload hE d_Mo_exactQuotient_109 rfl ?_
          refine z_lconst (v := (0 : Int64)) hE d_Mo_exactQuotient_111 (by decide) ?_
          refine z_lcmp hE d_Mo_exactQuotient_112 ?_
          refine z_if_ge (tgt := 120) hE d_Mo_exactQuotient_113 (by decide) (fun c_113 => ?_) (fun c_113 => ?_)
          · rw [lg_cmp_ge] at c_113
            refine z_iconst (v := 0) hE d_Mo_exactQuotient_120 (by decide) ?_
            exact f2 0 _ (by rw [if_neg (Int64.not_lt.mpr c_113)]) rfl
          · rw [lg_cmp_ge] at c_113
            refine z_iconst (v := 1) hE d_Mo_exactQuotient_116 (by decide) ?_
            refine z_goto (tgt := 121) hE d_Mo_exactQuotient_117 (by decide) ?_
            exact f2 1 _ (by rw [if_pos (Int64.not_le.mp c_113)]) rfl
        refine z_lload hE d_Mo_exactQuotient_97 rfl ?_
        refine z_lconst (v := (0 : Int64)) hE d_Mo_exactQuotient_99 (by decide) ?_
        refine z_lcmp hE d_Mo_exactQuotient_100 ?_
        refine z_if_ge (tgt := 108) hE d_Mo_exactQuotient_101 (by decide) (fun c_101 => ?_) (fun c_101 => ?_)
        · rw [lg_cmp_ge] at c_101
          refine z_iconst (v := 0) hE d_Mo_exactQuotient_108 (by decide) ?_
          exact f1 0 _ (by rw [if_neg (Int64.not_lt.mpr c_101)]) rfl rfl
        · rw [lg_cmp_ge] at c_101
          refine z_iconst (v := 1) hE d_Mo_exactQuotient_104 (by decide) ?_
          refine z_goto (tgt := 109) hE d_Mo_exactQuotient_105 (by decide) ?_
          exact f1 1 _ (by rw [if_pos (Int64.not_le.mp c_101)]) rfl rfl
theorem exV_2 (a b : Int64) : exV 2 a b = if -9223372036854775808 ≤ a.toInt * b.toInt ∧ a.toInt * b.toInt ≤ 9223372036854775807 then some (a * b) else none := rfl
theorem c_Mo_exact (l : Launch) {g : Gh} (nx : Nat) {P : Nat} {S : Sx} (hM : MW g P S) (hO : SOK S) (op : Int32) (a b : Int64) : Ct l m_Mo_exact 0 0 [.ref P, .int op, .long a, .long b] g nx (pM g P nx (spExact S op a b)) := by
  obtain ⟨E0, t, ts, hV, hEQ⟩ := hM
  have h0 := hV.1
  obtain ⟨-, ⟨th, h1, h1'⟩, ⟨sn, A, B, h2, h3, h4, b4, b5, b6⟩, ⟨rm, h5, h5'⟩, -⟩ := id hV
  refine Ct.of (by decide) (Nat.le_of_ble_eq_true rfl) (fun E hE hQ => ?_)
  have out : ∀ lv, ¬ (inI op 0 7) → zJ E g nx 0 0 12 lv [] := by
    intro lv h
    refine z_ldc2 hE d_Mo_exact_12 cn_Mo_181 ?_
    exact z_lret hE hQ d_Mo_exact_15 rfl (by omega) (by omega) (pM_of (if_neg h) hV hEQ gW_r)
  refine z_iload_n hE d_Mo_exact_0 rfl ?_
  refine z_i2l hE d_Mo_exact_1 (rfl) ?_
  refine z_lconst (v := 0) hE d_Mo_exact_2 (by decide) ?_
  refine z_ldc2 hE d_Mo_exact_3 cn_Mo_211 ?_
  refine z_callS hE d_Mo_exact_6 cl_Mo_125 (c_Mo_inI l g nx op 0 7 0 7 (by decide) (by decide)) rfl (Nat.le_of_ble_eq_true rfl) ⟨by decide, by decide⟩ ⟨by omega, by omega⟩ (fun r_6 g_6 nx_6 hp_6 => ?_) rfl
  obtain ⟨rfl, rfl, rfl⟩ := hp_6
  try dsimp only [Option.toList, List.nil_append, List.cons_append]
  by_cases ho : inI op 0 7
  case neg =>
    rw [if_neg ho]
    refine z_if_ne (tgt := 16) hE d_Mo_exact_9 (by decide) (fun c_ => absurd c_ (by decide)) (fun _ => ?_)
    exact out _ (fun q => ho q)
  rw [if_pos ho]
  refine z_if_ne (tgt := 16) hE d_Mo_exact_9 (by decide) (fun _ => ?_) (fun c_ => absurd c_ (by decide))
  obtain ⟨eo, zo, ho2⟩ := fx_of ho (by omega) (by omega)
  have hspec : spExact S op a b = if 5 ≤ fx op ∧ b = 0 then tellL S 5 else match exV (fx op) a b with | none => tellL S 7 | some z => (.long z, sC S 0) := if_pos ho
  have V1 := MV_put hV 0 S.2.2.2.2 ts
  have m1 := V1.1
  have W1 : gW g (gS g P (oM P 0 S.2.2.2.2 ts)) P (P + 14) := gW_S (Nat.le_refl _) (by omega)
  have E1 : EQS E0 (sC S 0) := EQS_c hEQ rfl rfl
  refine z_aload_n hE d_Mo_exact_16 rfl ?_
  refine z_iconst (v := 0) hE d_Mo_exact_17 (by decide) ?_
  refine z_put hE d_Mo_exact_18 fl_Mo_50 ct_Mo ff_Mo_5 (by assumption) rfl rfl (Nat.le_of_ble_eq_true rfl) ?_
  obtain ⟨g1', hg1'⟩ : ∃ g1', g1' = gS g P (oM P 0 S.2.2.2.2 ts) := ⟨_, rfl⟩
  rw [← hg1'] at V1 m1 W1
  show zJ E (gS g P (oM P 0 S.2.2.2.2 ts)) nx 0 0 21 _ []
  rw [← hg1']
  have fin : ∀ (z : Int64) lv (pc : Nat), (pc = 132 ∨ pc = 197 ∨ pc = 226 ∨ pc = 246) → fx op < 5 → exV (fx op) a b = some z → zJ E g1' nx 0 0 pc lv [.long z] := by
    intro z lv pc hpc hb he
    have hp : pM g P nx (spExact S op a b) (some (.long z)) g1' nx := pM_of (S := sC S 0) (by rw [hspec, if_neg (by omega), he]) V1 E1 W1
    rcases hpc with rfl | rfl | rfl | rfl
    · exact z_lret hE hQ d_Mo_exact_132 rfl (by omega) (by omega) hp
    · exact z_lret hE hQ d_Mo_exact_197 rfl (by omega) (by omega) hp
    · exact z_lret hE hQ d_Mo_exact_226 rfl (by omega) (by omega) hp
    · exact z_lret hE hQ d_Mo_exact_246 rfl (by omega) (by omega) hp
  have hno : fx op < 5 → exV (fx op) a b = none → spExact S op a b = (.long 0, sC (sC S 0) 7) := fun q e => by rw [hspec, if_neg (by omega), e]; rfl
  have feq : ∀ {x y : Int64} {z z' : Int32}, z = (if x < 0 then 1 else 0) → z' = (if y < 0 then 1 else 0) → (z = z' ↔ (x < 0 ↔ y < 0)) := by
    intro x y z z' hz hz'
    rw [hz, hz']
    by_cases h1 : x < 0 <;> by_cases h2 : y < 0
    · rw [if_pos h1, if_pos h2]; exact ⟨fun _ => ⟨fun _ => h2, fun _ => h1⟩, fun _ => rfl⟩
    · rw [if_pos h1, if_neg h2]; exact ⟨fun w => absurd w (by decide), fun w => absurd (w.mp h1) h2⟩
    · rw [if_neg h1, if_pos h2]; exact ⟨fun w => absurd w (by decide), fun w => absurd (w.mpr h2) h1⟩
    · rw [if_neg h1, if_neg h2]; exact ⟨fun _ => ⟨fun w => absurd w h1, fun w => absurd w h2⟩, fun _ => rfl⟩
  refine z_lload_n hE d_Mo_exact_21 rfl ?_
  refine z_lload hE d_Mo_exact_22 rfl ?_
  refine z_ladd hE d_Mo_exact_24 (rfl) ?_
  refine z_lstore hE d_Mo_exact_25 (by decide) ?_
  refine z_lload_n hE d_Mo_exact_27 rfl ?_
  refine z_lload hE d_Mo_exact_28 rfl ?_
  refine z_lsub hE d_Mo_exact_30 (rfl) ?_
  refine z_lstore hE d_Mo_exact_31 (by decide) ?_
  refine z_iload_n hE d_Mo_exact_33 rfl ?_
  rw [eo]
  rcases (by omega : fx op = 0 ∨ fx op = 1 ∨ fx op = 2 ∨ fx op = 3 ∨ fx op = 4 ∨ 5 ≤ fx op) with q | q | q | q | q | q
  · rw [q]
    refine z_tableIn (tgt := 68) (off := 34) hE d_Mo_exact_34 (by decide) (by decide) (by decide) (by decide) ?_
    have ok : ∀ lv, ¬ ((a < 0 ↔ b < 0) ∧ ¬ (a + b < 0 ↔ a < 0)) → lG lv 6 = some (.long (a + b)) → zJ E g1' nx 0 0 130 lv [] := by
      intro lv h ll
      refine z_sub (lv' := [(6, .long (a + b))]) (by simp only [List.map, ll]) ?_
      refine z_lload hE d_Mo_exact_130 rfl ?_
      exact fin _ _ 132 (by omega) (by omega) (by rw [q]; exact if_neg h)
    have bad : ∀ lv, ((a < 0 ↔ b < 0) ∧ ¬ (a + b < 0 ↔ a < 0)) → lG lv 0 = some (.ref P) → zJ E g1' nx 0 0 120 lv [] := by
      intro lv h l0
      refine z_sub (lv' := [(0, .ref P)]) (by simp only [List.map, l0]) ?_
      refine z_aload_n hE d_Mo_exact_120 rfl ?_
      refine z_bipush (v := 7) hE d_Mo_exact_121 (by decide) ?_
      refine z_callV hE d_Mo_exact_123 cl_Mo_106 (c_Mo_fail l nx V1 7) (by assumption) cb_Mo rfl (Nat.le_of_ble_eq_true rfl) ⟨by decide, by decide⟩ ⟨by omega, by omega⟩ (fun r_9 g_9 nx_9 hp_9 => ?_) rfl
      try dsimp only [Option.toList, List.nil_append, List.cons_append]
      obtain ⟨rfl, rfl, V9, G9⟩ := hp_9
      try dsimp only [Option.toList, List.nil_append, List.cons_append]
      refine z_i2l hE d_Mo_exact_126 (rfl) ?_
      refine z_goto (tgt := 132) hE d_Mo_exact_127 (by decide) ?_
      refine z_lret hE hQ d_Mo_exact_132 rfl (by omega) (by omega) (pM_of (S := sC (sC S 0) 7) ?_ V9 (EQS_c E1 rfl rfl) (gW_t W1 (g1_W G9 (by omega) (by omega))))
      exact hno (by omega) (by rw [q]; exact if_pos h)
    have f1 : ∀ (z1 : Int32) lv, z1 = (if a < 0 then 1 else 0) → lG lv 0 = some (.ref P) → lG lv 2 = some (.long a) → lG lv 4 = some (.long b) → lG lv 6 = some (.long (a + b)) → lG lv 8 = some (.long (a - b)) → zJ E g1' nx 0 0 79 lv (.int z1 :: []) := by
      intro z1 lv hz1 l0 l2 l4 l6 l8
      refine z_sub (lv' := [(0, .ref P), (2, .long a), (4, .long b), (6, .long (a + b)), (8, .long (a - b))]) (by simp only [List.map, l0, l2, l4, l6, l8]) ?_
      have f2 : ∀ (z2 : Int32) lv, z2 = (if b < 0 then 1 else 0) → lG lv 0 = some (.ref P) → lG lv 2 = some (.long a) → lG lv 6 = some (.long (a + b)) → lG lv 8 = some (.long (a - b)) → zJ E g1' nx 0 0 91 lv (.int z2 :: .int z1 :: []) := by
        intro z2 lv hz2 l0 l2 l6 l8
        refine z_sub (lv' := [(0, .ref P), (2, .long a), (6, .long (a + b)), (8, .long (a - b))]) (by simp only [List.map, l0, l2, l6, l8]) ?_
        have h12 := feq hz1 hz2
        by_cases hab : a < 0 ↔ b < 0
        · refine z_icmp_ne (tgt := 130) hE d_Mo_exact_91 (by decide) (fun c_ => absurd c_ (fun w => w (h12.mpr hab))) (fun _ => ?_)
          have f3 : ∀ (z3 : Int32) lv, z3 = (if (a + b) < 0 then 1 else 0) → lG lv 0 = some (.ref P) → lG lv 2 = some (.long a) → lG lv 6 = some (.long (a + b)) → zJ E g1' nx 0 0 106 lv (.int z3 :: []) := by
            intro z3 lv hz3 l0 l2 l6
            refine z_sub (lv' := [(0, .ref P), (2, .long a), (6, .long (a + b))]) (by simp only [List.map, l0, l2, l6]) ?_
            have f4 : ∀ (z4 : Int32) lv, z4 = (if a < 0 then 1 else 0) → lG lv 0 = some (.ref P) → lG lv 6 = some (.long (a + b)) → zJ E g1' nx 0 0 117 lv (.int z4 :: .int z3 :: []) := by
              intro z4 lv hz4 l0 l6
              refine z_sub (lv' := [(0, .ref P), (6, .long (a + b))]) (by simp only [List.map, l0, l6]) ?_
              have h34 := feq hz3 hz4
              by_cases hsa : a + b < 0 ↔ a < 0
              · refine z_icmp_eq (tgt := 130) hE d_Mo_exact_117 (by decide) (fun _ => ?_) (fun c_ => absurd c_ (fun w => w (h34.mpr hsa)))
                exact ok _ (fun w => w.2 hsa) rfl
              · refine z_icmp_eq (tgt := 130) hE d_Mo_exact_117 (by decide) (fun c_ => absurd c_ (fun w => hsa (h34.mp w))) (fun _ => ?_)
                exact bad _ ⟨hab, hsa⟩ rfl
            refine z_lload_n hE d_Mo_exact_106 rfl ?_
            refine z_lconst (v := (0 : Int64)) hE d_Mo_exact_107 (by decide) ?_
            refine z_lcmp hE d_Mo_exact_108 ?_
            refine z_if_ge (tgt := 116) hE d_Mo_exact_109 (by decide) (fun c_109 => ?_) (fun c_109 => ?_)
            · rw [lg_cmp_ge] at c_109
              refine z_iconst (v := 0) hE d_Mo_exact_116 (by decide) ?_
              exact f4 0 _ (by rw [if_neg (Int64.not_lt.mpr c_109)]) rfl rfl
            · rw [lg_cmp_ge] at c_109
              refine z_iconst (v := 1) hE d_Mo_exact_112 (by decide) ?_
              refine z_goto (tgt := 117) hE d_Mo_exact_113 (by decide) ?_
              exact f4 1 _ (by rw [if_pos (Int64.not_le.mp c_109)]) rfl rfl
          refine z_lload hE d_Mo_exact_94 rfl ?_
          refine z_lconst (v := (0 : Int64)) hE d_Mo_exact_96 (by decide) ?_
          refine z_lcmp hE d_Mo_exact_97 ?_
          refine z_if_ge (tgt := 105) hE d_Mo_exact_98 (by decide) (fun c_98 => ?_) (fun c_98 => ?_)
          · rw [lg_cmp_ge] at c_98
            refine z_iconst (v := 0) hE d_Mo_exact_105 (by decide) ?_
            exact f3 0 _ (by rw [if_neg (Int64.not_lt.mpr c_98)]) rfl rfl rfl
          · rw [lg_cmp_ge] at c_98
            refine z_iconst (v := 1) hE d_Mo_exact_101 (by decide) ?_
            refine z_goto (tgt := 106) hE d_Mo_exact_102 (by decide) ?_
            exact f3 1 _ (by rw [if_pos (Int64.not_le.mp c_98)]) rfl rfl rfl
        · refine z_icmp_ne (tgt := 130) hE d_Mo_exact_91 (by decide) (fun _ => ?_) (fun c_ => absurd c_ (fun w => hab (h12.mp w)))
          exact ok _ (fun w => hab w.1) rfl
      refine z_lload hE d_Mo_exact_79 rfl ?_
      refine z_lconst (v := (0 : Int64)) hE d_Mo_exact_81 (by decide) ?_
      refine z_lcmp hE d_Mo_exact_82 ?_
      refine z_if_ge (tgt := 90) hE d_Mo_exact_83 (by decide) (fun c_83 => ?_) (fun c_83 => ?_)
      · rw [lg_cmp_ge] at c_83
        refine z_iconst (v := 0) hE d_Mo_exact_90 (by decide) ?_
        exact f2 0 _ (by rw [if_neg (Int64.not_lt.mpr c_83)]) rfl rfl rfl rfl
      · rw [lg_cmp_ge] at c_83
        refine z_iconst (v := 1) hE d_Mo_exact_86 (by decide) ?_
        refine z_goto (tgt := 91) hE d_Mo_exact_87 (by decide) ?_
        exact f2 1 _ (by rw [if_pos (Int64.not_le.mp c_83)]) rfl rfl rfl rfl
    refine z_lload_n hE d_Mo_exact_68 rfl ?_
    refine z_lconst (v := (0 : Int64)) hE d_Mo_exact_69 (by decide) ?_
    refine z_lcmp hE d_Mo_exact_70 ?_
    refine z_if_ge (tgt := 78) hE d_Mo_exact_71 (by decide) (fun c_71 => ?_) (fun c_71 => ?_)
    · rw [lg_cmp_ge] at c_71
      refine z_iconst (v := 0) hE d_Mo_exact_78 (by decide) ?_
      exact f1 0 _ (by rw [if_neg (Int64.not_lt.mpr c_71)]) rfl rfl rfl rfl rfl
    · rw [lg_cmp_ge] at c_71
      refine z_iconst (v := 1) hE d_Mo_exact_74 (by decide) ?_
      refine z_goto (tgt := 79) hE d_Mo_exact_75 (by decide) ?_
      exact f1 1 _ (by rw [if_pos (Int64.not_le.mp c_71)]) rfl rfl rfl rfl rfl
  · rw [q]
    refine z_tableIn (tgt := 133) (off := 99) hE d_Mo_exact_34 (by decide) (by decide) (by decide) (by decide) ?_
    have ok : ∀ lv, ¬ (¬ (a < 0 ↔ b < 0) ∧ ¬ (a - b < 0 ↔ a < 0)) → lG lv 8 = some (.long (a - b)) → zJ E g1' nx 0 0 195 lv [] := by
      intro lv h ll
      refine z_sub (lv' := [(8, .long (a - b))]) (by simp only [List.map, ll]) ?_
      refine z_lload hE d_Mo_exact_195 rfl ?_
      exact fin _ _ 197 (by omega) (by omega) (by rw [q]; exact if_neg h)
    have bad : ∀ lv, (¬ (a < 0 ↔ b < 0) ∧ ¬ (a - b < 0 ↔ a < 0)) → lG lv 0 = some (.ref P) → zJ E g1' nx 0 0 185 lv [] := by
      intro lv h l0
      refine z_sub (lv' := [(0, .ref P)]) (by simp only [List.map, l0]) ?_
      refine z_aload_n hE d_Mo_exact_185 rfl ?_
      refine z_bipush (v := 7) hE d_Mo_exact_186 (by decide) ?_
      refine z_callV hE d_Mo_exact_188 cl_Mo_106 (c_Mo_fail l nx V1 7) (by assumption) cb_Mo rfl (Nat.le_of_ble_eq_true rfl) ⟨by decide, by decide⟩ ⟨by omega, by omega⟩ (fun r_9 g_9 nx_9 hp_9 => ?_) rfl
      try dsimp only [Option.toList, List.nil_append, List.cons_append]
      obtain ⟨rfl, rfl, V9, G9⟩ := hp_9
      try dsimp only [Option.toList, List.nil_append, List.cons_append]
      refine z_i2l hE d_Mo_exact_191 (rfl) ?_
      refine z_goto (tgt := 197) hE d_Mo_exact_192 (by decide) ?_
      refine z_lret hE hQ d_Mo_exact_197 rfl (by omega) (by omega) (pM_of (S := sC (sC S 0) 7) ?_ V9 (EQS_c E1 rfl rfl) (gW_t W1 (g1_W G9 (by omega) (by omega))))
      exact hno (by omega) (by rw [q]; exact if_pos h)
    have f1 : ∀ (z1 : Int32) lv, z1 = (if a < 0 then 1 else 0) → lG lv 0 = some (.ref P) → lG lv 2 = some (.long a) → lG lv 4 = some (.long b) → lG lv 6 = some (.long (a + b)) → lG lv 8 = some (.long (a - b)) → zJ E g1' nx 0 0 144 lv (.int z1 :: []) := by
      intro z1 lv hz1 l0 l2 l4 l6 l8
      refine z_sub (lv' := [(0, .ref P), (2, .long a), (4, .long b), (6, .long (a + b)), (8, .long (a - b))]) (by simp only [List.map, l0, l2, l4, l6, l8]) ?_
      have f2 : ∀ (z2 : Int32) lv, z2 = (if b < 0 then 1 else 0) → lG lv 0 = some (.ref P) → lG lv 2 = some (.long a) → lG lv 6 = some (.long (a + b)) → lG lv 8 = some (.long (a - b)) → zJ E g1' nx 0 0 156 lv (.int z2 :: .int z1 :: []) := by
        intro z2 lv hz2 l0 l2 l6 l8
        refine z_sub (lv' := [(0, .ref P), (2, .long a), (6, .long (a + b)), (8, .long (a - b))]) (by simp only [List.map, l0, l2, l6, l8]) ?_
        have h12 := feq hz1 hz2
        by_cases hab : a < 0 ↔ b < 0
        · refine z_icmp_eq (tgt := 195) hE d_Mo_exact_156 (by decide) (fun _ => ?_) (fun c_ => absurd c_ (fun w => w (h12.mpr hab)))
          exact ok _ (fun w => w.1 hab) rfl
        · refine z_icmp_eq (tgt := 195) hE d_Mo_exact_156 (by decide) (fun c_ => absurd c_ (fun w => hab (h12.mp w))) (fun _ => ?_)
          have f3 : ∀ (z3 : Int32) lv, z3 = (if (a - b) < 0 then 1 else 0) → lG lv 0 = some (.ref P) → lG lv 2 = some (.long a) → lG lv 8 = some (.long (a - b)) → zJ E g1' nx 0 0 171 lv (.int z3 :: []) := by
            intro z3 lv hz3 l0 l2 l8
            refine z_sub (lv' := [(0, .ref P), (2, .long a), (8, .long (a - b))]) (by simp only [List.map, l0, l2, l8]) ?_
            have f4 : ∀ (z4 : Int32) lv, z4 = (if a < 0 then 1 else 0) → lG lv 0 = some (.ref P) → lG lv 8 = some (.long (a - b)) → zJ E g1' nx 0 0 182 lv (.int z4 :: .int z3 :: []) := by
              intro z4 lv hz4 l0 l8
              refine z_sub (lv' := [(0, .ref P), (8, .long (a - b))]) (by simp only [List.map, l0, l8]) ?_
              have h34 := feq hz3 hz4
              by_cases hsa : a - b < 0 ↔ a < 0
              · refine z_icmp_eq (tgt := 195) hE d_Mo_exact_182 (by decide) (fun _ => ?_) (fun c_ => absurd c_ (fun w => w (h34.mpr hsa)))
                exact ok _ (fun w => w.2 hsa) rfl
              · refine z_icmp_eq (tgt := 195) hE d_Mo_exact_182 (by decide) (fun c_ => absurd c_ (fun w => hsa (h34.mp w))) (fun _ => ?_)
                exact bad _ ⟨hab, hsa⟩ rfl
            refine z_lload_n hE d_Mo_exact_171 rfl ?_
            refine z_lconst (v := (0 : Int64)) hE d_Mo_exact_172 (by decide) ?_
            refine z_lcmp hE d_Mo_exact_173 ?_
            refine z_if_ge (tgt := 181) hE d_Mo_exact_174 (by decide) (fun c_174 => ?_) (fun c_174 => ?_)
            · rw [lg_cmp_ge] at c_174
              refine z_iconst (v := 0) hE d_Mo_exact_181 (by decide) ?_
              exact f4 0 _ (by rw [if_neg (Int64.not_lt.mpr c_174)]) rfl rfl
            · rw [lg_cmp_ge] at c_174
              refine z_iconst (v := 1) hE d_Mo_exact_177 (by decide) ?_
              refine z_goto (tgt := 182) hE d_Mo_exact_178 (by decide) ?_
              exact f4 1 _ (by rw [if_pos (Int64.not_le.mp c_174)]) rfl rfl
          refine z_lload hE d_Mo_exact_159 rfl ?_
          refine z_lconst (v := (0 : Int64)) hE d_Mo_exact_161 (by decide) ?_
          refine z_lcmp hE d_Mo_exact_162 ?_
          refine z_if_ge (tgt := 170) hE d_Mo_exact_163 (by decide) (fun c_163 => ?_) (fun c_163 => ?_)
          · rw [lg_cmp_ge] at c_163
            refine z_iconst (v := 0) hE d_Mo_exact_170 (by decide) ?_
            exact f3 0 _ (by rw [if_neg (Int64.not_lt.mpr c_163)]) rfl rfl rfl
          · rw [lg_cmp_ge] at c_163
            refine z_iconst (v := 1) hE d_Mo_exact_166 (by decide) ?_
            refine z_goto (tgt := 171) hE d_Mo_exact_167 (by decide) ?_
            exact f3 1 _ (by rw [if_pos (Int64.not_le.mp c_163)]) rfl rfl rfl
      refine z_lload hE d_Mo_exact_144 rfl ?_
      refine z_lconst (v := (0 : Int64)) hE d_Mo_exact_146 (by decide) ?_
      refine z_lcmp hE d_Mo_exact_147 ?_
      refine z_if_ge (tgt := 155) hE d_Mo_exact_148 (by decide) (fun c_148 => ?_) (fun c_148 => ?_)
      · rw [lg_cmp_ge] at c_148
        refine z_iconst (v := 0) hE d_Mo_exact_155 (by decide) ?_
        exact f2 0 _ (by rw [if_neg (Int64.not_lt.mpr c_148)]) rfl rfl rfl rfl
      · rw [lg_cmp_ge] at c_148
        refine z_iconst (v := 1) hE d_Mo_exact_151 (by decide) ?_
        refine z_goto (tgt := 156) hE d_Mo_exact_152 (by decide) ?_
        exact f2 1 _ (by rw [if_pos (Int64.not_le.mp c_148)]) rfl rfl rfl rfl
    refine z_lload_n hE d_Mo_exact_133 rfl ?_
    refine z_lconst (v := (0 : Int64)) hE d_Mo_exact_134 (by decide) ?_
    refine z_lcmp hE d_Mo_exact_135 ?_
    refine z_if_ge (tgt := 143) hE d_Mo_exact_136 (by decide) (fun c_136 => ?_) (fun c_136 => ?_)
    · rw [lg_cmp_ge] at c_136
      refine z_iconst (v := 0) hE d_Mo_exact_143 (by decide) ?_
      exact f1 0 _ (by rw [if_neg (Int64.not_lt.mpr c_136)]) rfl rfl rfl rfl rfl
    · rw [lg_cmp_ge] at c_136
      refine z_iconst (v := 1) hE d_Mo_exact_139 (by decide) ?_
      refine z_goto (tgt := 144) hE d_Mo_exact_140 (by decide) ?_
      exact f1 1 _ (by rw [if_pos (Int64.not_le.mp c_136)]) rfl rfl rfl rfl rfl
  · rw [q]
    refine z_tableIn (tgt := 198) (off := 164) hE d_Mo_exact_34 (by decide) (by decide) (by decide) (by decide) ?_
    refine z_aload_n hE d_Mo_exact_198 rfl ?_
    refine z_lload_n hE d_Mo_exact_199 rfl ?_
    refine z_lload hE d_Mo_exact_200 rfl ?_
    refine z_callV hE d_Mo_exact_202 cl_Mo_213 (c_Mo_exactProduct l nx V1 E1 a b) (by assumption) cb_Mo rfl (Nat.le_of_ble_eq_true rfl) ⟨by decide, by decide⟩ ⟨by omega, by omega⟩ (fun r_8 g_8 nx_8 hp_8 => ?_) rfl
    try dsimp only [Option.toList, List.nil_append, List.cons_append]
    refine z_mlret hE hQ d_Mo_exact_205 rfl (by omega) (by omega) W1 ?_ (by split; exact ⟨_, rfl⟩; exact ⟨_, rfl⟩) hp_8
    rw [hspec, if_neg (by omega), q, exV_2]
    by_cases hh : -9223372036854775808 ≤ a.toInt * b.toInt ∧ a.toInt * b.toInt ≤ 9223372036854775807
    · rw [if_pos hh, if_pos hh]; rfl
    · rw [if_neg hh, if_neg hh]; rfl
  · rw [q]
    refine z_tableIn (tgt := 206) (off := 172) hE d_Mo_exact_34 (by decide) (by decide) (by decide) (by decide) ?_
    refine z_lload_n hE d_Mo_exact_206 rfl ?_
    refine z_ldc2 hE d_Mo_exact_207 cn_Mo_183 ?_
    refine z_lcmp hE d_Mo_exact_210 ?_
    by_cases hl : a = -9223372036854775808
    · refine z_if_ne (tgt := 224) hE d_Mo_exact_211 (by decide) (fun c_ => absurd c_ (fun z => z (by rw [lg_cmp_eq]; exact hl))) (fun _ => ?_)
      refine z_aload_n hE d_Mo_exact_214 rfl ?_
      refine z_bipush (v := 7) hE d_Mo_exact_215 (by decide) ?_
      refine z_callV hE d_Mo_exact_217 cl_Mo_106 (c_Mo_fail l nx V1 7) (by assumption) cb_Mo rfl (Nat.le_of_ble_eq_true rfl) ⟨by decide, by decide⟩ ⟨by omega, by omega⟩ (fun r_9 g_9 nx_9 hp_9 => ?_) rfl
      try dsimp only [Option.toList, List.nil_append, List.cons_append]
      obtain ⟨rfl, rfl, V9, G9⟩ := hp_9
      try dsimp only [Option.toList, List.nil_append, List.cons_append]
      refine z_i2l hE d_Mo_exact_220 (rfl) ?_
      refine z_goto (tgt := 226) hE d_Mo_exact_221 (by decide) ?_
      refine z_lret hE hQ d_Mo_exact_226 rfl (by omega) (by omega) (pM_of (S := sC (sC S 0) 7) ?_ V9 (EQS_c E1 rfl rfl) (gW_t W1 (g1_W G9 (by omega) (by omega))))
      exact hno (by omega) (by rw [q]; exact if_pos hl)
    · refine z_if_ne (tgt := 224) hE d_Mo_exact_211 (by decide) (fun _ => ?_) (fun c_ => absurd c_ (fun z => hl (by rw [lg_cmp_eq] at z; exact z)))
      refine z_lload_n hE d_Mo_exact_224 rfl ?_
      refine z_lneg hE d_Mo_exact_225 (rfl) ?_
      exact fin _ _ 226 (by omega) (by omega) (by rw [q]; exact if_neg hl)
  · rw [q]
    refine z_tableIn (tgt := 227) (off := 193) hE d_Mo_exact_34 (by decide) (by decide) (by decide) (by decide) ?_
    refine z_lload_n hE d_Mo_exact_227 rfl ?_
    refine z_lload_n hE d_Mo_exact_228 rfl ?_
    refine z_l2i hE d_Mo_exact_229 (rfl) ?_
    refine z_i2l hE d_Mo_exact_230 (rfl) ?_
    refine z_lcmp hE d_Mo_exact_231 ?_
    by_cases hl : a = a.toInt32.toInt64
    · refine z_if_ne (tgt := 239) hE d_Mo_exact_232 (by decide) (fun c_ => absurd c_ (fun z => z (by rw [lg_cmp_eq]; exact hl))) (fun _ => ?_)
      refine z_lload_n hE d_Mo_exact_235 rfl ?_
      refine z_goto (tgt := 246) hE d_Mo_exact_236 (by decide) ?_
      exact fin _ _ 246 (by omega) (by omega) (by rw [q]; exact if_pos hl)
    · refine z_if_ne (tgt := 239) hE d_Mo_exact_232 (by decide) (fun _ => ?_) (fun c_ => absurd c_ (fun z => hl (by rw [lg_cmp_eq] at z; exact z)))
      refine z_aload_n hE d_Mo_exact_239 rfl ?_
      refine z_bipush (v := 7) hE d_Mo_exact_240 (by decide) ?_
      refine z_callV hE d_Mo_exact_242 cl_Mo_106 (c_Mo_fail l nx V1 7) (by assumption) cb_Mo rfl (Nat.le_of_ble_eq_true rfl) ⟨by decide, by decide⟩ ⟨by omega, by omega⟩ (fun r_9 g_9 nx_9 hp_9 => ?_) rfl
      try dsimp only [Option.toList, List.nil_append, List.cons_append]
      obtain ⟨rfl, rfl, V9, G9⟩ := hp_9
      try dsimp only [Option.toList, List.nil_append, List.cons_append]
      refine z_i2l hE d_Mo_exact_245 (rfl) ?_
      refine z_lret hE hQ d_Mo_exact_246 rfl (by omega) (by omega) (pM_of (S := sC (sC S 0) 7) ?_ V9 (EQS_c E1 rfl rfl) (gW_t W1 (g1_W G9 (by omega) (by omega))))
      exact hno (by omega) (by rw [q]; exact if_neg hl)
  · refine z_tableOut (tgt := 247) hE d_Mo_exact_34 (Or.inr (by rw [nI_ti (by omega)]; omega)) (by decide) ?_
    refine z_aload_n hE d_Mo_exact_247 rfl ?_
    refine z_iload_n hE d_Mo_exact_248 rfl ?_
    refine z_lload_n hE d_Mo_exact_249 rfl ?_
    refine z_lload hE d_Mo_exact_250 rfl ?_
    refine z_callV hE d_Mo_exact_252 cl_Mo_217 (c_Mo_exactQuotient l nx V1 E1 rfl (fx op) q (by omega) a b) (by assumption) cb_Mo rfl (Nat.le_of_ble_eq_true rfl) ⟨by decide, by decide⟩ ⟨by omega, by omega⟩ (fun r_8 g_8 nx_8 hp_8 => ?_) rfl
    try dsimp only [Option.toList, List.nil_append, List.cons_append]
    refine z_mlret hE hQ d_Mo_exact_255 rfl (by omega) (by omega) W1 ?_ ?_ hp_8
    · rw [hspec]
      by_cases hb : b = 0
      · rw [if_pos ⟨q, hb⟩, if_pos hb]; rfl
      · rw [if_neg (fun w => hb w.2), if_neg hb]
        cases exV (fx op) a b <;> rfl
    · by_cases hb : b = 0
      · rw [if_pos hb]; exact ⟨_, rfl⟩
      · rw [if_neg hb]; cases exV (fx op) a b <;> exact ⟨_, rfl⟩

