/-! the reference: doubles read -/
theorem mk_mul {s : Int32} {t b k : Nat} (hk : 0 < k) : mk s (t * k) (b * k) = mk s t b := by
  unfold mk
  rw [Nat.gcd_mul_right, Nat.mul_div_mul_right _ _ hk, Nat.mul_div_mul_right _ _ hk]
  by_cases h : t = 0
  · rw [if_pos h, if_pos (by rw [h, Nat.zero_mul])]
  · rw [if_neg h, if_neg (fun q => by rcases Nat.mul_eq_zero.mp q with z | z; exact h z; omega)]
theorem mk_sc {s : Int32} {m z : Nat} {tw : Int} : mk s (m * 2 ^ z * 2 ^ tw.toNat) (2 ^ (-tw).toNat) = mk s (m * 2 ^ (tw + z).toNat) (2 ^ (-(tw + z)).toNat) := by
  obtain ⟨k, hk⟩ : ∃ k, min (z + tw.toNat) (-tw).toNat = k := ⟨_, rfl⟩
  have e1 : z + tw.toNat = (tw + z).toNat + k := by omega
  have e2 : (-tw).toNat = (-(tw + z)).toNat + k := by omega
  have h0 : m * 2 ^ z * 2 ^ tw.toNat = m * 2 ^ (tw + z).toNat * 2 ^ k := by rw [Nat.mul_assoc, ← Nat.pow_add, Nat.mul_assoc, ← Nat.pow_add, e1]
  have h1 : 2 ^ (-tw).toNat = 2 ^ (-(tw + z)).toNat * 2 ^ k := by rw [← Nat.pow_add, e2]
  rw [h0, h1, mk_mul (p2_pos k)]
theorem bv_shr52 (x : BitVec 64) : x.sshiftRight 52 &&& 2047#64 = (x >>> 52) &&& 2047#64 := by
  apply BitVec.eq_of_getLsbD_eq
  intro i hi
  rw [BitVec.getLsbD_and, BitVec.getLsbD_and]
  by_cases h : i < 12
  · rw [BitVec.getLsbD_sshiftRight, BitVec.getLsbD_ushiftRight, if_pos (by omega), show decide (64 ≤ i) = false from decide_eq_false (by omega)]
    rfl
  · have h2 : ∀ j : Fin 64, 12 ≤ j.val → (2047#64).getLsbD j.val = false := by decide
    have := h2 ⟨i, hi⟩ (by show 12 ≤ i; omega)
    simp only at this
    rw [this, Bool.and_false, Bool.and_false]
theorem l_exp {b : Nat} (hb : b < 18446744073709551616) : lN b >>> ((nI 52).toInt64 &&& 63) &&& 2047 = lN (b / 4503599627370496 % 2048) := by
  have h1 := wb_shr (k := 52) (show b < 2 ^ 64 from hb) (by decide)
  have h2 : lN (b / 4503599627370496) &&& 2047 = lN (b / 4503599627370496 % 2048) := wb_mask (k := 11) (Nat.lt_of_le_of_lt (Nat.div_le_self _ _) (show b < 2 ^ 64 from hb)) (by decide)
  rw [show (2 : Nat) ^ 52 = 4503599627370496 from rfl] at h1
  rw [← h2, ← h1]
  apply Int64.toBitVec_inj.mp
  exact bv_shr52 (lN b).toBitVec
theorem l_half {m : Nat} (hm : m < 9007199254740992) : lN m >>> ((nI 1).toInt64 &&& 63) = lN (m / 2) := pf_shr (d := 1) (by decide) (by omega)
theorem c_Mo_from (l : Launch) {g : Gh} (nx : Nat) {P : Nat} {S : Sx} (hM : MW g P S) (hO : SOK S) (f : Int32) (x : Int64) : Ct l m_Mo_from 0 0 [.ref P, .int f, .long x] g nx (pM g P nx (spFrom S f x)) := by
  obtain ⟨E0, t, ts, hV, hEQ⟩ := hM
  have h0 := hV.1
  obtain ⟨-, ⟨th, h1, h1'⟩, ⟨sn, A, B, h2, h3, h4, b4, b5, b6⟩, ⟨rm, h5, h5'⟩, -⟩ := id hV
  refine Ct.of (by decide) (Nat.le_of_ble_eq_true rfl) (fun E hE hQ => ?_)
  have out : ∀ lv, ¬ (inI f 0 15) → zJ E g nx 0 0 7 lv [] := by
    intro lv h
    refine z_ldc hE d_Mo_from_7 cn_Mo_141 ?_
    exact z_iret hE hQ d_Mo_from_9 rfl (by omega) (by omega) (pM_of (if_neg h) hV hEQ gW_r)
  refine z_iload_n hE d_Mo_from_0 rfl ?_
  refine z_callS hE d_Mo_from_1 cl_Mo_138 (c_Mo_isFraction l g nx f) rfl (Nat.le_of_ble_eq_true rfl) ⟨by decide, by decide⟩ ⟨by omega, by omega⟩ (fun r_1 g_1 nx_1 hp_1 => ?_) rfl
  obtain ⟨rfl, rfl, rfl⟩ := hp_1
  try dsimp only [Option.toList, List.nil_append, List.cons_append]
  by_cases hf : inI f 0 15
  case neg =>
    rw [if_neg hf]
    refine z_if_ne (tgt := 10) hE d_Mo_from_4 (by decide) (fun c_ => absurd c_ (by decide)) (fun _ => ?_)
    exact out _ (fun q => hf q)
  rw [if_pos hf]
  refine z_if_ne (tgt := 10) hE d_Mo_from_4 (by decide) (fun _ => ?_) (fun c_ => absurd c_ (by decide))
  obtain ⟨ef, zf, hf2⟩ := fx_of hf (by omega) (by omega)
  obtain ⟨b, hb0⟩ : ∃ b, uN x = b := ⟨_, rfl⟩
  have hb : b < 18446744073709551616 := by rw [← hb0]; exact uN_lt x
  have hx : x = lN b := by rw [← hb0]; exact lN_uN x
  have hspec : spFrom S f x = if b / 4503599627370496 % 2048 = 2047 then tellS S 7 else mkS S (fx f) (dQ b) := by unfold spFrom; rw [if_pos hf, hb0]
  have hml := dm_lt b
  have hwl : -1074 ≤ dw b ∧ dw b ≤ 972 + 2047 := by unfold dw; split <;> omega
  have e56 : 2 ^ 256 * 4 ≤ 65536 ^ 56 := by decide
  -- with mantissa and twos
  have after : ∀ (M z : Nat) (Y : Int32) lv, dm b = M * 2 ^ z → Y.toInt = dw b + z → -1074 ≤ Y.toInt → Y.toInt ≤ 5000 → M ≤ dm b → (M = 0 ∨ M % 2 = 1 ∨ 0 ≤ Y.toInt) → ¬ b / 4503599627370496 % 2048 = 2047 → lG lv 0 = some (.ref P) → lG lv 1 = some (.int f) → lG lv 2 = some (.long x) → lG lv 5 = some (.long (lN M)) → lG lv 7 = some (.int Y) → zJ E g nx 0 0 112 lv [] := by
    intro M z Y lv hM hY hY1 hY2 hMl hend hexp l0 l1 l2 l5 l7
    refine z_sub (lv' := [(0, .ref P), (1, .int f), (2, .long x), (5, .long (lN M)), (7, .int Y)]) (by simp only [List.map, l0, l1, l2, l5, l7]) ?_
    rw [if_neg hexp] at hspec
    have hdq : dQ b = mk (if b < 9223372036854775808 then 1 else -1) (M * 2 ^ Y.toInt.toNat) (2 ^ (-Y.toInt).toNat) := by
      unfold dQ
      rw [hM, mk_sc, ← hY]
    have go : ∀ (Y' : Int32) lv, (M = 0 → Y'.toInt = 0) → (M ≠ 0 → Y' = Y) → lG lv 0 = some (.ref P) → lG lv 1 = some (.int f) → lG lv 2 = some (.long x) → lG lv 5 = some (.long (lN M)) → zJ E g nx 0 0 125 lv [.int Y'] := by
      intro Y' lv hY0 hYn l0 l1 l2 l5
      refine z_sub (lv' := [(0, .ref P), (1, .int f), (2, .long x), (5, .long (lN M))]) (by simp only [List.map, l0, l1, l2, l5]) ?_
      have hYb : -1074 ≤ Y'.toInt ∧ Y'.toInt ≤ 5000 := by
        by_cases h : M = 0
        · have := hY0 h; omega
        · rw [hYn h]; exact ⟨hY1, hY2⟩
      have hbm : bl M ≤ 53 := bl_iff.mpr (by have : (2 : Nat) ^ 53 = 9007199254740992 := by decide
                                             omega)
      refine z_istore hE d_Mo_from_125 (by decide) ?_
      refine z_aload_n hE d_Mo_from_127 rfl ?_
      refine z_get hE d_Mo_from_128 fl_Mo_26 (by assumption) rfl ?_
      refine z_lload hE d_Mo_from_131 rfl ?_
      refine z_callS hE d_Mo_from_133 cl_Mo_142 (c_Mo_setLong l nx (MV_m hV 6 (by omega) (by omega)) M (by omega)) rfl (Nat.le_of_ble_eq_true rfl) ⟨by decide, by decide⟩ ⟨by omega, by omega⟩ (fun r_1 g_1 nx_1 hp_1 => ?_) rfl
      try dsimp only [Option.toList, List.nil_append, List.cons_append]
      obtain ⟨rfl, rfl, N1, G1⟩ := hp_1
      try dsimp only [Option.toList, List.nil_append, List.cons_append]
      have V1 := MV_up hV (by omega) N1 G1
      have m1 := V1.1
      have W1 : gW g g_1 P (P + 14) := gW_t gW_r (g1_W G1 (by omega) (by omega))
      refine z_aload_n hE d_Mo_from_136 rfl ?_
      refine z_get hE d_Mo_from_137 fl_Mo_29 (by assumption) rfl ?_
      refine z_lconst (v := lN 1) hE d_Mo_from_140 (by decide) ?_
      refine z_callS hE d_Mo_from_141 cl_Mo_142 (c_Mo_setLong l nx (MV_m V1 7 (by omega) (by omega)) 1 (by omega)) rfl (Nat.le_of_ble_eq_true rfl) ⟨by decide, by decide⟩ ⟨by omega, by omega⟩ (fun r_2 g_2 nx_2 hp_2 => ?_) rfl
      try dsimp only [Option.toList, List.nil_append, List.cons_append]
      obtain ⟨rfl, rfl, N2, G2⟩ := hp_2
      try dsimp only [Option.toList, List.nil_append, List.cons_append]
      have V2 := MV_up V1 (by omega) N2 G2
      have m2 := V2.1
      have W2 : gW g g_2 P (P + 14) := gW_t W1 (g1_W G2 (by omega) (by omega))
      have bad : ∀ lv, ¬ QW (dQ b) → lG lv 0 = some (.ref P) → zJ E g_2 nx 0 0 168 lv [] := by
        intro lv h l0
        refine z_sub (lv' := [(0, .ref P)]) (by simp only [List.map, l0]) ?_
        refine z_aload_n hE d_Mo_from_168 rfl ?_
        refine z_bipush (v := 6) hE d_Mo_from_169 (by decide) ?_
        refine z_callV hE d_Mo_from_171 cl_Mo_106 (c_Mo_fail l nx V2 6) (by assumption) cb_Mo rfl (Nat.le_of_ble_eq_true rfl) ⟨by decide, by decide⟩ ⟨by omega, by omega⟩ (fun r_9 g_9 nx_9 hp_9 => ?_) rfl
        try dsimp only [Option.toList, List.nil_append, List.cons_append]
        obtain ⟨rfl, rfl, V9, G9⟩ := hp_9
        try dsimp only [Option.toList, List.nil_append, List.cons_append]
        refine z_iret hE hQ d_Mo_from_174 rfl (by omega) (by omega) (pM_of (S := sC S 6) ?_ V9 (EQS_c hEQ rfl rfl) (gW_t W2 (g1_W G9 (by omega) (by omega))))
        rw [hspec]; exact if_neg h
      have i255 : (-255 : Int32).toInt = -255 := by decide
      refine z_iload hE d_Mo_from_144 rfl ?_
      refine z_sipush (v := (-255 : Int32)) hE d_Mo_from_146 (by decide) ?_
      by_cases h255 : Y'.toInt < -255
      · refine z_icmp_lt (tgt := 168) hE d_Mo_from_149 (by decide) (fun _ => ?_) (fun c_ => absurd c_ (fun w => w (by rw [Int32.lt_iff_toInt_lt, i255]; exact h255)))
        have hM0 : M ≠ 0 := fun q => by have := hY0 q; omega
        have hYe := hYn hM0
        subst hYe
        have hodd : M % 2 = 1 := by
          rcases hend with q | q | q
          · exact absurd q hM0
          · exact q
          · omega
        refine bad _ (fun w => ?_) rfl
        rw [dQ_1 hM hodd] at w
        have w2 := w.2
        dsimp only at w2
        have h1 : 2 ^ 256 ≤ 2 ^ (-(dw b + z)).toNat := Nat.pow_le_pow_right (by decide) (by omega)
        have h2 : (4294967296 : Nat) ^ 8 = 2 ^ 256 := by decide
        omega
      · refine z_icmp_lt (tgt := 168) hE d_Mo_from_149 (by decide) (fun c_ => absurd c_ (fun w => h255 (by rw [Int32.lt_iff_toInt_lt, i255] at w; exact w))) (fun _ => ?_)
        have A6 : MA g_2 (P + 6) M := MV_m V2 6 (by omega) (by omega)
        refine z_aload_n hE d_Mo_from_152 rfl ?_
        refine z_get hE d_Mo_from_153 fl_Mo_26 (by assumption) rfl ?_
        refine z_callS hE d_Mo_from_156 cl_Mo_65 (c_Mo_bitsOf l nx A6) rfl (Nat.le_of_ble_eq_true rfl) ⟨by decide, by decide⟩ ⟨by omega, by omega⟩ (fun r_156 g_156 nx_156 hp_156 => ?_) rfl
        obtain ⟨rfl, rfl, rfl⟩ := hp_156
        try dsimp only [Option.toList, List.nil_append, List.cons_append]
        refine z_iload hE d_Mo_from_159 rfl ?_
        refine z_iadd hE d_Mo_from_161 (rfl) ?_
        have esum : (nI (bl M) + Y').toInt = (bl M : Int) + Y'.toInt := by
          rw [Int32.toInt_add, nI_ti (by omega)]; exact Int.bmod_eq_of_le (by omega) (by omega)
        have i256 : (nI 256).toInt = 256 := nI_ti (by omega)
        refine z_sipush (v := nI 256) hE d_Mo_from_162 (by decide) ?_
        by_cases h256 : (bl M : Int) + Y'.toInt ≤ 256
        case neg =>
          refine z_icmp_le (tgt := 175) hE d_Mo_from_165 (by decide) (fun c_ => absurd c_ (fun w => h256 (by rw [Int32.le_iff_toInt_le, esum, i256] at w; exact w))) (fun _ => ?_)
          have hM0 : M ≠ 0 := fun q => by have := hY0 q; rw [q] at h256; rw [bl_0] at h256; omega
          have hYe := hYn hM0
          subst hYe
          refine bad _ (fun w => ?_) rfl
          have ez : (-Y'.toInt).toNat = 0 := by omega
          rw [hdq, ez, Nat.pow_zero, mk_1 (Nat.gcd_one_right _)] at w
          have w1 := w.1
          dsimp only at w1
          have h1 := Nat.mul_le_mul_right (2 ^ Y'.toInt.toNat) (bl_le hM0)
          rw [← Nat.pow_add] at h1
          have h3 : 2 ^ 256 ≤ 2 ^ (bl M - 1 + Y'.toInt.toNat) := Nat.pow_le_pow_right (by decide) (by omega)
          have h2 : (4294967296 : Nat) ^ 8 = 2 ^ 256 := by decide
          omega
        refine z_icmp_le (tgt := 175) hE d_Mo_from_165 (by decide) (fun _ => ?_) (fun c_ => absurd c_ (fun w => w (by rw [Int32.le_iff_toInt_le, esum, i256]; exact h256)))
        have hneg : (-Y').toInt = -Y'.toInt := i_negI (by omega) (by omega)
        have hT : M * 2 ^ Y'.toInt.toNat < 2 ^ 256 := by
          have h1 := Nat.mul_lt_mul_of_pos_right (bl_lt M) (p2_pos Y'.toInt.toNat)
          rw [← Nat.pow_add] at h1
          have h2 : 2 ^ (bl M + Y'.toInt.toNat) ≤ 2 ^ 256 := Nat.pow_le_pow_right (by decide) (by omega)
          omega
        have hD : 2 ^ (-Y'.toInt).toNat ≤ 2 ^ 255 := Nat.pow_le_pow_right (by decide) (by omega)
        have e255 : (2 : Nat) ^ 255 * 2 = 2 ^ 256 := by decide
        refine z_aload_n hE d_Mo_from_175 rfl ?_
        refine z_iload hE d_Mo_from_176 rfl ?_
        refine z_ineg hE d_Mo_from_178 (rfl) ?_
        refine z_callV hE d_Mo_from_179 cl_Mo_197 (c_Mo_shiftBoth l nx V2 (-Y') (by omega) (by rw [hneg, Int.neg_neg]; show M * _ < _; omega) (by rw [hneg]; show 1 * _ < _; omega)) (by assumption) cb_Mo rfl (Nat.le_of_ble_eq_true rfl) ⟨by decide, by decide⟩ ⟨by omega, by omega⟩ (fun r_3 g_3 nx_3 hp_3 => ?_) rfl
        try dsimp only [Option.toList, List.nil_append, List.cons_append]
        obtain ⟨rfl, rfl, V3, G3⟩ := hp_3
        try dsimp only [Option.toList, List.nil_append, List.cons_append]
        have m3 := V3.1
        have W3 : gW g g_3 P (P + 14) := gW_t W2 (g2_W G3 (by omega) (by omega) (by omega) (by omega))
        rw [hneg, Int.neg_neg] at V3
        have fin : ∀ (s : Int32) lv, s = (if b < 9223372036854775808 then 1 else -1) → lG lv 0 = some (.ref P) → lG lv 1 = some (.int f) → zJ E g_3 nx 0 0 194 lv [.int s, .ref P] := by
          intro s lv hs l0 l1
          refine z_sub (lv' := [(0, .ref P), (1, .int f)]) (by simp only [List.map, l0, l1]) ?_
          refine z_put hE d_Mo_from_194 fl_Mo_99 ct_Mo ff_Mo_9 (by assumption) rfl rfl (Nat.le_of_ble_eq_true rfl) ?_
          have V4 := MV_put V3 S.2.2.2.1 S.2.2.2.2 s
          have m4 := V4.1
          refine z_aload_n hE d_Mo_from_197 rfl ?_
          refine z_iload_n hE d_Mo_from_198 rfl ?_
          rw [ef]
          refine z_callV hE d_Mo_from_199 cl_Mo_146 (c_Mo_made l nx V4 hEQ (by omega : fx f < 16) (by show 0 < 1 * 2 ^ (-Y'.toInt).toNat; rw [Nat.one_mul]; exact p2_pos _) (by show 2 * (1 * 2 ^ (-Y'.toInt).toNat) ≤ _; omega)) (by assumption) cb_Mo rfl (Nat.le_of_ble_eq_true rfl) ⟨by decide, by decide⟩ ⟨by omega, by omega⟩ (fun r_8 g_8 nx_8 hp_8 => ?_) rfl
          try dsimp only [Option.toList, List.nil_append, List.cons_append]
          refine z_mret hE hQ d_Mo_from_202 rfl (by omega) (by omega) (gW_t W3 (gW_S (Nat.le_refl _) (by omega))) ?_ hp_8
          rw [hspec]
          refine congrArg (mkS S (fx f)) ?_
          show dQ b = mk s (M * 2 ^ Y'.toInt.toNat) (1 * 2 ^ (-Y'.toInt).toNat)
          rw [Nat.one_mul]
          by_cases hM0 : M = 0
          · have hdm : dm b = 0 := by rw [hM, hM0, Nat.zero_mul]
            have := hY0 hM0
            rw [dQ_0 hdm, this, hM0, Nat.zero_mul, Int.neg_zero, Int.toNat_zero, Nat.pow_zero, mk_1 (Nat.gcd_one_right _), if_pos rfl]
          · rw [hYn hM0, hdq, hs]
        refine z_aload_n hE d_Mo_from_182 rfl ?_
        refine z_lload_n hE d_Mo_from_183 rfl ?_
        refine z_lconst (v := lN 0) hE d_Mo_from_184 (by decide) ?_
        refine z_lcmp hE d_Mo_from_185 ?_
        by_cases hs : b < 9223372036854775808
        · refine z_if_ge (tgt := 193) hE d_Mo_from_186 (by decide) (fun _ => ?_) (fun c_ => absurd c_ (fun w => w (by rw [lg_cmp_ge, hx, lN_nn, Nat.mod_eq_of_lt hb]; exact hs)))
          refine z_iconst (v := 1) hE d_Mo_from_193 (by decide) ?_
          exact fin 1 _ (by rw [if_pos hs]) rfl rfl
        · refine z_if_ge (tgt := 193) hE d_Mo_from_186 (by decide) (fun c_ => absurd c_ (fun w => hs (by rw [lg_cmp_ge, hx, lN_nn, Nat.mod_eq_of_lt hb] at w; exact w))) (fun _ => ?_)
          refine z_iconst (v := (-1)) hE d_Mo_from_189 (by decide) ?_
          refine z_goto (tgt := 194) hE d_Mo_from_190 (by decide) ?_
          exact fin (-1) _ (by rw [if_neg hs]) rfl rfl
    refine z_lload hE d_Mo_from_112 rfl ?_
    refine z_lconst (v := lN 0) hE d_Mo_from_114 (by decide) ?_
    refine z_lcmp hE d_Mo_from_115 ?_
    by_cases hM0 : M = 0
    · refine z_if_ne (tgt := 123) hE d_Mo_from_116 (by decide) (fun c_ => absurd c_ (fun w => w (by rw [lg_cmp_eq, hM0]))) (fun _ => ?_)
      refine z_iconst (v := 0) hE d_Mo_from_119 (by decide) ?_
      refine z_goto (tgt := 125) hE d_Mo_from_120 (by decide) ?_
      exact go 0 _ (fun _ => rfl) (fun q => absurd hM0 q) rfl rfl rfl rfl
    · refine z_if_ne (tgt := 123) hE d_Mo_from_116 (by decide) (fun _ => ?_) (fun c_ => absurd c_ (fun w => hM0 (by rw [lg_cmp_eq] at w; exact lN_inj (by omega) (by omega) w)))
      refine z_iload hE d_Mo_from_123 rfl ?_
      exact go Y _ (fun q => absurd q hM0) (fun _ => rfl) rfl rfl rfl rfl
  have loop : ∀ (u M z : Nat) (Y : Int32) lv, M ≤ u → dm b = M * 2 ^ z → Y.toInt = dw b + z → -1074 ≤ Y.toInt → Y.toInt ≤ 5000 → M ≤ dm b → ¬ b / 4503599627370496 % 2048 = 2047 → lG lv 0 = some (.ref P) → lG lv 1 = some (.int f) → lG lv 2 = some (.long x) → lG lv 5 = some (.long (lN M)) → lG lv 7 = some (.int Y) → zJ E g nx 0 0 79 lv [] := by
    intro u
    induction u with
    | zero =>
      intro M z Y lv hu hM hY hY1 hY2 hMl hexp l0 l1 l2 l5 l7
      refine z_sub (lv' := [(0, .ref P), (1, .int f), (2, .long x), (5, .long (lN M)), (7, .int Y)]) (by simp only [List.map, l0, l1, l2, l5, l7]) ?_
      have hM0 : M = 0 := by omega
      refine z_lload hE d_Mo_from_79 rfl ?_
      refine z_lconst (v := lN 0) hE d_Mo_from_81 (by decide) ?_
      refine z_lcmp hE d_Mo_from_82 ?_
      refine z_if_eq (tgt := 112) hE d_Mo_from_83 (by decide) (fun _ => ?_) (fun c_ => absurd c_ (fun w => w (by rw [lg_cmp_eq, hM0])))
      exact after M z Y _ hM hY hY1 hY2 hMl (Or.inl hM0) hexp rfl rfl rfl rfl rfl
    | succ u ih =>
      intro M z Y lv hu hM hY hY1 hY2 hMl hexp l0 l1 l2 l5 l7
      refine z_sub (lv' := [(0, .ref P), (1, .int f), (2, .long x), (5, .long (lN M)), (7, .int Y)]) (by simp only [List.map, l0, l1, l2, l5, l7]) ?_
      refine z_lload hE d_Mo_from_79 rfl ?_
      refine z_lconst (v := lN 0) hE d_Mo_from_81 (by decide) ?_
      refine z_lcmp hE d_Mo_from_82 ?_
      by_cases hM0 : M = 0
      · refine z_if_eq (tgt := 112) hE d_Mo_from_83 (by decide) (fun _ => ?_) (fun c_ => absurd c_ (fun w => w (by rw [lg_cmp_eq, hM0])))
        exact after M z Y _ hM hY hY1 hY2 hMl (Or.inl hM0) hexp rfl rfl rfl rfl rfl
      · refine z_if_eq (tgt := 112) hE d_Mo_from_83 (by decide) (fun c_ => absurd c_ (fun w => hM0 (by rw [lg_cmp_eq] at w; exact lN_inj (by omega) (by omega) w))) (fun _ => ?_)
        refine z_lload hE d_Mo_from_86 rfl ?_
        refine z_lconst (v := (1 : Int64)) hE d_Mo_from_88 (by decide) ?_
        refine z_land (v := lN (M % 2)) hE d_Mo_from_89 (wb_a1 (by omega)) ?_
        refine z_lconst (v := lN 0) hE d_Mo_from_90 (by decide) ?_
        refine z_lcmp hE d_Mo_from_91 ?_
        by_cases hodd : M % 2 = 1
        · refine z_if_ne (tgt := 112) hE d_Mo_from_92 (by decide) (fun _ => ?_) (fun c_ => absurd c_ (fun w => by rw [lg_cmp_eq, hodd] at w; exact absurd w (by decide)))
          exact after M z Y _ hM hY hY1 hY2 hMl (Or.inr (Or.inl hodd)) hexp rfl rfl rfl rfl rfl
        · refine z_if_ne (tgt := 112) hE d_Mo_from_92 (by decide) (fun c_ => absurd c_ (fun w => w (by rw [lg_cmp_eq, show M % 2 = 0 by omega]))) (fun _ => ?_)
          refine z_iload hE d_Mo_from_95 rfl ?_
          by_cases hY0 : 0 ≤ Y.toInt
          · refine z_if_ge (tgt := 112) hE d_Mo_from_97 (by decide) (fun _ => ?_) (fun c_ => absurd c_ (fun w => w (i_ge0.mpr hY0)))
            exact after M z Y _ hM hY hY1 hY2 hMl (Or.inr (Or.inr hY0)) hexp rfl rfl rfl rfl rfl
          · refine z_if_ge (tgt := 112) hE d_Mo_from_97 (by decide) (fun c_ => absurd c_ (fun w => hY0 (i_ge0.mp w))) (fun _ => ?_)
            have eY : (Y + 1).toInt = Y.toInt + 1 := by
              rw [Int32.toInt_add, show (1 : Int32).toInt = 1 from rfl]; exact Int.bmod_eq_of_le (by omega) (by omega)
            refine z_lload hE d_Mo_from_100 rfl ?_
            refine z_iconst (v := nI 1) hE d_Mo_from_102 (by decide) ?_
            refine z_lshr (v := lN (M / 2)) hE d_Mo_from_103 (l_half (by omega)) ?_
            refine z_lstore hE d_Mo_from_104 (by decide) ?_
            refine z_iinc (v := Y + 1) hE d_Mo_from_106 rfl (rfl) (by decide) ?_
            refine z_goto (tgt := 79) hE d_Mo_from_109 (by decide) ?_
            refine ih (M / 2) (z + 1) (Y + 1) _ (by omega) ?_ (by rw [eY, hY]; omega) (by omega) (by omega) (by omega) hexp rfl rfl rfl rfl rfl
            rw [hM, Nat.pow_succ, Nat.mul_comm (2 ^ z), ← Nat.mul_assoc]
            congr 1
            omega
  refine z_lload_n hE d_Mo_from_10 rfl ?_
  refine z_bipush (v := nI 52) hE d_Mo_from_11 (by decide) ?_
  refine z_lshr hE d_Mo_from_13 (rfl) ?_
  rw [hx]
  refine z_ldc2 hE d_Mo_from_14 cn_Mo_205 ?_
  refine z_land (v := lN (b / 4503599627370496 % 2048)) hE d_Mo_from_17 (l_exp hb) ?_
  refine z_l2i (v := nI (b / 4503599627370496 % 2048)) hE d_Mo_from_18 (lN_i _) ?_
  refine z_istore hE d_Mo_from_19 (by decide) ?_
  refine z_lload_n hE d_Mo_from_21 rfl ?_
  refine z_ldc2 hE d_Mo_from_22 cn_Mo_207 ?_
  refine z_land (v := lN (b % 4503599627370496)) hE d_Mo_from_25 (wb_mask (k := 52) (show b < 2 ^ 64 from hb) (by decide)) ?_
  refine z_lstore hE d_Mo_from_26 (by decide) ?_
  refine z_iload hE d_Mo_from_28 rfl ?_
  refine z_sipush (v := nI 2047) hE d_Mo_from_30 (by decide) ?_
  by_cases hexp : b / 4503599627370496 % 2048 = 2047
  case pos =>
    refine z_icmp_ne (tgt := 43) hE d_Mo_from_33 (by decide) (fun c_ => absurd c_ (fun w => w (by rw [hexp]))) (fun _ => ?_)
    refine z_aload_n hE d_Mo_from_36 rfl ?_
    refine z_bipush (v := 7) hE d_Mo_from_37 (by decide) ?_
    refine z_callV hE d_Mo_from_39 cl_Mo_106 (c_Mo_fail l nx hV 7) (by assumption) cb_Mo rfl (Nat.le_of_ble_eq_true rfl) ⟨by decide, by decide⟩ ⟨by omega, by omega⟩ (fun r_9 g_9 nx_9 hp_9 => ?_) rfl
    try dsimp only [Option.toList, List.nil_append, List.cons_append]
    obtain ⟨rfl, rfl, V9, G9⟩ := hp_9
    try dsimp only [Option.toList, List.nil_append, List.cons_append]
    refine z_iret hE hQ d_Mo_from_42 rfl (by omega) (by omega) (pM_of (S := sC S 7) ?_ V9 (EQS_c hEQ rfl rfl) (gW_t gW_r (g1_W G9 (by omega) (by omega))))
    rw [hspec, if_pos hexp]; rfl
  refine z_icmp_ne (tgt := 43) hE d_Mo_from_33 (by decide) (fun _ => ?_) (fun c_ => absurd c_ (fun w => hexp ((nI_EQ (by omega) (by omega)).mp w)))
  have last : ∀ (Y : Int32) (K : Nat) lv, Y.toInt = dw b → dm b = b % 4503599627370496 + K → lG lv 0 = some (.ref P) → lG lv 1 = some (.int f) → lG lv 2 = some (.long x) → lG lv 7 = some (.int Y) → zJ E g nx 0 0 76 lv [.long (lN K), .long (lN (b % 4503599627370496))] := by
    intro Y K lv hY hK l0 l1 l2 l7
    refine z_sub (lv' := [(0, .ref P), (1, .int f), (2, .long x), (7, .int Y)]) (by simp only [List.map, l0, l1, l2, l7]) ?_
    refine z_ladd (v := lN (dm b)) hE d_Mo_from_76 (by rw [lN_add, hK]) ?_
    refine z_lstore hE d_Mo_from_77 (by decide) ?_
    exact loop (dm b) (dm b) 0 Y _ (Nat.le_refl _) (by rw [Nat.pow_zero, Nat.mul_one]) (by rw [hY]; omega) (by omega) (by omega) (Nat.le_refl _) hexp rfl rfl rfl rfl rfl
  have mid : ∀ (Y : Int32) lv, Y.toInt = dw b → lG lv 0 = some (.ref P) → lG lv 1 = some (.int f) → lG lv 2 = some (.long x) → lG lv 4 = some (.int (nI (b / 4503599627370496 % 2048))) → lG lv 5 = some (.long (lN (b % 4503599627370496))) → zJ E g nx 0 0 60 lv [.int Y] := by
    intro Y lv hY l0 l1 l2 l4 l5
    refine z_sub (lv' := [(0, .ref P), (1, .int f), (2, .long x), (4, .int (nI (b / 4503599627370496 % 2048))), (5, .long (lN (b % 4503599627370496)))]) (by simp only [List.map, l0, l1, l2, l4, l5]) ?_
    refine z_istore hE d_Mo_from_60 (by decide) ?_
    refine z_lload hE d_Mo_from_62 rfl ?_
    refine z_iload hE d_Mo_from_64 rfl ?_
    by_cases he : b / 4503599627370496 % 2048 = 0
    · rw [he]
      refine z_if_ne (tgt := 73) hE d_Mo_from_66 (by decide) (fun c_ => absurd c_ (fun w => w rfl)) (fun _ => ?_)
      refine z_lconst (v := lN 0) hE d_Mo_from_69 (by decide) ?_
      refine z_goto (tgt := 76) hE d_Mo_from_70 (by decide) ?_
      exact last Y 0 _ hY (by unfold dm; rw [if_pos he]) rfl rfl rfl rfl
    · refine z_if_ne (tgt := 73) hE d_Mo_from_66 (by decide) (fun _ => ?_) (fun c_ => absurd c_ (fun w => he ((nI_EQ (b := 0) (by omega) (by omega)).mp w)))
      refine z_ldc2 hE d_Mo_from_73 cn_Mo_203 ?_
      exact last Y 4503599627370496 _ hY (by unfold dm; rw [if_neg he]) rfl rfl rfl rfl
  refine z_iload hE d_Mo_from_43 rfl ?_
  by_cases he : b / 4503599627370496 % 2048 = 0
  · rw [he]
    refine z_if_ne (tgt := 54) hE d_Mo_from_45 (by decide) (fun c_ => absurd c_ (fun w => w rfl)) (fun _ => ?_)
    refine z_sipush (v := (-1074 : Int32)) hE d_Mo_from_48 (by decide) ?_
    refine z_goto (tgt := 60) hE d_Mo_from_51 (by decide) ?_
    exact mid (-1074) _ (by unfold dw; rw [if_pos he]; decide) rfl rfl (by rw [← hx]; rfl) (by rw [he]; rfl) rfl
  · refine z_if_ne (tgt := 54) hE d_Mo_from_45 (by decide) (fun _ => ?_) (fun c_ => absurd c_ (fun w => he ((nI_EQ (b := 0) (by omega) (by omega)).mp w)))
    refine z_iload hE d_Mo_from_54 rfl ?_
    refine z_sipush (v := nI 1075) hE d_Mo_from_56 (by decide) ?_
    refine z_isub hE d_Mo_from_59 (rfl) ?_
    refine mid _ _ ?_ rfl rfl (by rw [← hx]; rfl) rfl rfl
    rw [pk_sub_toInt (by omega) (by omega)]
    unfold dw; rw [if_neg he]; rfl

