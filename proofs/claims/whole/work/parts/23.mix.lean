/-! Reckoner.mix -/
theorem mx_s {P vs cs a b vu vw x y z : Int} (h : vs + cs * P = a * vu + b * vw) (hz : z = cs + (a * x + b * y)) : vs + z % 4294967296 * P + z / 4294967296 * (4294967296 * P) = a * (vu + x * P) + b * (vw + y * P) := by
  have h1 := Int.emod_add_mul_ediv z 4294967296
  have h2 : vs + z % 4294967296 * P + z / 4294967296 * (4294967296 * P) = vs + (z % 4294967296 + 4294967296 * (z / 4294967296)) * P := by grind
  rw [h2, h1, hz]
  grind
theorem mx_e {P v c t : Int} (hP : 0 < P) (h0 : 0 ≤ v) (h1 : v < P) (t0 : 0 ≤ t) (t1 : t < P) (h : v + c * P = t) : v = t := by
  rcases Int.lt_trichotomy c 0 with z | z | z
  · have := Int.mul_le_mul_of_nonneg_right (show c ≤ -1 by omega) (Int.le_of_lt hP)
    omega
  · subst z; omega
  · have := Int.mul_le_mul_of_nonneg_right (show 1 ≤ c by omega) (Int.le_of_lt hP)
    omega
theorem val_sI (d : Nat → Nat) (i : Nat) : ((val d (i + 1) : Nat) : Int) = (val d i : Int) + (d i : Int) * ((4294967296 ^ i : Nat) : Int) := by
  rw [val_s, Int.natCast_add, Int.natCast_mul]
theorem val_upI {d : Nat → Nat} {i : Nat} {z : Int} : ((val (upN d i (z % 4294967296).toNat) (i + 1) : Nat) : Int) = (val d i : Int) + z % 4294967296 * ((4294967296 ^ i : Nat) : Int) := by
  rw [val_upN, Int.natCast_add, Int.natCast_mul, Int.toNat_of_nonneg (Int.emod_nonneg _ (by decide))]
theorem emod_lt (z : Int) : (z % 4294967296).toNat < 4294967296 := by omega
set_option maxHeartbeats 1000000 in
theorem c_Re_mix (l : Launch) {g : Gh} (nx : Nat) {R U W U' W' : Nat} {a b c d : Int} (hRE : RE g R) (hU : NA g (R + 13) 20 U) (hW : NA g (R + 15) 20 W) (hWU : W ≤ U) (ha : -2147483647 ≤ a) (ha2 : a ≤ 2147483647) (hb : -2147483647 ≤ b) (hb2 : b ≤ 2147483647) (hs : (0 ≤ a ∧ b ≤ 0) ∨ (a ≤ 0 ∧ 0 ≤ b)) (hc : -2147483647 ≤ c) (hc2 : c ≤ 2147483647) (hd : -2147483647 ≤ d) (hd2 : d ≤ 2147483647) (hs2 : (0 ≤ c ∧ d ≤ 0) ∨ (c ≤ 0 ∧ 0 ≤ d))
    (hU' : (U' : Int) = a * U + b * W) (hW' : (W' : Int) = c * U + d * W) (hlU : U' ≤ U) (hlW : W' ≤ U) : Ct l m_Re_mix 0 0 [.ref R, .long (iL a), .long (iL b), .long (iL c), .long (iL d)] g nx (fun r g' nx' => r = none ∧ nx = nx' ∧ NA g' (R + 13) 20 U' ∧ NA g' (R + 15) 20 W' ∧ gW g g' (R + 13) (R + 17)) := by
  obtain ⟨n, u, hRu, huv, hun⟩ := hU
  obtain ⟨m, w, hRw, hwv, hwn⟩ := hW
  obtain ⟨u1, u2, u3, u4, u5⟩ := id hRu
  obtain ⟨w1, w2, w3, w4, w5⟩ := id hRw
  have hRE' := hRE
  unfold RE at hRE'
  have hUn : U < 4294967296 ^ n := by rw [← huv]; exact val_lt u5 n
  have hmn : m ≤ n := (norm_len w5 hwn).mp (by rw [hwv]; omega)
  refine Ct.of (by decide) (Nat.le_of_ble_eq_true rfl) (fun E hE hQ => ?_)
  refine z_lconst (v := iL 0) hE d_Re_mix_0 (by decide) ?_
  refine z_lstore hE d_Re_mix_1 (by decide) ?_
  refine z_lconst (v := iL 0) hE d_Re_mix_3 (by decide) ?_
  refine z_lstore hE d_Re_mix_4 (by decide) ?_
  refine z_aload_n hE d_Re_mix_6 rfl ?_
  refine z_get hE d_Re_mix_7 fl_Re_30 (by assumption) rfl ?_
  refine z_getN hE d_Re_mix_10 fl_Re_102 (by assumption) rfl ?_
  refine z_istore hE d_Re_mix_13 (by decide) ?_
  refine z_aload_n hE d_Re_mix_15 rfl ?_
  refine z_get hE d_Re_mix_16 fl_Re_34 (by assumption) rfl ?_
  refine z_iload hE d_Re_mix_19 rfl ?_
  refine z_callV hE d_Re_mix_21 cl_Re_176 (c_Na_widen l nx hRw n (by omega)) (by assumption) cb_Na rfl (Nat.le_of_ble_eq_true rfl) ⟨by decide, by decide⟩ ⟨by omega, by omega⟩ (fun r_21 g_21 nx_21 hp_21 => ?_) rfl
  obtain ⟨rfl, rfl, rfl⟩ := hp_21
  try dsimp only [Option.toList, List.nil_append, List.cons_append]
  rw [Nat.min_eq_left (show n ≤ 20 by omega), Nat.max_eq_right hmn]
  obtain ⟨t0, ht0⟩ : ∃ t0, (fun j => if m ≤ j ∧ j < n then 0 else w j) = t0 := ⟨_, rfl⟩
  rw [ht0]
  have ht0l : ∀ j, t0 j < 4294967296 := fun j => by rw [← ht0]; dsimp only; split; omega; exact w5 j
  have ht0v : val t0 n = W := by
    rw [← hwv, val_zeros hmn (fun j q1 q2 => by rw [← ht0]; exact if_pos ⟨q1, q2⟩)]
    exact val_ext m (fun j hj => by rw [← ht0]; exact if_neg (by omega))
  have loop : ∀ (k i : Nat) (cs cd : Int) (s t : Nat → Nat), i + k = n → -2147483648 ≤ cs → cs ≤ 2147483647 → -2147483648 ≤ cd → cd ≤ 2147483647 → (∀ j, s j < 4294967296) → (∀ j, t j < 4294967296) → (∀ j, i ≤ j → s j = u j) → (∀ j, i ≤ j → t j = t0 j) → (val s i : Int) + cs * ((4294967296 ^ i : Nat) : Int) = a * (val u i : Int) + b * (val t0 i : Int) → (val t i : Int) + cd * ((4294967296 ^ i : Nat) : Int) = c * (val u i : Int) + d * (val t0 i : Int) → ∀ lv, lG lv 0 = some (.ref R) → lG lv 1 = some (.long (iL a)) → lG lv 3 = some (.long (iL b)) → lG lv 5 = some (.long (iL c)) → lG lv 7 = some (.long (iL d)) → lG lv 9 = some (.long (iL cs)) → lG lv 11 = some (.long (iL cd)) → lG lv 13 = some (.int (nI n)) → lG lv 14 = some (.int (nI i)) → zJ E (gN (gN g (R + 13) 20 n s) (R + 15) 20 n t) nx 0 0 27 lv [] := by
    intro k
    induction k with
    | zero =>
      intro i cs cd s t hi k1 k2 k3 k4 hsl htl hsk htk hvs hvt lv l0 l1 l3 l5 l7 l9 l11 l13 l14
      refine z_sub (lv' := [(0, .ref R), (13, .int (nI n)), (14, .int (nI i))]) (by simp only [List.map, l0, l13, l14]) ?_
      have hin : i = n := by omega
      subst hin
      obtain ⟨gL, hgL⟩ : ∃ gL, gN (gN g (R + 13) 20 i s) (R + 15) 20 i t = gL := ⟨_, rfl⟩
      have hLt : RN gL (R + 15) 20 i t := by rw [← hgL]; exact RN_gN (by omega) (by omega) htl
      have hLs : RN gL (R + 13) 20 i s := by
        rw [← hgL]
        exact ⟨by rw [gN_o (by omega) (by omega), gN_a], by rw [gN_o (by omega) (by omega), gN_p], by omega, by omega, hsl⟩
      have hLR : RE gL R := by
        unfold RE
        rw [← hgL, gN_o (by omega) (by omega), gN_o (by omega) (by omega)]; exact hRE
      have hLW : gW g gL (R + 13) (R + 17) := by
        rw [← hgL]
        exact gW_t (gW_N (by omega) (by omega)) (gW_N (by omega) (by omega))
      unfold RE at hLR
      have hLs1 := hLs.1
      rw [hgL]
      have hPp : (0 : Int) < ((4294967296 ^ i : Nat) : Int) := by have := Bp i; omega
      have z1 := val_lt hsl i
      have z2 := val_lt htl i
      rw [huv, ht0v, ← hU'] at hvs
      rw [huv, ht0v, ← hW'] at hvt
      have e1 := mx_e hPp (by omega) (by omega) (by omega) (by omega) hvs
      have e2 := mx_e hPp (by omega) (by omega) (by omega) (by omega) hvt
      refine z_iload hE d_Re_mix_27 rfl ?_
      refine z_iload hE d_Re_mix_29 rfl ?_
      refine z_icmp_ge (tgt := 136) hE d_Re_mix_31 (by decide) (fun c_31 => ?_) (fun c_31 => ?_)
      · refine z_aload_n hE d_Re_mix_136 rfl ?_
        refine z_get hE d_Re_mix_137 fl_Re_30 (by assumption) rfl ?_
        refine z_callV hE d_Re_mix_140 cl_Re_188 (c_Na_trim l nx hLs) (by assumption) cb_Na rfl (Nat.le_of_ble_eq_true rfl) ⟨by decide, by decide⟩ ⟨by omega, by omega⟩ (fun r_140 g_140 nx_140 hp_140 => ?_) rfl
        obtain ⟨rfl, rfl, rfl⟩ := hp_140
        try dsimp only [Option.toList, List.nil_append, List.cons_append]
        obtain ⟨gM, hgM⟩ : ∃ gM, gN gL (R + 13) 20 (tl s i) s = gM := ⟨_, rfl⟩
        rw [hgM]
        have hMt : RN gM (R + 15) 20 i t := by rw [← hgM]; exact RN_o hLs hLt (by omega)
        have hMR : gM R = some (.inr (3, [.ref (R + 1), .ref (R + 6), .ref (R + 13), .ref (R + 15), .ref (R + 17), .ref (R + 19), .ref (R + 21), .ref (R + 23)])) := by rw [← hgM, gN_o (by omega) (by omega)]; exact hLR
        have hMt1 := hMt.1
        refine z_aload_n hE d_Re_mix_143 rfl ?_
        refine z_get hE d_Re_mix_144 fl_Re_34 (by assumption) rfl ?_
        refine z_callV hE d_Re_mix_147 cl_Re_188 (c_Na_trim l nx hMt) (by assumption) cb_Na rfl (Nat.le_of_ble_eq_true rfl) ⟨by decide, by decide⟩ ⟨by omega, by omega⟩ (fun r_147 g_147 nx_147 hp_147 => ?_) rfl
        obtain ⟨rfl, rfl, rfl⟩ := hp_147
        try dsimp only [Option.toList, List.nil_append, List.cons_append]
        refine z_vret hE hQ d_Re_mix_150 rfl (Nat.le_refl _) (Nat.le_refl _) ⟨rfl, rfl, ?_, ?_, ?_⟩
        · have n1 := NA_trim (g := gL) (a := R + 13) (N := 20) (n := i) (d := s) (by omega) (by omega) hsl
          rw [hgM, show val s i = U' by omega] at n1
          obtain ⟨y1, y2, y3, y4, y5⟩ := n1
          exact ⟨y1, y2, RN_o hMt y3 (by omega), y4, y5⟩
        · have n1 := NA_trim (g := gM) (a := R + 15) (N := 20) (n := i) (d := t) (by omega) (by omega) htl
          rw [show val t i = W' by omega] at n1
          exact n1
        · exact gW_t hLW (gW_t (by rw [← hgM]; exact gW_N (by omega) (by omega)) (gW_N (by omega) (by omega)))
      · exact absurd ((nI_LE (by omega) (by omega)).mpr (Nat.le_refl _)) c_31
    | succ k ih =>
      intro i cs cd s t hi k1 k2 k3 k4 hsl htl hsk htk hvs hvt lv l0 l1 l3 l5 l7 l9 l11 l13 l14
      refine z_sub (lv' := [(0, .ref R), (1, .long (iL a)), (3, .long (iL b)), (5, .long (iL c)), (7, .long (iL d)), (9, .long (iL cs)), (11, .long (iL cd)), (13, .int (nI n)), (14, .int (nI i))]) (by simp only [List.map, l0, l1, l3, l5, l7, l9, l11, l13, l14]) ?_
      have fR : ∀ s t, (∀ j, s j < 4294967296) → (∀ j, t j < 4294967296) → RN (gN (gN g (R + 13) 20 n s) (R + 15) 20 n t) (R + 13) 20 n s ∧ RN (gN (gN g (R + 13) 20 n s) (R + 15) 20 n t) (R + 15) 20 n t ∧ RE (gN (gN g (R + 13) 20 n s) (R + 15) 20 n t) R := by
        intro s t hsl htl
        refine ⟨⟨by rw [gN_o (by omega) (by omega), gN_a], by rw [gN_o (by omega) (by omega), gN_p], by omega, by omega, hsl⟩, RN_gN (by omega) (by omega) htl, ?_⟩
        unfold RE
        rw [gN_o (by omega) (by omega), gN_o (by omega) (by omega)]; exact hRE
      obtain ⟨hLs, hLt, hLR⟩ := fR s t hsl htl
      have hLR' := hLR
      unfold RE at hLR'
      have hLs1 := hLs.1
      have hLt1 := hLt.1
      have hsi := hsk i (Nat.le_refl _)
      have hti := htk i (Nat.le_refl _)
      have q1 := u5 i
      have q2 := ht0l i
      obtain ⟨b1, b2, b3, b4⟩ := mx_b (x := (u i : Int)) (y := (t0 i : Int)) (c := cs) ha ha2 hb hb2 hs (by omega) (by omega) (by omega) (by omega) k1 k2
      obtain ⟨b5, b6, b7, b8⟩ := mx_b (x := (u i : Int)) (y := (t0 i : Int)) (c := cd) hc hc2 hd hd2 hs2 (by omega) (by omega) (by omega) (by omega) k3 k4
      refine z_iload hE d_Re_mix_27 rfl ?_
      refine z_iload hE d_Re_mix_29 rfl ?_
      refine z_icmp_ge (tgt := 136) hE d_Re_mix_31 (by decide) (fun c_31 => ?_) (fun c_31 => ?_)
      · exact absurd ((nI_LE (by omega) (by omega)).mp c_31) (by omega)
      · refine z_aload_n hE d_Re_mix_34 rfl ?_
        refine z_get hE d_Re_mix_35 fl_Re_30 (by assumption) rfl ?_
        refine z_iload hE d_Re_mix_38 rfl ?_
        refine z_callV hE d_Re_mix_40 cl_Re_179 (c_Na_at l nx hLs (nI i)) (by assumption) cb_Na rfl (Nat.le_of_ble_eq_true rfl) ⟨by decide, by decide⟩ ⟨by omega, by omega⟩ (fun r_40 g_40 nx_40 hp_40 => ?_) rfl
        obtain ⟨rfl, rfl, rfl⟩ := hp_40
        try dsimp only [Option.toList, List.nil_append, List.cons_append]
        rw [dz_n (by omega), dzf_in (by omega), hsi, ← iL_n]
        refine z_lstore hE d_Re_mix_43 (by decide) ?_
        refine z_aload_n hE d_Re_mix_45 rfl ?_
        refine z_get hE d_Re_mix_46 fl_Re_34 (by assumption) rfl ?_
        refine z_iload hE d_Re_mix_49 rfl ?_
        refine z_callV hE d_Re_mix_51 cl_Re_179 (c_Na_at l nx hLt (nI i)) (by assumption) cb_Na rfl (Nat.le_of_ble_eq_true rfl) ⟨by decide, by decide⟩ ⟨by omega, by omega⟩ (fun r_51 g_51 nx_51 hp_51 => ?_) rfl
        obtain ⟨rfl, rfl, rfl⟩ := hp_51
        try dsimp only [Option.toList, List.nil_append, List.cons_append]
        rw [dz_n (by omega), dzf_in (by omega), hti, ← iL_n]
        obtain ⟨z, hz⟩ : ∃ z, z = cs + (a * (u i : Int) + b * (t0 i : Int)) := ⟨_, rfl⟩
        obtain ⟨y, hy⟩ : ∃ y, y = cd + (c * (u i : Int) + d * (t0 i : Int)) := ⟨_, rfl⟩
        rw [← hz] at b1 b2 b3 b4
        rw [← hy] at b5 b6 b7 b8
        refine z_lstore hE d_Re_mix_54 (by decide) ?_
        refine z_lload hE d_Re_mix_56 rfl ?_
        refine z_lload_n hE d_Re_mix_58 rfl ?_
        refine z_lload hE d_Re_mix_59 rfl ?_
        refine z_lmul (v := iL (a * (u i : Int))) hE d_Re_mix_61 (iL_mul _ _) ?_
        refine z_lload_n hE d_Re_mix_62 rfl ?_
        refine z_lload hE d_Re_mix_63 rfl ?_
        refine z_lmul (v := iL (b * (t0 i : Int))) hE d_Re_mix_65 (iL_mul _ _) ?_
        refine z_ladd (v := iL (a * (u i : Int) + b * (t0 i : Int))) hE d_Re_mix_66 (iL_add _ _) ?_
        refine z_ladd (v := iL z) hE d_Re_mix_67 (by rw [hz]; exact iL_add _ _) ?_
        refine z_lstore hE d_Re_mix_68 (by decide) ?_
        refine z_lload hE d_Re_mix_70 rfl ?_
        refine z_lload hE d_Re_mix_72 rfl ?_
        refine z_lload hE d_Re_mix_74 rfl ?_
        refine z_lmul (v := iL (c * (u i : Int))) hE d_Re_mix_76 (iL_mul _ _) ?_
        refine z_lload hE d_Re_mix_77 rfl ?_
        refine z_lload hE d_Re_mix_79 rfl ?_
        refine z_lmul (v := iL (d * (t0 i : Int))) hE d_Re_mix_81 (iL_mul _ _) ?_
        refine z_ladd (v := iL (c * (u i : Int) + d * (t0 i : Int))) hE d_Re_mix_82 (iL_add _ _) ?_
        refine z_ladd (v := iL y) hE d_Re_mix_83 (by rw [hy]; exact iL_add _ _) ?_
        refine z_lstore hE d_Re_mix_84 (by decide) ?_
        refine z_aload_n hE d_Re_mix_86 rfl ?_
        refine z_get hE d_Re_mix_87 fl_Re_30 (by assumption) rfl ?_
        refine z_iload hE d_Re_mix_90 rfl ?_
        refine z_lload hE d_Re_mix_92 rfl ?_
        refine z_ldc2 hE d_Re_mix_94 cn_Re_182 ?_
        refine z_land (v := lN (z % 4294967296).toNat) hE d_Re_mix_97 (iL_mask z) ?_
        refine z_callV hE d_Re_mix_98 cl_Re_184 (c_Na_store l nx hLs (k := i) (by omega) (z % 4294967296).toNat) (by assumption) cb_Na rfl (Nat.le_of_ble_eq_true rfl) ⟨by decide, by decide⟩ ⟨by omega, by omega⟩ (fun r_98 g_98 nx_98 hp_98 => ?_) rfl
        obtain ⟨rfl, rfl, rfl⟩ := hp_98
        try dsimp only [Option.toList, List.nil_append, List.cons_append]
        rw [gN_in (by omega) (by omega) (by omega)]
        have hs'l := upN_lt (k := i) hsl (emod_lt z)
        obtain ⟨hMs, hMt, hMR⟩ := fR _ t hs'l htl
        have hMR' := hMR
        unfold RE at hMR'
        have hMt1 := hMt.1
        refine z_aload_n hE d_Re_mix_101 rfl ?_
        refine z_get hE d_Re_mix_102 fl_Re_34 (by assumption) rfl ?_
        refine z_iload hE d_Re_mix_105 rfl ?_
        refine z_lload hE d_Re_mix_107 rfl ?_
        refine z_ldc2 hE d_Re_mix_109 cn_Re_182 ?_
        refine z_land (v := lN (y % 4294967296).toNat) hE d_Re_mix_112 (iL_mask y) ?_
        refine z_callV hE d_Re_mix_113 cl_Re_184 (c_Na_store l nx hMt (k := i) (by omega) (y % 4294967296).toNat) (by assumption) cb_Na rfl (Nat.le_of_ble_eq_true rfl) ⟨by decide, by decide⟩ ⟨by omega, by omega⟩ (fun r_113 g_113 nx_113 hp_113 => ?_) rfl
        obtain ⟨rfl, rfl, rfl⟩ := hp_113
        try dsimp only [Option.toList, List.nil_append, List.cons_append]
        rw [gN_gN]
        have ht'l := upN_lt (k := i) htl (emod_lt y)
        refine z_lload hE d_Re_mix_116 rfl ?_
        refine z_bipush (v := 32) hE d_Re_mix_118 (by decide) ?_
        refine z_lshr (v := iL (z / 4294967296)) hE d_Re_mix_120 (iL_shr b1 b2) ?_
        refine z_lstore hE d_Re_mix_121 (by decide) ?_
        refine z_lload hE d_Re_mix_123 rfl ?_
        refine z_bipush (v := 32) hE d_Re_mix_125 (by decide) ?_
        refine z_lshr (v := iL (y / 4294967296)) hE d_Re_mix_127 (iL_shr b5 b6) ?_
        refine z_lstore hE d_Re_mix_128 (by decide) ?_
        refine z_iinc (v := nI (i + 1)) hE d_Re_mix_130 rfl (nI_1 i) (by decide) ?_
        refine z_goto (tgt := 27) hE d_Re_mix_133 (by decide) ?_
        refine ih (i + 1) (z / 4294967296) (y / 4294967296) _ _ (by omega) b3 b4 b7 b8 hs'l ht'l (fun j hj => by rw [upN_n (by omega)]; exact hsk j (by omega)) (fun j hj => by rw [upN_n (by omega)]; exact htk j (by omega)) ?_ ?_ _ rfl rfl rfl rfl rfl rfl rfl rfl rfl
        · rw [val_upI, val_sI, val_sI, Bs, Int.natCast_mul]
          exact mx_s hvs hz
        · rw [val_upI, val_sI, val_sI, Bs, Int.natCast_mul]
          exact mx_s hvt hy
  refine z_iconst (v := nI 0) hE d_Re_mix_24 (by decide) ?_
  refine z_istore hE d_Re_mix_25 (by decide) ?_
  rw [← gN_id hRu]
  rw [gN_id hRu]
  refine z_g (g' := gN (gN g (R + 13) 20 n u) (R + 15) 20 n t0) (by rw [gN_id hRu]) (loop n 0 0 0 u t0 (by omega) (by omega) (by omega) (by omega) (by omega) u5 ht0l (fun _ _ => rfl) (fun _ _ => rfl) ?_ ?_ _ rfl rfl rfl rfl rfl rfl rfl rfl rfl)
  · show ((0 : Nat) : Int) + 0 * _ = a * ((0 : Nat) : Int) + b * ((0 : Nat) : Int)
    omega
  · show ((0 : Nat) : Int) + 0 * _ = c * ((0 : Nat) : Int) + d * ((0 : Nat) : Int)
    omega

