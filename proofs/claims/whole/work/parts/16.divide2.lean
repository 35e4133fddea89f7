/-! Division.divide: the walk -/
theorem gN_in {g : Gh} {a b N M n m n' N' : Nat} {d e d' : Nat → Nat} (h1 : a ≠ b) (h2 : a ≠ b + 1) (h3 : b ≠ a + 1) : gN (gN (gN g a N n d) b M m e) a N' n' d' = gN (gN g a N' n' d') b M m e := by
  rw [← gN_comm h1 h2 h3, gN_comm h1 h2 h3, gN_comm h1 h2 h3, gN_gN, gN_comm (Ne.symm h1) h3 h2]
theorem val_split3 {r : Nat → Nat} {k n z : Nat} (hk : k + n < z) : val r z = val r k + 4294967296 ^ k * val (sh r k) (n + 1) + 4294967296 ^ (k + n + 1) * val (sh r (k + n + 1)) (z - (k + n + 1)) := by
  have h1 := val_sh r (k + n + 1) (z - (k + n + 1))
  rw [show k + n + 1 + (z - (k + n + 1)) = z by omega] at h1
  have h2 := val_sh r k (n + 1)
  rw [show k + (n + 1) = k + n + 1 by omega] at h2
  rw [h1, h2]
set_option maxHeartbeats 4000000 in
theorem dv_loop {E : zE} {l : Launch} {g g_5 : Gh} {nx o n' m P s x y V X : Nat} {v : Nat → Nat} (hE : zOk E l m_Dv_divide 0 0) (hQ : zRt E 0 0 (pDV g o x y nx)) (hD5 : DV g_5 o) (hW5 : gW g g_5 (o + 1) (o + 7)) (hRv : RN g_5 (o + 1) 20 n' v) (hvv : val v n' = V) (hvn : n' = 0 ∨ v (n' - 1) ≠ 0) (hn1 : 1 ≤ n') (hvt : 2147483648 ≤ v (n' - 1)) (hVhi : V < 4294967296 ^ n') (hV0 : 0 < V) (hPm : P + n' = m + 1) (hm19 : m ≤ 19) (hs31 : s ≤ 31) (hX : x * 2 ^ s = X) (hV : y * 2 ^ s = V) :
    ∀ (i : Nat) (x5 : Int32) (q r : Nat → Nat), i ≤ P → x5.toInt = (i : Int) - 1 → (∀ j, q j < 4294967296) → (∀ j, j < i → q j = 0) → (∀ j, r j < 4294967296) → val r (m + 1) < V * 4294967296 ^ i → X = val q P * V + val r (m + 1) → ∀ lv, lG lv 0 = some (.ref o) → lG lv 3 = some (.int (nI s)) → lG lv 5 = some (.int x5) → zJ E (gN (gN g_5 (o + 3) 20 P q) (o + 5) 20 (m + 1) r) nx 0 0 122 lv [] := by
  obtain ⟨v1, v2, v3, v4, v5⟩ := id hRv
  intro i
  induction i with
  | zero =>
    intro x5 q r hi hx5 hq hqz hr hR hXv lv l0 l3 l5
    refine z_sub (lv' := [(0, .ref o), (3, .int (nI s)), (5, .int x5)]) (by simp only [List.map, l0, l3, l5]) ?_
    obtain ⟨gL, hgL⟩ : ∃ gL, gN (gN g_5 (o + 3) 20 P q) (o + 5) 20 (m + 1) r = gL := ⟨_, rfl⟩
    have hLr : RN gL (o + 5) 20 (m + 1) r := by rw [← hgL]; exact RN_gN (by omega) (by omega) hr
    have hLq : RN gL (o + 3) 20 P q := by
      rw [← hgL]
      exact ⟨by rw [gN_o (by omega) (by omega), gN_a], by rw [gN_o (by omega) (by omega), gN_p], by omega, by omega, hq⟩
    have hLv : RN gL (o + 1) 20 n' v := by
      rw [← hgL]
      exact ⟨by rw [gN_o (by omega) (by omega), gN_o (by omega) (by omega)]; exact v1, by rw [gN_o (by omega) (by omega), gN_o (by omega) (by omega)]; exact v2, by omega, by omega, v5⟩
    have hLD : DV gL o := by
      rw [← hgL]
      exact DV_N (DV_N hD5 (by omega) (by omega)) (by omega) (by omega)
    have hLW : gW g gL (o + 1) (o + 7) := by
      rw [← hgL]
      exact gW_t hW5 (gW_t (gW_N (by omega) (by omega)) (gW_N (by omega) (by omega)))
    have hLD' := hLD
    unfold DV at hLD'
    rw [hgL]
    refine z_iload hE d_Dv_divide_122 rfl ?_
    refine z_if_lt (tgt := 183) hE d_Dv_divide_124 (by decide) (fun c_124 => ?_) (fun c_124 => ?_)
    · have hLq1 := hLq.1
      refine z_aload_n hE d_Dv_divide_183 rfl ?_
      refine z_get hE d_Dv_divide_184 fl_Dv_20 (by assumption) rfl ?_
      refine z_callV hE d_Dv_divide_187 cl_Dv_73 (c_Na_trim l nx hLq) (by assumption) cb_Na rfl (Nat.le_of_ble_eq_true rfl) ⟨by decide, by decide⟩ ⟨by omega, by omega⟩ (fun r_187 g_187 nx_187 hp_187 => ?_) rfl
      obtain ⟨rfl, rfl, rfl⟩ := hp_187
      try dsimp only [Option.toList, List.nil_append, List.cons_append]
      obtain ⟨gM, hgM⟩ : ∃ gM, gN gL (o + 3) 20 (tl q P) q = gM := ⟨_, rfl⟩
      rw [hgM]
      have hMr : RN gM (o + 5) 20 (m + 1) r := by rw [← hgM]; exact RN_o hLq hLr (by omega)
      have hMv : NA gM (o + 1) 20 V := by rw [← hgM]; exact ⟨n', v, RN_o hLq hLv (by omega), hvv, hvn⟩
      have hMq : NA gM (o + 3) 20 (val q P) := by rw [← hgM]; exact NA_trim (by omega) (by omega) hq
      have hMD : DV gM o := by rw [← hgM]; exact DV_N hLD (by omega) (by omega)
      have hMW : gW g gM (o + 1) (o + 7) := by rw [← hgM]; exact gW_t hLW (gW_N (by omega) (by omega))
      have hMD' := hMD
      unfold DV at hMD'
      have hMr1 := hMr.1
      refine z_aload_n hE d_Dv_divide_190 rfl ?_
      refine z_get hE d_Dv_divide_191 fl_Dv_23 (by assumption) rfl ?_
      refine z_callV hE d_Dv_divide_194 cl_Dv_73 (c_Na_trim l nx hMr) (by assumption) cb_Na rfl (Nat.le_of_ble_eq_true rfl) ⟨by decide, by decide⟩ ⟨by omega, by omega⟩ (fun r_194 g_194 nx_194 hp_194 => ?_) rfl
      obtain ⟨rfl, rfl, rfl⟩ := hp_194
      try dsimp only [Option.toList, List.nil_append, List.cons_append]
      obtain ⟨gO1, hgO1⟩ : ∃ gO1, gN gM (o + 5) 20 (tl r (m + 1)) r = gO1 := ⟨_, rfl⟩
      rw [hgO1]
      have hOO : gO gM gO1 (o + 5) := by rw [← hgO1]; exact gO_N
      have hMr' : NA gM (o + 5) 20 (val r (m + 1)) ∨ True := Or.inr trivial
      have hOr : NA gO1 (o + 5) 20 (val r (m + 1)) := by rw [← hgO1]; exact NA_trim (by omega) (by omega) hr
      have hOv : NA gO1 (o + 1) 20 V := by
        obtain ⟨k1, k2, k3, k4, k5⟩ := hMv
        rw [← hgO1]; exact ⟨k1, k2, RN_o hMr k3 (by omega), k4, k5⟩
      have hOq : NA gO1 (o + 3) 20 (val q P) := by
        obtain ⟨k1, k2, k3, k4, k5⟩ := hMq
        rw [← hgO1]; exact ⟨k1, k2, RN_o hMr k3 (by omega), k4, k5⟩
      have hOD : DV gO1 o := by rw [← hgO1]; exact DV_N hMD (by omega) (by omega)
      have hOW : gW g gO1 (o + 1) (o + 7) := gW_t hMW (gW_O hOO (by omega) (by omega))
      have hOD' := hOD
      unfold DV at hOD'
      obtain ⟨_, _, ⟨hOr1, -⟩, -⟩ := id hOr
      refine z_aload_n hE d_Dv_divide_197 rfl ?_
      refine z_get hE d_Dv_divide_198 fl_Dv_23 (by assumption) rfl ?_
      refine z_iload_n hE d_Dv_divide_201 rfl ?_
      refine z_callV hE d_Dv_divide_202 cl_Dv_76 (c_Na_shiftDown l nx hOr s (by omega)) (by assumption) cb_Na rfl (Nat.le_of_ble_eq_true rfl) ⟨by decide, by decide⟩ ⟨by omega, by omega⟩ (fun r_9 g_9 nx_9 hp_9 => ?_) rfl
      try dsimp only [Option.toList, List.nil_append, List.cons_append]
      obtain ⟨rfl, rfl, hZ5, hZO⟩ := hp_9
      try dsimp only [Option.toList, List.nil_append, List.cons_append]
      rw [Nat.pow_zero, Nat.mul_one] at hR
      have hQ1 : val q P = x / y := by
        rw [← Nat.mul_div_mul_right x y (pw_pos s), hX, hV, hXv, Nat.mul_comm, Nat.mul_add_div hV0, Nat.div_eq_of_lt hR, Nat.add_zero]
      have hQ2 : val r (m + 1) = x % y * 2 ^ s := by
        rw [← Nat.mul_mod_mul_right, hX, hV, hXv, Nat.add_comm (val q P * V), Nat.add_mul_mod_self_right, Nat.mod_eq_of_lt hR]
      refine z_vret hE hQ d_Dv_divide_205 rfl (Nat.le_refl _) (Nat.le_refl _) ⟨rfl, rfl, ?_, ?_, ⟨V, NA_o hOr hOv (by omega) hZO⟩, gW_t hOW (gW_O hZO (by omega) (by omega))⟩
      · rw [← hQ1]; exact NA_o hOr hOq (by omega) hZO
      · rw [hQ2, Nat.mul_div_cancel _ (pw_pos s)] at hZ5
        exact hZ5
    · exact absurd (i_lt0.mpr (by omega)) c_124
  | succ k ih =>
    intro x5 q r hi hx5 hq hqz hr hR hXv lv l0 l3 l5
    have hxk : x5 = nI k := by rw [← Int32.toInt_inj, nI_ti (by omega)]; omega
    subst hxk
    refine z_sub (lv' := [(0, .ref o), (3, .int (nI s)), (5, .int (nI k))]) (by simp only [List.map, l0, l3, l5]) ?_
    have fL : ∀ r, (∀ j, r j < 4294967296) → DV (gN (gN g_5 (o + 3) 20 P q) (o + 5) 20 (m + 1) r) o ∧ RN (gN (gN g_5 (o + 3) 20 P q) (o + 5) 20 (m + 1) r) (o + 5) 20 (m + 1) r ∧ RN (gN (gN g_5 (o + 3) 20 P q) (o + 5) 20 (m + 1) r) (o + 3) 20 P q ∧ RN (gN (gN g_5 (o + 3) 20 P q) (o + 5) 20 (m + 1) r) (o + 1) 20 n' v := by
      intro r hr
      refine ⟨DV_N (DV_N hD5 (by omega) (by omega)) (by omega) (by omega), RN_gN (by omega) (by omega) hr, ?_, ?_⟩
      · exact ⟨by rw [gN_o (by omega) (by omega), gN_a], by rw [gN_o (by omega) (by omega), gN_p], by omega, by omega, hq⟩
      · exact ⟨by rw [gN_o (by omega) (by omega), gN_o (by omega) (by omega)]; exact v1, by rw [gN_o (by omega) (by omega), gN_o (by omega) (by omega)]; exact v2, by omega, by omega, v5⟩
    obtain ⟨hLD, hLr, hLq, hLv⟩ := fL r hr
    have hLD' := hLD
    unfold DV at hLD'
    have hLv1 := hLv.1
    have hkn : k + n' < m + 1 := by omega
    have sp := val_split3 (r := r) hkn
    have hrk := val_lt hr k
    have hPk := Bp k
    obtain ⟨U, hU⟩ : ∃ U, val (sh r k) (n' + 1) = U := ⟨_, rfl⟩
    rw [hU] at sp
    have hhi : val (sh r (k + n' + 1)) (m + 1 - (k + n' + 1)) = 0 := by
      rcases Nat.eq_zero_or_pos (val (sh r (k + n' + 1)) (m + 1 - (k + n' + 1))) with z | z
      · exact z
      · exfalso
        have a1 := Nat.mul_le_mul_left (4294967296 ^ (k + n' + 1)) z
        have a2 := Nat.mul_le_mul_right (4294967296 ^ (k + 1)) (Nat.le_of_lt hVhi)
        rw [← Nat.pow_add, show n' + (k + 1) = k + n' + 1 by omega] at a2
        omega
    rw [hhi, Nat.mul_zero, Nat.add_zero] at sp
    have hUV : U < V * 4294967296 := by
      rw [sp, Bs, ← Nat.mul_assoc, Nat.mul_comm (V * 4294967296)] at hR
      rcases Nat.lt_or_ge U (V * 4294967296) with z | z
      · exact z
      · have := Nat.mul_le_mul_left (4294967296 ^ k) z
        omega
    obtain ⟨hle, qh, hqh, hqe, hg1, hg2⟩ := kn_guess (z := m + 1) v5 hr hn1 hvt hkn (by rw [hU, hvv]; exact hUV)
    rw [hU, hvv] at hg1 hg2
    have tail : ∀ (r' : Nat → Nat) (qd U' : Nat), qd ≤ 4294967295 → (∀ j, r' j < 4294967296) → (∀ j, j < k ∨ k + n' < j → r' j = r j) → val (sh r' k) (n' + 1) = U' → U' + qd * V = U → U' < V → ∀ lv, lG lv 0 = some (.ref o) → lG lv 3 = some (.int (nI s)) → lG lv 5 = some (.int (nI k)) → lG lv 6 = some (.long (lN qd)) → zJ E (gN (gN g_5 (o + 3) 20 P q) (o + 5) 20 (m + 1) r') nx 0 0 166 lv [] := by
      intro r' qd U' hqd hr' hx' hU' heq hlt lv l0 l3 l5 l6
      refine z_sub (lv' := [(0, .ref o), (3, .int (nI s)), (5, .int (nI k)), (6, .long (lN qd))]) (by simp only [List.map, l0, l3, l5, l6]) ?_
      obtain ⟨kD, kr, kq, kv⟩ := fL r' hr'
      have kD' := kD
      unfold DV at kD'
      have kq1 := kq.1
      refine z_aload_n hE d_Dv_divide_166 rfl ?_
      refine z_get hE d_Dv_divide_167 fl_Dv_20 (by assumption) rfl ?_
      refine z_iload hE d_Dv_divide_170 rfl ?_
      refine z_lload hE d_Dv_divide_172 rfl ?_
      refine z_callV hE d_Dv_divide_174 cl_Dv_69 (c_Na_store l nx kq (k := k) (by omega) qd) (by assumption) cb_Na rfl (Nat.le_of_ble_eq_true rfl) ⟨by decide, by decide⟩ ⟨by omega, by omega⟩ (fun r_174 g_174 nx_174 hp_174 => ?_) rfl
      obtain ⟨rfl, rfl, rfl⟩ := hp_174
      try dsimp only [Option.toList, List.nil_append, List.cons_append]
      rw [gN_in (by omega) (by omega) (by omega)]
      refine z_iinc hE d_Dv_divide_177 rfl (rfl) (by decide) ?_
      refine z_goto (tgt := 122) hE d_Dv_divide_180 (by decide) ?_
      have sp' := val_split3 (r := r') hkn
      have e1 : val r' k = val r k := val_ext k (fun j hj => hx' j (Or.inl hj))
      have e2 : val (sh r' (k + n' + 1)) (m + 1 - (k + n' + 1)) = 0 := by
        rw [← hhi]
        exact val_ext _ (fun j _ => hx' _ (Or.inr (by omega)))
      rw [e1, e2, hU', Nat.mul_zero, Nat.add_zero] at sp'
      refine ih _ _ r' (by omega) ?_ (upN_lt hq (by omega)) (fun j hj => by rw [upN_n (by omega)]; exact hqz j (by omega)) hr' ?_ ?_ _ rfl rfl rfl
      · cases k with
        | zero => rfl
        | succ k =>
          show (nI (k + 1) + (-1)).toInt = _
          rw [pk_m1, nI_ti (by omega)]; omega
      · rw [sp', Nat.mul_comm V]
        have := Nat.mul_le_mul_left (4294967296 ^ k) (show U' + 1 ≤ V from hlt)
        rw [Nat.mul_add, Nat.mul_one] at this
        omega
      · have hv9 := val_upNm (x := qd) (hqz k (by omega)) (P - (k + 1))
        rw [show k + 1 + (P - (k + 1)) = P by omega] at hv9
        rw [hXv, hv9, sp, sp', ← heq, Nat.add_mul, Nat.mul_add, Nat.mul_right_comm qd, Nat.mul_comm (qd * V)]
        omega
    refine z_iload hE d_Dv_divide_122 rfl ?_
    refine z_if_lt (tgt := 183) hE d_Dv_divide_124 (by decide) (fun c_124 => ?_) (fun c_124 => ?_)
    · exact absurd (i_lt0.mp c_124) (by omega)
    · refine z_aload_n hE d_Dv_divide_127 rfl ?_
      refine z_iload hE d_Dv_divide_128 rfl ?_
      refine z_aload_n hE d_Dv_divide_130 rfl ?_
      refine z_get hE d_Dv_divide_131 fl_Dv_14 (by assumption) rfl ?_
      refine z_getN hE d_Dv_divide_134 fl_Dv_41 (by assumption) rfl ?_
      refine z_iadd (v := nI (k + n')) hE d_Dv_divide_137 (nI_add _ _) ?_
      refine z_callV hE d_Dv_divide_138 cl_Dv_59 (c_Dv_guessDigit l nx hLD hLv hLr hn1 hvt (by omega) (by omega) hle) (by assumption) cb_Dv rfl (Nat.le_of_ble_eq_true rfl) ⟨by decide, by decide⟩ ⟨by omega, by omega⟩ (fun r_138 g_138 nx_138 hp_138 => ?_) rfl
      obtain ⟨rfl, rfl, rfl⟩ := hp_138
      try dsimp only [Option.toList, List.nil_append, List.cons_append]
      rw [hqe]
      refine z_lstore hE d_Dv_divide_141 (by decide) ?_
      refine z_aload_n hE d_Dv_divide_143 rfl ?_
      refine z_lload hE d_Dv_divide_144 rfl ?_
      refine z_iload hE d_Dv_divide_146 rfl ?_
      refine z_callV hE d_Dv_divide_148 cl_Dv_62 (c_Dv_takeTimes l nx hLD hLv hLr hqh hkn) (by assumption) cb_Dv rfl (Nat.le_of_ble_eq_true rfl) ⟨by decide, by decide⟩ ⟨by omega, by omega⟩ (fun r_6 g_6 nx_6 hp_6 => ?_) rfl
      try dsimp only [Option.toList, List.nil_append, List.cons_append]
      obtain ⟨rfl, r', b', hb', rfl, rfl, hr', hx', hval⟩ := hp_6
      try dsimp only [Option.toList, List.nil_append, List.cons_append]
      rw [gN_gN]
      rw [hU, hvv] at hval
      have hU1 := val_lt (d := sh r' k) (fun j => hr' (k + j)) (n' + 1)
      have hVB : V < 4294967296 ^ (n' + 1) := by rw [Bs]; omega
      refine z_if_eq (tgt := 166) hE d_Dv_divide_151 (by decide) (fun c_151 => ?_) (fun c_151 => ?_)
      · have hb0 : b' = 0 := (nI_EQ (b := 0) (by omega) (by omega)).mp c_151
        have st := (kn_step (U2 := 0) (b2 := 0) hVB hg1 hg2 hval hb' hU1 (fun z => by omega)).1 hb0
        exact tail r' qh _ hqh hr' hx' rfl st.1 st.2 _ rfl rfl rfl rfl
      · have hb1 : b' = 1 := by
          rcases (show b' = 0 ∨ b' = 1 by omega) with z | z
          · rw [z] at c_151; exact absurd rfl c_151
          · exact z
        obtain ⟨kD, kr, kq, kv⟩ := fL r' hr'
        have kD' := kD
        unfold DV at kD'
        have hq1 : 1 ≤ qh := by
          rcases Nat.eq_zero_or_pos qh with z | z
          · rw [z, hb1] at hval
            omega
          · exact z
        refine z_lload hE d_Dv_divide_154 rfl ?_
        refine z_lconst (v := lN 1) hE d_Dv_divide_156 (by decide) ?_
        refine z_lsub (v := lN (qh - 1)) hE d_Dv_divide_157 (lN_sub hq1) ?_
        refine z_lstore hE d_Dv_divide_158 (by decide) ?_
        refine z_aload_n hE d_Dv_divide_160 rfl ?_
        refine z_iload hE d_Dv_divide_161 rfl ?_
        refine z_callV hE d_Dv_divide_163 cl_Dv_66 (c_Dv_giveBack l nx kD kv kr hkn) (by assumption) cb_Dv rfl (Nat.le_of_ble_eq_true rfl) ⟨by decide, by decide⟩ ⟨by omega, by omega⟩ (fun r_7 g_7 nx_7 hp_7 => ?_) rfl
        try dsimp only [Option.toList, List.nil_append, List.cons_append]
        obtain ⟨rfl, rfl, r2, b2, hb2, rfl, hr2, hx2, hval2⟩ := hp_7
        try dsimp only [Option.toList, List.nil_append, List.cons_append]
        rw [gN_gN]
        rw [hvv] at hval2
        have hU2 := val_lt (d := sh r2 k) (fun j => hr2 (k + j)) (n' + 1)
        have st := (kn_step hVB hg1 hg2 hval hb' hU1 (fun _ => ⟨hval2, hb2, hU2⟩)).2 hb1
        exact tail r2 (qh - 1) _ (Nat.le_trans (Nat.sub_le _ _) hqh) hr2 (fun j hj => (hx2 j hj).trans (hx' j hj)) rfl st.2.1 st.2.2 _ rfl rfl rfl rfl

set_option maxHeartbeats 4000000 in
theorem c_Dv_divide (l : Launch) {g : Gh} (nx : Nat) {o b c M K x y : Nat} (hD : DV g o) (h1 : ∃ w, NA g (o + 1) 20 w) (h3 : ∃ w, NA g (o + 3) 20 w) (h5 : ∃ w, NA g (o + 5) 20 w) (hb : NA g b M x) (hc : NA g c K y) (hbo : b < o ∨ o + 7 ≤ b) (hco : c < o ∨ o + 7 ≤ c) (hx : x < 4294967296 ^ 18) (hy : y ≠ 0) : Ct l m_Dv_divide 0 0 [.ref o, .ref b, .ref c] g nx (pDV g o x y nx) := by
  obtain ⟨w1, h1⟩ := h1
  obtain ⟨w3, h3⟩ := h3
  obtain ⟨w5, h5⟩ := h5
  obtain ⟨n5, d5, hR5, hv5, hn5⟩ := id h5
  have hD0 := hD
  unfold DV at hD0
  have p18 := pw_ge (show 18 ≤ 20 by decide)
  refine Ct.of (by decide) (Nat.le_of_ble_eq_true rfl) (fun E hE hQ => ?_)
  refine z_aload_n hE d_Dv_divide_0 rfl ?_
  refine z_get hE d_Dv_divide_1 fl_Dv_23 (by assumption) rfl ?_
  refine z_aload_n hE d_Dv_divide_4 rfl ?_
  refine z_callV hE d_Dv_divide_5 cl_Dv_26 (c_Na_become l nx hR5 hb (by omega) (by omega)) (hR5.1) cb_Na rfl (Nat.le_of_ble_eq_true rfl) ⟨by decide, by decide⟩ ⟨by omega, by omega⟩ (fun r_1 g_1 nx_1 hp_1 => ?_) rfl
  try dsimp only [Option.toList, List.nil_append, List.cons_append]
  obtain ⟨rfl, rfl, hA5, hO1⟩ := hp_1
  try dsimp only [Option.toList, List.nil_append, List.cons_append]
  have hW1 : gW g g_1 (o + 1) (o + 7) := gW_O hO1 (by omega) (by omega)
  have hb1 := NA_W hb hW1 (by omega)
  have hc1 := NA_W hc hW1 (by omega)
  have hA1 := NA_o h5 h1 (by omega) hO1
  have hA3 := NA_o h5 h3 (by omega) hO1
  have hD1 : DV g_1 o := by unfold DV; rw [hO1 o (by omega) (by omega)]; exact hD
  obtain ⟨n3, d3, hR3, hv3, hn3⟩ := id hA3
  have hD1' := hD1
  unfold DV at hD1'
  refine z_aload_n hE d_Dv_divide_8 rfl ?_
  refine z_get hE d_Dv_divide_9 fl_Dv_20 (by assumption) rfl ?_
  refine z_callV hE d_Dv_divide_12 cl_Dv_30 (c_Na_clear l nx hR3) (hR3.1) cb_Na rfl (Nat.le_of_ble_eq_true rfl) ⟨by decide, by decide⟩ ⟨by omega, by omega⟩ (fun r_12 g_12 nx_12 hp_12 => ?_) rfl
  obtain ⟨rfl, rfl, rfl⟩ := hp_12
  try dsimp only [Option.toList, List.nil_append, List.cons_append]
  obtain ⟨g2, hg2⟩ : ∃ g2, gN g_1 (o + 3) 20 0 d3 = g2 := ⟨_, rfl⟩
  rw [hg2]
  have hO2 : gO g_1 g2 (o + 3) := by rw [← hg2]; exact gO_N
  have hW2 : gW g g2 (o + 1) (o + 7) := gW_t hW1 (gW_O hO2 (by omega) (by omega))
  have hb2 := NA_W hb hW2 (by omega)
  have hc2 := NA_W hc hW2 (by omega)
  have hB1 := NA_o hA3 hA1 (by omega) hO2
  have hB5 := NA_o hA3 hA5 (by omega) hO2
  have hB3 : NA g2 (o + 3) 20 0 := by rw [← hg2]; exact ⟨0, d3, RN_gN (Nat.zero_le _) (by omega) hR3.2.2.2.2, rfl, Or.inl rfl⟩
  have hD2 : DV g2 o := by unfold DV; rw [hO2 o (by omega) (by omega)]; exact hD1
  have hD2' := hD2
  unfold DV at hD2'
  obtain ⟨n, e, hRc, hcv, hcn⟩ := id hc2
  have hRc1 := hRc.1
  obtain ⟨nb, db, hRb, -, -⟩ := id hb2
  have hRb1 := hRb.1
  refine z_aload_n hE d_Dv_divide_15 rfl ?_
  refine z_callV hE d_Dv_divide_16 cl_Dv_33 (c_Na_isZero l nx hc2) (by assumption) cb_Na rfl (Nat.le_of_ble_eq_true rfl) ⟨by decide, by decide⟩ ⟨by omega, by omega⟩ (fun r_16 g_16 nx_16 hp_16 => ?_) rfl
  obtain ⟨rfl, rfl, rfl⟩ := hp_16
  try dsimp only [Option.toList, List.nil_append, List.cons_append]
  rw [if_neg hy]
  refine z_if_ne (tgt := 30) hE d_Dv_divide_19 (by decide) (fun c_19 => ?_) (fun c_19 => ?_)
  · exact absurd rfl c_19
  · refine z_aload_n hE d_Dv_divide_22 rfl ?_
    refine z_aload_n hE d_Dv_divide_23 rfl ?_
    refine z_callV hE d_Dv_divide_24 cl_Dv_37 (c_Na_compareWith l nx hb2 hc2) (by assumption) cb_Na rfl (Nat.le_of_ble_eq_true rfl) ⟨by decide, by decide⟩ ⟨by omega, by omega⟩ (fun r_24 g_24 nx_24 hp_24 => ?_) rfl
    obtain ⟨rfl, rfl, rfl⟩ := hp_24
    try dsimp only [Option.toList, List.nil_append, List.cons_append]
    refine z_if_ge (tgt := 31) hE d_Dv_divide_27 (by decide) (fun c_27 => ?_) (fun c_27 => ?_)
    · have hxy : y ≤ x := by
        rcases Nat.lt_or_ge x y with q | q
        · rw [cmpN_lt q] at c_27
          exact absurd c_27 (by decide)
        · exact q
      have he := hRc.2.2.2.2
      have hn1 : 1 ≤ n := by
        rcases Nat.eq_zero_or_pos n with q | q
        · rw [q] at hcv
          exact absurd hcv.symm hy
        · exact q
      have ht0 : e (n - 1) ≠ 0 := by
        rcases hcn with q | q
        · omega
        · exact q
      obtain ⟨t1, t2, t3, t4⟩ := nrm_top ht0 (he (n - 1))
      have hnK : n ≤ 20 := Nat.le_trans hRc.2.2.1 hRc.2.2.2.1
      refine z_bipush (v := nI 32) hE d_Dv_divide_31 (by decide) ?_
      refine z_aload_n hE d_Dv_divide_33 rfl ?_
      refine z_aload_n hE d_Dv_divide_34 rfl ?_
      refine z_getN hE d_Dv_divide_35 fl_Dv_41 (by assumption) rfl ?_
      refine z_iconst (v := 1) hE d_Dv_divide_38 (by decide) ?_
      refine z_isub (v := nI (n - 1)) hE d_Dv_divide_39 (pk_sub (a := n) (b := 1) hn1) ?_
      refine z_callV hE d_Dv_divide_40 cl_Dv_45 (c_Na_at l nx hRc (nI (n - 1))) (by assumption) cb_Na rfl (Nat.le_of_ble_eq_true rfl) ⟨by decide, by decide⟩ ⟨by omega, by omega⟩ (fun r_40 g_40 nx_40 hp_40 => ?_) rfl
      obtain ⟨rfl, rfl, rfl⟩ := hp_40
      try dsimp only [Option.toList, List.nil_append, List.cons_append]
      rw [dz_n (by omega), dzf_in (by omega)]
      refine z_callS hE d_Dv_divide_43 cl_Dv_49 (c_Na_countLimbBits l g2 nx (e (n - 1)) (he _)) rfl (Nat.le_of_ble_eq_true rfl) ⟨by decide, by decide⟩ ⟨by omega, by omega⟩ (fun r_43 g_43 nx_43 hp_43 => ?_) rfl
      obtain ⟨rfl, rfl, rfl⟩ := hp_43
      try dsimp only [Option.toList, List.nil_append, List.cons_append]
      refine z_isub (v := nI (32 - bl (e (n - 1)))) hE d_Dv_divide_46 (pk_sub (by omega)) ?_
      obtain ⟨s, hs⟩ : ∃ s, 32 - bl (e (n - 1)) = s := ⟨_, rfl⟩
      rw [hs] at t3 t4 ⊢
      have hs31 : s ≤ 31 := by omega
      obtain ⟨n1, d1, hR1, -, -⟩ := id hB1
      have hR1a := hR1.1
      refine z_istore_n hE d_Dv_divide_47 rfl (by decide) ?_
      refine z_aload_n hE d_Dv_divide_48 rfl ?_
      refine z_get hE d_Dv_divide_49 fl_Dv_14 (by assumption) rfl ?_
      refine z_aload_n hE d_Dv_divide_52 rfl ?_
      refine z_callV hE d_Dv_divide_53 cl_Dv_26 (c_Na_become l nx hR1 hc2 (by omega) (by omega)) (by assumption) cb_Na rfl (Nat.le_of_ble_eq_true rfl) ⟨by decide, by decide⟩ ⟨by omega, by omega⟩ (fun r_3 g_3 nx_3 hp_3 => ?_) rfl
      try dsimp only [Option.toList, List.nil_append, List.cons_append]
      obtain ⟨rfl, rfl, hC1, hO3⟩ := hp_3
      try dsimp only [Option.toList, List.nil_append, List.cons_append]
      have hC3 := NA_o hB1 hB3 (by omega) hO3
      have hC5 := NA_o hB1 hB5 (by omega) hO3
      have hD3 : DV g_3 o := by unfold DV; rw [hO3 o (by omega) (by omega)]; exact hD2
      have hD3' := hD3
      unfold DV at hD3'
      have hW3 : gW g g_3 (o + 1) (o + 7) := gW_t hW2 (gW_O hO3 (by omega) (by omega))
      obtain ⟨_, _, ⟨hC1a, -⟩, -⟩ := id hC1
      refine z_aload_n hE d_Dv_divide_56 rfl ?_
      refine z_get hE d_Dv_divide_57 fl_Dv_14 (by assumption) rfl ?_
      refine z_iload_n hE d_Dv_divide_60 rfl ?_
      refine z_callV hE d_Dv_divide_61 cl_Dv_53 (c_Na_shiftUp l nx (p := 18) hC1 s (by omega) (by omega) (by omega)) (by assumption) cb_Na rfl (Nat.le_of_ble_eq_true rfl) ⟨by decide, by decide⟩ ⟨by omega, by omega⟩ (fun r_4 g_4 nx_4 hp_4 => ?_) rfl
      try dsimp only [Option.toList, List.nil_append, List.cons_append]
      obtain ⟨rfl, rfl, hE1, hO4⟩ := hp_4
      try dsimp only [Option.toList, List.nil_append, List.cons_append]
      have hE3 := NA_o hC1 hC3 (by omega) hO4
      have hE5 := NA_o hC1 hC5 (by omega) hO4
      have hD4 : DV g_4 o := by unfold DV; rw [hO4 o (by omega) (by omega)]; exact hD3
      have hD4' := hD4
      unfold DV at hD4'
      have hW4 : gW g g_4 (o + 1) (o + 7) := gW_t hW3 (gW_O hO4 (by omega) (by omega))
      obtain ⟨_, _, ⟨hE5a, -⟩, -⟩ := id hE5
      refine z_aload_n hE d_Dv_divide_64 rfl ?_
      refine z_get hE d_Dv_divide_65 fl_Dv_23 (by assumption) rfl ?_
      refine z_iload_n hE d_Dv_divide_68 rfl ?_
      refine z_callV hE d_Dv_divide_69 cl_Dv_53 (c_Na_shiftUp l nx (p := 18) hE5 s (by omega) hx (by omega)) (by assumption) cb_Na rfl (Nat.le_of_ble_eq_true rfl) ⟨by decide, by decide⟩ ⟨by omega, by omega⟩ (fun r_5 g_5 nx_5 hp_5 => ?_) rfl
      try dsimp only [Option.toList, List.nil_append, List.cons_append]
      obtain ⟨rfl, rfl, hF5, hO5⟩ := hp_5
      try dsimp only [Option.toList, List.nil_append, List.cons_append]
      have hF1 := NA_o hE5 hE1 (by omega) hO5
      have hF3 := NA_o hE5 hE3 (by omega) hO5
      have hD5 : DV g_5 o := by unfold DV; rw [hO5 o (by omega) (by omega)]; exact hD4
      have hD5' := hD5
      unfold DV at hD5'
      have hW5 : gW g g_5 (o + 1) (o + 7) := gW_t hW4 (gW_O hO5 (by omega) (by omega))
      -- the divisor's limbs
      obtain ⟨n', v, hRv, hvv, hvn⟩ := id hF1
      obtain ⟨m, r0, hRr, hrv, hrn⟩ := id hF5
      obtain ⟨nq, dq, hRq, hqv, hqn⟩ := id hF3
      obtain ⟨v1, v2, v3, v4, v5⟩ := id hRv
      obtain ⟨s1, s2, s3, s4, s5⟩ := id hRr
      obtain ⟨u1, u2, u3, u4, u5⟩ := id hRq
      have hnq : nq = 0 := (NA_zero (g := g_5) (a := o) (N := 20) u5 hqn).mp hqv
      subst hnq
      have hyl : val e (n - 1) < 4294967296 ^ (n - 1) := val_lt he (n - 1)
      have hyv : y = val e (n - 1) + e (n - 1) * 4294967296 ^ (n - 1) := by
        rw [← hcv, ← val_s, show n - 1 + 1 = n by omega]
      have hBn : 4294967296 ^ n = 4294967296 * 4294967296 ^ (n - 1) := by rw [← Bs, show n - 1 + 1 = n by omega]
      have hVlo : 2147483648 * 4294967296 ^ (n - 1) ≤ y * 2 ^ s := by
        rw [hyv, Nat.add_mul, Nat.mul_right_comm]
        have := Nat.mul_le_mul_right (4294967296 ^ (n - 1)) t3
        omega
      have hVhi : y * 2 ^ s < 4294967296 ^ n := by
        have a1 : y + 1 ≤ (e (n - 1) + 1) * 4294967296 ^ (n - 1) := by rw [Nat.add_mul, Nat.one_mul]; omega
        have a2 := Nat.mul_le_mul_right (2 ^ s) a1
        rw [Nat.mul_right_comm, Nat.add_mul, Nat.one_mul] at a2
        have a3 := Nat.mul_le_mul_right (4294967296 ^ (n - 1)) t4
        have a4 := pw_pos s
        rw [hBn]
        omega
      obtain ⟨V, hV⟩ : ∃ V, y * 2 ^ s = V := ⟨_, rfl⟩
      obtain ⟨X, hX⟩ : ∃ X, x * 2 ^ s = X := ⟨_, rfl⟩
      rw [hV] at hVlo hVhi hvv
      rw [hX] at hrv
      have hVX : V ≤ X := by rw [← hV, ← hX]; exact Nat.mul_le_mul_right _ hxy
      have hpos := Bp (n - 1)
      have hn' : n' = n := by
        have a1 := (norm_len (k := n) v5 hvn).mp (by rw [hvv]; exact hVhi)
        have a2 : ¬ n' ≤ n - 1 := fun q => by
          have := (norm_len (k := n - 1) v5 hvn).mpr q
          rw [hvv] at this
          omega
        omega
      subst hn'
      have hvs : V = val v (n' - 1) + v (n' - 1) * 4294967296 ^ (n' - 1) := by
        rw [← hvv, ← val_s, show n' - 1 + 1 = n' by omega]
      have hvl := val_lt v5 (n' - 1)
      have hvt : 2147483648 ≤ v (n' - 1) := by
        rcases Nat.lt_or_ge (v (n' - 1)) 2147483648 with q | q
        · exfalso
          have := Nat.mul_le_mul_right (4294967296 ^ (n' - 1)) (show v (n' - 1) + 1 ≤ 2147483648 from q)
          rw [Nat.add_mul, Nat.one_mul] at this
          omega
        · exact q
      have hmn : n' ≤ m := by
        have a2 : ¬ m ≤ n' - 1 := fun q => by
          have := (norm_len (k := n' - 1) s5 hrn).mpr q
          rw [hrv] at this
          omega
        omega
      have hm19 : m ≤ 19 := by
        refine (norm_len (k := 19) s5 hrn).mp ?_
        rw [hrv, ← hX, Bs]
        have a1 := Nat.mul_le_mul (Nat.le_of_lt hx) (Nat.pow_le_pow_right (n := 2) (by decide) hs31)
        have a2 := Bp 18
        have a3 : (2 : Nat) ^ 31 = 2147483648 := by decide
        rw [a3] at a1
        omega
      have hXm : X < 4294967296 ^ m := by rw [← hrv]; exact val_lt s5 m
      have hPle : m - n' + 1 ≤ 20 := by omega
      refine z_aload_n hE d_Dv_divide_72 rfl ?_
      refine z_get hE d_Dv_divide_73 fl_Dv_23 (by assumption) rfl ?_
      refine z_getN hE d_Dv_divide_76 fl_Dv_41 (by assumption) rfl ?_
      refine z_aload_n hE d_Dv_divide_79 rfl ?_
      refine z_get hE d_Dv_divide_80 fl_Dv_14 (by assumption) rfl ?_
      refine z_getN hE d_Dv_divide_83 fl_Dv_41 (by assumption) rfl ?_
      refine z_isub (v := nI (m - n')) hE d_Dv_divide_86 (pk_sub hmn) ?_
      refine z_iconst (v := 1) hE d_Dv_divide_87 (by decide) ?_
      refine z_iadd (v := nI (m - n' + 1)) hE d_Dv_divide_88 (nI_1 _) ?_
      refine z_istore hE d_Dv_divide_89 (by decide) ?_
      refine z_aload_n hE d_Dv_divide_91 rfl ?_
      refine z_get hE d_Dv_divide_92 fl_Dv_23 (by assumption) rfl ?_
      refine z_aload_n hE d_Dv_divide_95 rfl ?_
      refine z_get hE d_Dv_divide_96 fl_Dv_23 (by assumption) rfl ?_
      refine z_getN hE d_Dv_divide_99 fl_Dv_41 (by assumption) rfl ?_
      refine z_iconst (v := 1) hE d_Dv_divide_102 (by decide) ?_
      refine z_iadd (v := nI (m + 1)) hE d_Dv_divide_103 (nI_1 _) ?_
      refine z_callV hE d_Dv_divide_104 cl_Dv_56 (c_Na_widen l nx hRr (m + 1) (by omega)) (by assumption) cb_Na rfl (Nat.le_of_ble_eq_true rfl) ⟨by decide, by decide⟩ ⟨by omega, by omega⟩ (fun r_104 g_104 nx_104 hp_104 => ?_) rfl
      obtain ⟨rfl, rfl, rfl⟩ := hp_104
      try dsimp only [Option.toList, List.nil_append, List.cons_append]
      rw [Nat.min_eq_left (show m + 1 ≤ 20 by omega), Nat.max_eq_right (show m ≤ m + 1 by omega)]
      obtain ⟨r1, hr1⟩ : ∃ r1, (fun j => if m ≤ j ∧ j < m + 1 then 0 else r0 j) = r1 := ⟨_, rfl⟩
      rw [hr1]
      have hr1l : ∀ j, r1 j < 4294967296 := fun j => by rw [← hr1]; dsimp only; split; omega; exact s5 j
      have hr1v : val r1 (m + 1) = X := by
        rw [← hrv, val_zeros (show m ≤ m + 1 by omega) (fun j a1 a2 => by rw [← hr1]; exact if_pos ⟨a1, a2⟩)]
        exact val_ext m (fun j hj => by rw [← hr1]; exact if_neg (by omega))
      have hRq6 : RN (gN g_5 (o + 5) 20 (m + 1) r1) (o + 3) 20 0 dq := RN_o hRr hRq (by omega)
      have hD6 := DV_N (N := 20) (n := m + 1) (d := r1) hD5 (show o ≠ o + 5 by omega) (show o ≠ o + 5 + 1 by omega)
      unfold DV at hD6
      have hRq6a := hRq6.1
      refine z_aload_n hE d_Dv_divide_107 rfl ?_
      refine z_get hE d_Dv_divide_108 fl_Dv_20 (by assumption) rfl ?_
      refine z_iload hE d_Dv_divide_111 rfl ?_
      refine z_callV hE d_Dv_divide_113 cl_Dv_56 (c_Na_widen l nx hRq6 (m - n' + 1) (by omega)) (by assumption) cb_Na rfl (Nat.le_of_ble_eq_true rfl) ⟨by decide, by decide⟩ ⟨by omega, by omega⟩ (fun r_113 g_113 nx_113 hp_113 => ?_) rfl
      obtain ⟨rfl, rfl, rfl⟩ := hp_113
      try dsimp only [Option.toList, List.nil_append, List.cons_append]
      rw [Nat.min_eq_left hPle, Nat.max_eq_right (Nat.zero_le _)]
      obtain ⟨q0, hq0⟩ : ∃ q0, (fun j => if 0 ≤ j ∧ j < m - n' + 1 then 0 else dq j) = q0 := ⟨_, rfl⟩
      rw [hq0]
      have hq0l : ∀ j, q0 j < 4294967296 := fun j => by rw [← hq0]; dsimp only; split; omega; exact u5 j
      have hq0z : ∀ j, j < m - n' + 1 → q0 j = 0 := fun j hj => by rw [← hq0]; exact if_pos ⟨Nat.zero_le _, hj⟩
      rw [gN_comm (show o + 5 ≠ o + 3 by omega) (by omega) (by omega)]
      refine z_iload hE d_Dv_divide_116 rfl ?_
      refine z_iconst (v := 1) hE d_Dv_divide_118 (by decide) ?_
      refine z_isub hE d_Dv_divide_119 (rfl) ?_
      refine z_istore hE d_Dv_divide_120 (by decide) ?_
      obtain ⟨P, hP⟩ : ∃ P, m - n' + 1 = P := ⟨_, rfl⟩
      rw [hP] at hPle hq0z ⊢
      have hVP : X < V * 4294967296 ^ P := by
        have a1 := Nat.mul_le_mul_right (4294967296 ^ P) (show 4294967296 ^ (n' - 1) ≤ V by omega)
        rw [← Nat.pow_add, show n' - 1 + P = m by omega] at a1
        omega
      refine dv_loop hE hQ hD5 hW5 hRv hvv hvn hn1 hvt hVhi (by omega) (by omega) hm19 hs31 hX hV P _ q0 r1 (Nat.le_refl _) ?_ hq0l hq0z hr1l (by rw [hr1v]; exact hVP) ?_ _ rfl rfl rfl
      · obtain ⟨y, rfl⟩ : ∃ y, P = y + 1 := ⟨P - 1, by omega⟩
        rw [nI_pred, nI_ti (by omega)]; omega
      · rw [hr1v, val_zeros (Nat.zero_le P) (fun j _ a2 => hq0z j a2)]
        show X = 0 * V + X
        omega
    · have hxy : x < y := by
        rcases Nat.lt_or_ge x y with q | q
        · exact q
        · exfalso
          rcases Nat.eq_or_lt_of_le q with h | h
          · rw [cmpN_eq h.symm] at c_27
            exact c_27 (by decide)
          · rw [cmpN_gt h] at c_27
            exact c_27 (by decide)
      refine z_vret hE hQ d_Dv_divide_30 rfl (Nat.le_refl _) (Nat.le_refl _) ⟨rfl, rfl, ?_, ?_, ⟨_, hB1⟩, hW2⟩
      · rw [Nat.div_eq_of_lt hxy]; exact hB3
      · rw [Nat.mod_eq_of_lt hxy]; exact hB5

