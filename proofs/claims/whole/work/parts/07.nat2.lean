/-! Natural by value: made, taken over, asked, compared, added, taken away -/
theorem l_mask {n : Nat} (h : n < 18446744073709551616) : lN n &&& 4294967295 = lN (n % 4294967296) := g_mask (s := 32) (p := 4294967296) (by decide) (by decide) h
theorem l_shr {n : Nat} (h : n < 18446744073709551616) : ((lN n).toUInt64 >>> ((32 : Int32).toInt64.toUInt64 &&& Int64.toUInt64 63)).toInt64 = lN (n / 4294967296) := wb_shr (k := 32) h (by decide)
theorem l_shl {n : Nat} : lN n <<< ((32 : Int32).toInt64 &&& 63) = lN (n * 4294967296) := wb_shl (k := 32) n (by decide)
theorem l_or {a b : Nat} (ha : a < 4294967296) (hb : b < 4294967296) : lN (b * 4294967296) ||| lN a = lN (b * 4294967296 + a) := g_or (k := 32) (by decide) ha (by omega)
theorem dm_mul (s P : Nat) : s % 4294967296 * P + s / 4294967296 * (4294967296 * P) = s * P := by
  have h := Nat.mod_add_div s 4294967296
  have h2 : s * P = (s % 4294967296 + 4294967296 * (s / 4294967296)) * P := by rw [h]
  rw [h2, Nat.add_mul, Nat.mul_comm 4294967296 (s / 4294967296), Nat.mul_assoc]
def dzf (n : Nat) (d : Nat → Nat) : Nat → Nat := fun j => dz n d (j : Int)
theorem dzf_in {n k : Nat} {d : Nat → Nat} (h : k < n) : dzf n d k = d k := dz_in h
theorem dzf_out {n k : Nat} {d : Nat → Nat} (h : n ≤ k) : dzf n d k = 0 := dz_out (Or.inr (by omega))
theorem dzf_lt {n : Nat} {d : Nat → Nat} (h : ∀ j, d j < 4294967296) (j : Nat) : dzf n d j < 4294967296 := dz_lt h _
theorem val_dzf {n k : Nat} {d : Nat → Nat} (h : n ≤ k) : val (dzf n d) k = val d n := by
  rw [val_zeros h (fun j h1 _ => dzf_out h1)]
  exact val_ext n (fun j hj => dzf_in hj)
theorem dz_n {n k : Nat} {d : Nat → Nat} (hk : k ≤ 1000000) : dz n d (nI k).toInt = dzf n d k := by rw [nI_ti hk]; rfl
theorem NA_trim {g : Gh} {a N n : Nat} {d : Nat → Nat} (h1 : n ≤ N) (h2 : N ≤ 20) (h3 : ∀ j, d j < 4294967296) : NA (gN g a N (tl d n) d) a N (val d n) :=
  ⟨_, d, RN_gN (Nat.le_trans (tl_le d n) h1) h2 h3, val_tl d n, tl_norm d n⟩
theorem NA_lt {g : Gh} {a N v : Nat} (h : NA g a N v) : v < 4294967296 ^ N := by
  obtain ⟨n, d, h1, rfl, -⟩ := h
  exact Nat.lt_of_lt_of_le (val_lt h1.2.2.2.2 n) (pw_ge h1.2.2.1)
theorem upN_s {d : Nat → Nat} {k x : Nat} : upN d k x k = x := if_pos rfl
theorem upN_n {d : Nat → Nat} {k x j : Nat} (h : j ≠ k) : upN d k x j = d j := if_neg h
theorem val_upN {d : Nat → Nat} {k x : Nat} : val (upN d k x) (k + 1) = val d k + x * 4294967296 ^ k := by
  rw [val_s, upN_s, val_ext k (fun j hj => upN_n (by omega))]
theorem d_Na_init_0 : decode b_Na_init 0 = .ok (.aload_n 0, 1) := by decide +kernel
theorem d_Na_init_1 : decode b_Na_init 1 = .ok (.invokespecial 1, 3) := by decide +kernel
theorem d_Na_init_4 : decode b_Na_init 4 = .ok (.aload_n 0, 1) := by decide +kernel
theorem d_Na_init_5 : decode b_Na_init 5 = .ok (.iload_n 1, 1) := by decide +kernel
theorem d_Na_init_6 : decode b_Na_init 6 = .ok (.ifCond .ge 7, 3) := by decide +kernel
theorem d_Na_init_9 : decode b_Na_init 9 = .ok (.iconst 0, 1) := by decide +kernel
theorem d_Na_init_10 : decode b_Na_init 10 = .ok (.goto 4, 3) := by decide +kernel
theorem d_Na_init_13 : decode b_Na_init 13 = .ok (.iload_n 1, 1) := by decide +kernel
theorem d_Na_init_14 : decode b_Na_init 14 = .ok (.newarray .long, 2) := by decide +kernel
theorem d_Na_init_16 : decode b_Na_init 16 = .ok (.putfield 7, 3) := by decide +kernel
theorem d_Na_init_19 : decode b_Na_init 19 = .ok (.aload_n 0, 1) := by decide +kernel
theorem d_Na_init_20 : decode b_Na_init 20 = .ok (.iconst 0, 1) := by decide +kernel
theorem d_Na_init_21 : decode b_Na_init 21 = .ok (.putfield 13, 3) := by decide +kernel
theorem d_Na_init_24 : decode b_Na_init 24 = .ok (.return_, 1) := by decide +kernel
theorem d_Na_become_0 : decode b_Na_become 0 = .ok (.aload_n 0, 1) := by decide +kernel
theorem d_Na_become_1 : decode b_Na_become 1 = .ok (.aload_n 1, 1) := by decide +kernel
theorem d_Na_become_2 : decode b_Na_become 2 = .ok (.getfield 13, 3) := by decide +kernel
theorem d_Na_become_5 : decode b_Na_become 5 = .ok (.aload_n 0, 1) := by decide +kernel
theorem d_Na_become_6 : decode b_Na_become 6 = .ok (.getfield 7, 3) := by decide +kernel
theorem d_Na_become_9 : decode b_Na_become 9 = .ok (.arraylength, 1) := by decide +kernel
theorem d_Na_become_10 : decode b_Na_become 10 = .ok (.invokestatic 17, 3) := by decide +kernel
theorem d_Na_become_13 : decode b_Na_become 13 = .ok (.putfield 13, 3) := by decide +kernel
theorem d_Na_become_16 : decode b_Na_become 16 = .ok (.iconst 0, 1) := by decide +kernel
theorem d_Na_become_17 : decode b_Na_become 17 = .ok (.istore_n 2, 1) := by decide +kernel
theorem d_Na_become_18 : decode b_Na_become 18 = .ok (.iload_n 2, 1) := by decide +kernel
theorem d_Na_become_19 : decode b_Na_become 19 = .ok (.aload_n 0, 1) := by decide +kernel
theorem d_Na_become_20 : decode b_Na_become 20 = .ok (.getfield 13, 3) := by decide +kernel
theorem d_Na_become_23 : decode b_Na_become 23 = .ok (.if_icmp .ge 19, 3) := by decide +kernel
theorem d_Na_become_26 : decode b_Na_become 26 = .ok (.aload_n 0, 1) := by decide +kernel
theorem d_Na_become_27 : decode b_Na_become 27 = .ok (.iload_n 2, 1) := by decide +kernel
theorem d_Na_become_28 : decode b_Na_become 28 = .ok (.aload_n 1, 1) := by decide +kernel
theorem d_Na_become_29 : decode b_Na_become 29 = .ok (.iload_n 2, 1) := by decide +kernel
theorem d_Na_become_30 : decode b_Na_become 30 = .ok (.invokevirtual 26, 3) := by decide +kernel
theorem d_Na_become_33 : decode b_Na_become 33 = .ok (.invokevirtual 30, 3) := by decide +kernel
theorem d_Na_become_36 : decode b_Na_become 36 = .ok (.iinc 2 1, 3) := by decide +kernel
theorem d_Na_become_39 : decode b_Na_become 39 = .ok (.goto (-21), 3) := by decide +kernel
theorem d_Na_become_42 : decode b_Na_become 42 = .ok (.return_, 1) := by decide +kernel
theorem d_Na_becomeLong_0 : decode b_Na_becomeLong 0 = .ok (.aload_n 0, 1) := by decide +kernel
theorem d_Na_becomeLong_1 : decode b_Na_becomeLong 1 = .ok (.invokevirtual 34, 3) := by decide +kernel
theorem d_Na_becomeLong_4 : decode b_Na_becomeLong 4 = .ok (.aload_n 0, 1) := by decide +kernel
theorem d_Na_becomeLong_5 : decode b_Na_becomeLong 5 = .ok (.iconst 2, 1) := by decide +kernel
theorem d_Na_becomeLong_6 : decode b_Na_becomeLong 6 = .ok (.invokevirtual 37, 3) := by decide +kernel
theorem d_Na_becomeLong_9 : decode b_Na_becomeLong 9 = .ok (.aload_n 0, 1) := by decide +kernel
theorem d_Na_becomeLong_10 : decode b_Na_becomeLong 10 = .ok (.iconst 0, 1) := by decide +kernel
theorem d_Na_becomeLong_11 : decode b_Na_becomeLong 11 = .ok (.lload_n 1, 1) := by decide +kernel
theorem d_Na_becomeLong_12 : decode b_Na_becomeLong 12 = .ok (.ldc2_w 41, 3) := by decide +kernel
theorem d_Na_becomeLong_15 : decode b_Na_becomeLong 15 = .ok (.land, 1) := by decide +kernel
theorem d_Na_becomeLong_16 : decode b_Na_becomeLong 16 = .ok (.invokevirtual 30, 3) := by decide +kernel
theorem d_Na_becomeLong_19 : decode b_Na_becomeLong 19 = .ok (.aload_n 0, 1) := by decide +kernel
theorem d_Na_becomeLong_20 : decode b_Na_becomeLong 20 = .ok (.iconst 1, 1) := by decide +kernel
theorem d_Na_becomeLong_21 : decode b_Na_becomeLong 21 = .ok (.lload_n 1, 1) := by decide +kernel
theorem d_Na_becomeLong_22 : decode b_Na_becomeLong 22 = .ok (.bipush 32, 2) := by decide +kernel
theorem d_Na_becomeLong_24 : decode b_Na_becomeLong 24 = .ok (.lushr, 1) := by decide +kernel
theorem d_Na_becomeLong_25 : decode b_Na_becomeLong 25 = .ok (.invokevirtual 30, 3) := by decide +kernel
theorem d_Na_becomeLong_28 : decode b_Na_becomeLong 28 = .ok (.aload_n 0, 1) := by decide +kernel
theorem d_Na_becomeLong_29 : decode b_Na_becomeLong 29 = .ok (.invokevirtual 43, 3) := by decide +kernel
theorem d_Na_becomeLong_32 : decode b_Na_becomeLong 32 = .ok (.return_, 1) := by decide +kernel
theorem d_Na_lowLong_0 : decode b_Na_lowLong 0 = .ok (.aload_n 0, 1) := by decide +kernel
theorem d_Na_lowLong_1 : decode b_Na_lowLong 1 = .ok (.iconst 1, 1) := by decide +kernel
theorem d_Na_lowLong_2 : decode b_Na_lowLong 2 = .ok (.invokevirtual 26, 3) := by decide +kernel
theorem d_Na_lowLong_5 : decode b_Na_lowLong 5 = .ok (.bipush 32, 2) := by decide +kernel
theorem d_Na_lowLong_7 : decode b_Na_lowLong 7 = .ok (.lshl, 1) := by decide +kernel
theorem d_Na_lowLong_8 : decode b_Na_lowLong 8 = .ok (.aload_n 0, 1) := by decide +kernel
theorem d_Na_lowLong_9 : decode b_Na_lowLong 9 = .ok (.iconst 0, 1) := by decide +kernel
theorem d_Na_lowLong_10 : decode b_Na_lowLong 10 = .ok (.invokevirtual 26, 3) := by decide +kernel
theorem d_Na_lowLong_13 : decode b_Na_lowLong 13 = .ok (.lor, 1) := by decide +kernel
theorem d_Na_lowLong_14 : decode b_Na_lowLong 14 = .ok (.lreturn, 1) := by decide +kernel
theorem d_Na_isZero_0 : decode b_Na_isZero 0 = .ok (.aload_n 0, 1) := by decide +kernel
theorem d_Na_isZero_1 : decode b_Na_isZero 1 = .ok (.getfield 13, 3) := by decide +kernel
theorem d_Na_isZero_4 : decode b_Na_isZero 4 = .ok (.ifCond .ne 7, 3) := by decide +kernel
theorem d_Na_isZero_7 : decode b_Na_isZero 7 = .ok (.iconst 1, 1) := by decide +kernel
theorem d_Na_isZero_8 : decode b_Na_isZero 8 = .ok (.goto 4, 3) := by decide +kernel
theorem d_Na_isZero_11 : decode b_Na_isZero 11 = .ok (.iconst 0, 1) := by decide +kernel
theorem d_Na_isZero_12 : decode b_Na_isZero 12 = .ok (.ireturn, 1) := by decide +kernel
theorem d_Na_isOne_0 : decode b_Na_isOne 0 = .ok (.aload_n 0, 1) := by decide +kernel
theorem d_Na_isOne_1 : decode b_Na_isOne 1 = .ok (.getfield 13, 3) := by decide +kernel
theorem d_Na_isOne_4 : decode b_Na_isOne 4 = .ok (.iconst 1, 1) := by decide +kernel
theorem d_Na_isOne_5 : decode b_Na_isOne 5 = .ok (.if_icmp .ne 17, 3) := by decide +kernel
theorem d_Na_isOne_8 : decode b_Na_isOne 8 = .ok (.aload_n 0, 1) := by decide +kernel
theorem d_Na_isOne_9 : decode b_Na_isOne 9 = .ok (.iconst 0, 1) := by decide +kernel
theorem d_Na_isOne_10 : decode b_Na_isOne 10 = .ok (.invokevirtual 26, 3) := by decide +kernel
theorem d_Na_isOne_13 : decode b_Na_isOne 13 = .ok (.lconst 1, 1) := by decide +kernel
theorem d_Na_isOne_14 : decode b_Na_isOne 14 = .ok (.lcmp, 1) := by decide +kernel
theorem d_Na_isOne_15 : decode b_Na_isOne 15 = .ok (.ifCond .ne 7, 3) := by decide +kernel
theorem d_Na_isOne_18 : decode b_Na_isOne 18 = .ok (.iconst 1, 1) := by decide +kernel
theorem d_Na_isOne_19 : decode b_Na_isOne 19 = .ok (.goto 4, 3) := by decide +kernel
theorem d_Na_isOne_22 : decode b_Na_isOne 22 = .ok (.iconst 0, 1) := by decide +kernel
theorem d_Na_isOne_23 : decode b_Na_isOne 23 = .ok (.ireturn, 1) := by decide +kernel
theorem d_Na_isOdd_0 : decode b_Na_isOdd 0 = .ok (.aload_n 0, 1) := by decide +kernel
theorem d_Na_isOdd_1 : decode b_Na_isOdd 1 = .ok (.iconst 0, 1) := by decide +kernel
theorem d_Na_isOdd_2 : decode b_Na_isOdd 2 = .ok (.invokevirtual 26, 3) := by decide +kernel
theorem d_Na_isOdd_5 : decode b_Na_isOdd 5 = .ok (.lconst 1, 1) := by decide +kernel
theorem d_Na_isOdd_6 : decode b_Na_isOdd 6 = .ok (.land, 1) := by decide +kernel
theorem d_Na_isOdd_7 : decode b_Na_isOdd 7 = .ok (.lconst 0, 1) := by decide +kernel
theorem d_Na_isOdd_8 : decode b_Na_isOdd 8 = .ok (.lcmp, 1) := by decide +kernel
theorem d_Na_isOdd_9 : decode b_Na_isOdd 9 = .ok (.ifCond .eq 7, 3) := by decide +kernel
theorem d_Na_isOdd_12 : decode b_Na_isOdd 12 = .ok (.iconst 1, 1) := by decide +kernel
theorem d_Na_isOdd_13 : decode b_Na_isOdd 13 = .ok (.goto 4, 3) := by decide +kernel
theorem d_Na_isOdd_16 : decode b_Na_isOdd 16 = .ok (.iconst 0, 1) := by decide +kernel
theorem d_Na_isOdd_17 : decode b_Na_isOdd 17 = .ok (.ireturn, 1) := by decide +kernel
/-- a new Natural, whose cell is the newest: one array comes -/
theorem c_Na_init (l : Launch) {g : Gh} {nx a : Nat} (N : Nat) (hN : N ≤ 20) (hnx : nx = a + 1) (h : g a = some (.inr (2, [.null, .int 0]))) : Ct l m_Na_init 1 20 [.ref a, .int (nI N)] g nx (fun r g' nx' => r = none ∧ nx' = nx + 1 ∧ NA g' a N 0 ∧ gO g g' a) := by
  refine Ct.of (by decide) (Nat.le_of_ble_eq_true rfl) (fun E hE hQ => ?_)
  refine z_aload_n hE d_Na_init_0 rfl ?_
  refine z_objInit hE d_Na_init_1 ol_Na_1 ol_i ol_c (by decide) (Nat.le_of_ble_eq_true rfl) ?_
  refine z_aload_n hE d_Na_init_4 rfl ?_
  refine z_iload_n hE d_Na_init_5 rfl ?_
  refine z_if_ge (tgt := 13) hE d_Na_init_6 (by decide) (fun c_6 => ?_) (fun c_6 => ?_)
  · refine z_iload_n hE d_Na_init_13 rfl ?_
    subst hnx
    refine z_newal (N := N) hE d_Na_init_14 ac_long (nI_pos (by omega)) (nI_cl (by omega)) (by omega) (by omega) (by omega) ?_
    refine z_putF hE d_Na_init_16 fl_Na_7 ct_Na ff_Na_0 rfl ⟨_, _, _, rfl, rfl⟩ (by rw [gS_n (by omega)]; exact h) rfl rfl (Nat.le_of_ble_eq_true rfl) ?_
    refine z_aload_n hE d_Na_init_19 rfl ?_
    refine z_iconst (v := 0) hE d_Na_init_20 (by decide) ?_
    refine z_put hE d_Na_init_21 fl_Na_13 ct_Na ff_Na_1 (gS_s) rfl rfl (Nat.le_of_ble_eq_true rfl) ?_
    refine z_vret hE hQ d_Na_init_24 rfl (by omega) (by omega) ⟨rfl, rfl, ⟨0, fun _ => 0, ⟨?_, ?_, Nat.zero_le _, hN, fun j => Nat.zero_lt_succ _⟩, rfl, Or.inl rfl⟩, fun q q1 q2 => ?_⟩
    · rw [gS_s]; rfl
    · rw [gS_n (by omega), gS_n (by omega), gS_s]; rfl
    · rw [gS_n q1, gS_n q1, gS_n q2]
  · exact absurd (nI_pos' (by omega)) c_6
theorem c_Na_become (l : Launch) {g : Gh} (nx : Nat) {a b N M n : Nat} {d : Nat → Nat} {w : Nat} (ha : RN g a N n d) (hb : NA g b M w) (hab : b ≠ a) (hw : w < 4294967296 ^ N) : Ct l m_Na_become 0 0 [.ref a, .ref b] g nx (pNA g a N w nx) := by
  obtain ⟨m, e, hb, hbv, hbn⟩ := hb
  obtain ⟨a1, a2, a3, a4, a5⟩ := id ha
  obtain ⟨b1, b2, b3, b4, b5⟩ := id hb
  have hmN : m ≤ N := (norm_len b5 hbn).mp (by rw [hbv]; exact hw)
  refine Ct.of (by decide) (Nat.le_of_ble_eq_true rfl) (fun E hE hQ => ?_)
  refine z_aload_n hE d_Na_become_0 rfl ?_
  refine z_aload_n hE d_Na_become_1 rfl ?_
  refine z_get hE d_Na_become_2 fl_Na_13 (by assumption) rfl ?_
  refine z_aload_n hE d_Na_become_5 rfl ?_
  refine z_get hE d_Na_become_6 fl_Na_7 (by assumption) rfl ?_
  refine z_alen hE d_Na_become_9 (by assumption) (by decide) (rfl) ?_
  refine z_mmin (v := nI m) hE d_Na_become_10 cl_Na_17 (by decide) (Nat.le_of_ble_eq_true rfl) (by omega) (by omega) (by rw [show Int32.ofNat N = nI N from rfl, i_min (by omega) (by omega), Nat.min_eq_left hmN]) ?_
  refine z_put hE d_Na_become_13 fl_Na_13 ct_Na ff_Na_1 (by assumption) rfl rfl (Nat.le_of_ble_eq_true rfl) ?_
  refine z_iconst (v := nI 0) hE d_Na_become_16 (by decide) ?_
  refine z_istore_n hE d_Na_become_17 rfl (by decide) ?_
  have loop : ∀ (w i : Nat) (d' : Nat → Nat), i + w = m → (∀ j, d' j < 4294967296) → (∀ j, j < i → d' j = e j) → zJ E (gN g a N m d') nx 0 0 18 [(0, .ref a), (1, .ref b), (2, .int (nI i))] [] := by
    intro w
    induction w with
    | zero =>
      intro i d' hi hd' hx
      have hR : RN (gN g a N m d') a N m d' := RN_gN hmN a4 hd'
      obtain ⟨q1, q2, -⟩ := id hR
      refine z_iload_n hE d_Na_become_18 rfl ?_
      refine z_aload_n hE d_Na_become_19 rfl ?_
      refine z_get hE d_Na_become_20 fl_Na_13 (by assumption) rfl ?_
      refine z_icmp_ge (tgt := 42) hE d_Na_become_23 (by decide) (fun c_23 => ?_) (fun c_23 => ?_)
      · refine z_vret hE hQ d_Na_become_42 rfl (Nat.le_refl _) (Nat.le_refl _) ⟨rfl, rfl, ⟨m, d', hR, ?_, ?_⟩, gO_N⟩
        · rw [← hbv]; exact val_ext m (fun j hj => hx j (by omega))
        · rcases hbn with h | h
          · exact Or.inl h
          · by_cases hm : m = 0
            · exact Or.inl hm
            · exact Or.inr (by rw [hx _ (by omega)]; exact h)
      · exact absurd ((nI_LE (by omega) (by omega)).mpr (by omega)) c_23
    | succ w ih =>
      intro i d' hi hd' hx
      have hR : RN (gN g a N m d') a N m d' := RN_gN hmN a4 hd'
      have hRb : RN (gN g a N m d') b M m e := RN_o ha hb hab
      obtain ⟨q1, q2, -⟩ := id hR
      obtain ⟨r1, r2, -⟩ := id hRb
      refine z_iload_n hE d_Na_become_18 rfl ?_
      refine z_aload_n hE d_Na_become_19 rfl ?_
      refine z_get hE d_Na_become_20 fl_Na_13 (by assumption) rfl ?_
      refine z_icmp_ge (tgt := 42) hE d_Na_become_23 (by decide) (fun c_23 => ?_) (fun c_23 => ?_)
      · exact absurd ((nI_LE (by omega) (by omega)).mp c_23) (by omega)
      · refine z_aload_n hE d_Na_become_26 rfl ?_
        refine z_iload_n hE d_Na_become_27 rfl ?_
        refine z_aload_n hE d_Na_become_28 rfl ?_
        refine z_iload_n hE d_Na_become_29 rfl ?_
        refine z_callV hE d_Na_become_30 cl_Na_26 (c_Na_at l nx hRb (nI i)) (by assumption) cb_Na rfl (Nat.le_of_ble_eq_true rfl) ⟨by decide, by decide⟩ ⟨by omega, by omega⟩ (fun r_30 g_30 nx_30 hp_30 => ?_) rfl
        obtain ⟨rfl, rfl, rfl⟩ := hp_30
        try dsimp only [Option.toList, List.nil_append, List.cons_append]
        rw [dz_n (by omega), dzf_in (by omega)]
        refine z_callV hE d_Na_become_33 cl_Na_30 (c_Na_store l nx hR (k := i) (by omega) (e i)) (by assumption) cb_Na rfl (Nat.le_of_ble_eq_true rfl) ⟨by decide, by decide⟩ ⟨by omega, by omega⟩ (fun r_33 g_33 nx_33 hp_33 => ?_) rfl
        obtain ⟨rfl, rfl, rfl⟩ := hp_33
        try dsimp only [Option.toList, List.nil_append, List.cons_append]
        rw [gN_gN]
        refine z_iinc (v := nI (i + 1)) hE d_Na_become_36 rfl (nI_1 i) (by decide) ?_
        refine z_goto (tgt := 18) hE d_Na_become_39 (by decide) ?_
        refine z_sub (lv' := [(0, .ref a), (1, .ref b), (2, .int (nI (i + 1)))]) rfl (ih (i + 1) _ (by omega) (upN_lt hd' (b5 i)) (fun j hj => ?_))
        by_cases hji : j = i
        · rw [hji, upN_s]
        · rw [upN_n hji, hx j (by omega)]
  refine z_g (gN_obj ha) (z_sub (lv' := [(0, .ref a), (1, .ref b), (2, .int (nI 0))]) rfl (loop m 0 d (by omega) a5 (fun j hj => by omega)))
theorem c_Na_becomeLong (l : Launch) {g : Gh} (nx : Nat) {a n : Nat} {d : Nat → Nat} (ha : RN g a 20 n d) (x : Nat) (hx : x < 18446744073709551616) : Ct l m_Na_becomeLong 0 0 [.ref a, .long (lN x)] g nx (pNA g a 20 x nx) := by
  obtain ⟨a1, a2, a3, a4, a5⟩ := id ha
  refine Ct.of (by decide) (Nat.le_of_ble_eq_true rfl) (fun E hE hQ => ?_)
  refine z_aload_n hE d_Na_becomeLong_0 rfl ?_
  refine z_callV hE d_Na_becomeLong_1 cl_Na_34 (c_Na_clear l nx ha) (by assumption) cb_Na rfl (Nat.le_of_ble_eq_true rfl) ⟨by decide, by decide⟩ ⟨by omega, by omega⟩ (fun r_1 g_1 nx_1 hp_1 => ?_) rfl
  obtain ⟨rfl, rfl, rfl⟩ := hp_1
  try dsimp only [Option.toList, List.nil_append, List.cons_append]
  have hR : RN (gN g a 20 0 d) a 20 0 d := RN_gN (by omega) a4 a5
  obtain ⟨q1, q2, -⟩ := id hR
  refine z_aload_n hE d_Na_becomeLong_4 rfl ?_
  refine z_iconst (v := nI 2) hE d_Na_becomeLong_5 (by decide) ?_
  refine z_callV hE d_Na_becomeLong_6 cl_Na_37 (c_Na_widen l nx hR 2 (by omega)) (by assumption) cb_Na rfl (Nat.le_of_ble_eq_true rfl) ⟨by decide, by decide⟩ ⟨by omega, by omega⟩ (fun r_6 g_6 nx_6 hp_6 => ?_) rfl
  obtain ⟨rfl, rfl, rfl⟩ := hp_6
  try dsimp only [Option.toList, List.nil_append, List.cons_append]
  rw [gN_gN]
  generalize hd1 : (fun j => if 0 ≤ j ∧ j < min 2 20 then 0 else d j) = d1
  have hd1l : ∀ j, d1 j < 4294967296 := fun j => by rw [← hd1]; dsimp only; split; omega; exact a5 j
  have hR1 : RN (gN g a 20 2 d1) a 20 2 d1 := RN_gN (by omega) a4 hd1l
  obtain ⟨r1, r2, -⟩ := id hR1
  show zJ E (gN g a 20 2 d1) nx _ _ _ _ _
  refine z_aload_n hE d_Na_becomeLong_9 rfl ?_
  refine z_iconst (v := nI 0) hE d_Na_becomeLong_10 (by decide) ?_
  refine z_lload_n hE d_Na_becomeLong_11 rfl ?_
  refine z_ldc2 hE d_Na_becomeLong_12 cn_Na_41 ?_
  refine z_land (v := lN (x % 4294967296)) hE d_Na_becomeLong_15 (l_mask hx) ?_
  refine z_callV hE d_Na_becomeLong_16 cl_Na_30 (c_Na_store l nx hR1 (k := 0) (by omega) (x % 4294967296)) (by assumption) cb_Na rfl (Nat.le_of_ble_eq_true rfl) ⟨by decide, by decide⟩ ⟨by omega, by omega⟩ (fun r_16 g_16 nx_16 hp_16 => ?_) rfl
  obtain ⟨rfl, rfl, rfl⟩ := hp_16
  try dsimp only [Option.toList, List.nil_append, List.cons_append]
  rw [gN_gN]
  have hd2l := upN_lt (k := 0) (x := x % 4294967296) hd1l (by omega)
  have hR2 := RN_gN (g := g) (a := a) (N := 20) (n := 2) (d := upN d1 0 (x % 4294967296)) (by omega) a4 hd2l
  obtain ⟨s1, s2, -⟩ := id hR2
  refine z_aload_n hE d_Na_becomeLong_19 rfl ?_
  refine z_iconst (v := nI 1) hE d_Na_becomeLong_20 (by decide) ?_
  refine z_lload_n hE d_Na_becomeLong_21 rfl ?_
  refine z_bipush (v := 32) hE d_Na_becomeLong_22 (by decide) ?_
  refine z_lushr (v := lN (x / 4294967296)) hE d_Na_becomeLong_24 (l_shr hx) ?_
  refine z_callV hE d_Na_becomeLong_25 cl_Na_30 (c_Na_store l nx hR2 (k := 1) (by omega) (x / 4294967296)) (by assumption) cb_Na rfl (Nat.le_of_ble_eq_true rfl) ⟨by decide, by decide⟩ ⟨by omega, by omega⟩ (fun r_25 g_25 nx_25 hp_25 => ?_) rfl
  obtain ⟨rfl, rfl, rfl⟩ := hp_25
  try dsimp only [Option.toList, List.nil_append, List.cons_append]
  rw [gN_gN]
  have hd3l := upN_lt (k := 1) (x := x / 4294967296) hd2l (by omega)
  have hR3 := RN_gN (g := g) (a := a) (N := 20) (n := 2) (d := upN (upN d1 0 (x % 4294967296)) 1 (x / 4294967296)) (by omega) a4 hd3l
  obtain ⟨t1, t2, -⟩ := id hR3
  refine z_aload_n hE d_Na_becomeLong_28 rfl ?_
  refine z_callV hE d_Na_becomeLong_29 cl_Na_43 (c_Na_trim l nx hR3) (by assumption) cb_Na rfl (Nat.le_of_ble_eq_true rfl) ⟨by decide, by decide⟩ ⟨by omega, by omega⟩ (fun r_29 g_29 nx_29 hp_29 => ?_) rfl
  obtain ⟨rfl, rfl, rfl⟩ := hp_29
  try dsimp only [Option.toList, List.nil_append, List.cons_append]
  rw [gN_gN]
  refine z_vret hE hQ d_Na_becomeLong_32 rfl (Nat.le_refl _) (Nat.le_refl _) ⟨rfl, rfl, ?_, gO_N⟩
  have hv : val (upN (upN d1 0 (x % 4294967296)) 1 (x / 4294967296)) 2 = x := by
    rw [val_upN, val_upN]
    show 0 + _ * 1 + _ * 4294967296 = x
    omega
  have hn := NA_trim (g := g) (a := a) (N := 20) (n := 2) (by omega) a4 hd3l
  rw [hv] at hn
  exact hn
theorem c_Na_lowLong (l : Launch) {g : Gh} (nx : Nat) {a N v : Nat} (ha : NA g a N v) : Ct l m_Na_lowLong 0 0 [.ref a] g nx (pP (some (.long (lN (v % 18446744073709551616)))) g nx) := by
  obtain ⟨n, d, ha, hav, han⟩ := ha
  obtain ⟨a1, a2, a3, a4, a5⟩ := id ha
  refine Ct.of (by decide) (Nat.le_of_ble_eq_true rfl) (fun E hE hQ => ?_)
  refine z_aload_n hE d_Na_lowLong_0 rfl ?_
  refine z_iconst (v := nI 1) hE d_Na_lowLong_1 (by decide) ?_
  refine z_callV hE d_Na_lowLong_2 cl_Na_26 (c_Na_at l nx ha (nI 1)) (by assumption) cb_Na rfl (Nat.le_of_ble_eq_true rfl) ⟨by decide, by decide⟩ ⟨by omega, by omega⟩ (fun r_2 g_2 nx_2 hp_2 => ?_) rfl
  obtain ⟨rfl, rfl, rfl⟩ := hp_2
  try dsimp only [Option.toList, List.nil_append, List.cons_append]
  rw [dz_n (by omega)]
  refine z_bipush (v := 32) hE d_Na_lowLong_5 (by decide) ?_
  refine z_lshl (v := lN (dzf n d 1 * 4294967296)) hE d_Na_lowLong_7 (l_shl) ?_
  refine z_aload_n hE d_Na_lowLong_8 rfl ?_
  refine z_iconst (v := nI 0) hE d_Na_lowLong_9 (by decide) ?_
  refine z_callV hE d_Na_lowLong_10 cl_Na_26 (c_Na_at l nx ha (nI 0)) (by assumption) cb_Na rfl (Nat.le_of_ble_eq_true rfl) ⟨by decide, by decide⟩ ⟨by omega, by omega⟩ (fun r_10 g_10 nx_10 hp_10 => ?_) rfl
  obtain ⟨rfl, rfl, rfl⟩ := hp_10
  try dsimp only [Option.toList, List.nil_append, List.cons_append]
  rw [dz_n (by omega)]
  refine z_lor (v := lN (dzf n d 1 * 4294967296 + dzf n d 0)) hE d_Na_lowLong_13 (l_or (dzf_lt a5 0) (dzf_lt a5 1)) ?_
  refine z_lret hE hQ d_Na_lowLong_14 rfl (Nat.le_refl _) (Nat.le_refl _) ⟨?_, rfl, rfl⟩
  have e0 := val_dig a5 0 n
  have e1 := val_dig a5 1 n
  rw [hav] at e0 e1
  show some (Value.long (lN (dz n d (1 : Nat) * 4294967296 + dz n d (0 : Nat)))) = _
  rw [← e0, ← e1]
  congr 3
  show v / 4294967296 % 4294967296 * 4294967296 + v / 1 % 4294967296 = _
  omega
theorem NA_zero {g : Gh} {a N n : Nat} {d : Nat → Nat} (h5 : ∀ j, d j < 4294967296) (hn : n = 0 ∨ d (n - 1) ≠ 0) : val d n = 0 ↔ n = 0 := by
  constructor
  · intro h
    have := (norm_len (k := 0) h5 hn).mp (by rw [h]; decide)
    omega
  · intro h
    rw [h]; rfl
theorem c_Na_isZero (l : Launch) {g : Gh} (nx : Nat) {a N v : Nat} (ha : NA g a N v) : Ct l m_Na_isZero 0 0 [.ref a] g nx (pP (some (.int (if v = 0 then 1 else 0))) g nx) := by
  obtain ⟨n, d, ha, hav, han⟩ := ha
  obtain ⟨a1, a2, a3, a4, a5⟩ := id ha
  have hz := NA_zero (g := g) (a := a) (N := N) a5 han
  rw [hav] at hz
  refine Ct.of (by decide) (Nat.le_of_ble_eq_true rfl) (fun E hE hQ => ?_)
  refine z_aload_n hE d_Na_isZero_0 rfl ?_
  refine z_get hE d_Na_isZero_1 fl_Na_13 (by assumption) rfl ?_
  refine z_if_ne (tgt := 11) hE d_Na_isZero_4 (by decide) (fun c_4 => ?_) (fun c_4 => ?_)
  · refine z_iconst (v := 0) hE d_Na_isZero_11 (by decide) ?_
    refine z_zret hE hQ d_Na_isZero_12 rfl (Nat.le_refl _) (Nat.le_refl _) (Or.inl rfl) ⟨?_, rfl, rfl⟩
    rw [if_neg (fun q => c_4 (by rw [hz.mp q]; rfl))]
  · refine z_iconst (v := 1) hE d_Na_isZero_7 (by decide) ?_
    refine z_goto (tgt := 12) hE d_Na_isZero_8 (by decide) ?_
    refine z_zret hE hQ d_Na_isZero_12 rfl (Nat.le_refl _) (Nat.le_refl _) (Or.inr rfl) ⟨?_, rfl, rfl⟩
    rw [if_pos (hz.mpr ((nI_EQ (by omega) (by omega)).mp c_4))]
theorem c_Na_isOne (l : Launch) {g : Gh} (nx : Nat) {a N v : Nat} (ha : NA g a N v) : Ct l m_Na_isOne 0 0 [.ref a] g nx (pP (some (.int (if v = 1 then 1 else 0))) g nx) := by
  obtain ⟨n, d, ha, hav, han⟩ := ha
  obtain ⟨a1, a2, a3, a4, a5⟩ := id ha
  refine Ct.of (by decide) (Nat.le_of_ble_eq_true rfl) (fun E hE hQ => ?_)
  refine z_aload_n hE d_Na_isOne_0 rfl ?_
  refine z_get hE d_Na_isOne_1 fl_Na_13 (by assumption) rfl ?_
  refine z_iconst (v := nI 1) hE d_Na_isOne_4 (by decide) ?_
  refine z_icmp_ne (tgt := 22) hE d_Na_isOne_5 (by decide) (fun c_5 => ?_) (fun c_5 => ?_)
  · refine z_iconst (v := 0) hE d_Na_isOne_22 (by decide) ?_
    refine z_zret hE hQ d_Na_isOne_23 rfl (Nat.le_refl _) (Nat.le_refl _) (Or.inl rfl) ⟨?_, rfl, rfl⟩
    rw [if_neg]
    intro hv
    rw [nI_EQ (by omega) (by omega)] at c_5
    have h1 := (norm_len (k := 1) a5 han).mp (by rw [hav, hv]; decide)
    have h0 : n = 0 := by omega
    rw [h0] at hav
    rw [hv] at hav
    exact absurd (show (0 : Nat) = 1 from hav) (by decide)
  · have hn : n = 1 := (nI_EQ (by omega) (by omega)).mp c_5
    subst hn
    have hv : v = d 0 := by rw [← hav]; show 0 + d 0 * 1 = d 0; omega
    refine z_aload_n hE d_Na_isOne_8 rfl ?_
    refine z_iconst (v := nI 0) hE d_Na_isOne_9 (by decide) ?_
    refine z_callV hE d_Na_isOne_10 cl_Na_26 (c_Na_at l nx ha (nI 0)) (by assumption) cb_Na rfl (Nat.le_of_ble_eq_true rfl) ⟨by decide, by decide⟩ ⟨by omega, by omega⟩ (fun r_10 g_10 nx_10 hp_10 => ?_) rfl
    obtain ⟨rfl, rfl, rfl⟩ := hp_10
    try dsimp only [Option.toList, List.nil_append, List.cons_append]
    rw [dz_n (by omega), dzf_in (by omega)]
    refine z_lconst (v := lN 1) hE d_Na_isOne_13 (by decide) ?_
    refine z_lcmp hE d_Na_isOne_14 ?_
    refine z_if_ne (tgt := 22) hE d_Na_isOne_15 (by decide) (fun c_15 => ?_) (fun c_15 => ?_)
    · rw [lg_cmp_eq, pk_lEQ (by have := a5 0; omega) (by omega)] at c_15
      refine z_iconst (v := 0) hE d_Na_isOne_22 (by decide) ?_
      refine z_zret hE hQ d_Na_isOne_23 rfl (Nat.le_refl _) (Nat.le_refl _) (Or.inl rfl) ⟨?_, rfl, rfl⟩
      rw [if_neg (by omega)]
    · rw [lg_cmp_eq, pk_lEQ (by have := a5 0; omega) (by omega)] at c_15
      refine z_iconst (v := 1) hE d_Na_isOne_18 (by decide) ?_
      refine z_goto (tgt := 23) hE d_Na_isOne_19 (by decide) ?_
      refine z_zret hE hQ d_Na_isOne_23 rfl (Nat.le_refl _) (Nat.le_refl _) (Or.inr rfl) ⟨?_, rfl, rfl⟩
      rw [if_pos (by omega)]
theorem c_Na_isOdd (l : Launch) {g : Gh} (nx : Nat) {a N v : Nat} (ha : NA g a N v) : Ct l m_Na_isOdd 0 0 [.ref a] g nx (pP (some (.int (if v % 2 = 1 then 1 else 0))) g nx) := by
  obtain ⟨n, d, ha, hav, han⟩ := ha
  obtain ⟨a1, a2, a3, a4, a5⟩ := id ha
  have e0 := val_dig a5 0 n
  rw [hav] at e0
  have e1 : dzf n d 0 = v % 4294967296 := by
    show dz n d (0 : Nat) = _
    rw [← e0]
    show v / 1 % 4294967296 = _
    omega
  refine Ct.of (by decide) (Nat.le_of_ble_eq_true rfl) (fun E hE hQ => ?_)
  refine z_aload_n hE d_Na_isOdd_0 rfl ?_
  refine z_iconst (v := nI 0) hE d_Na_isOdd_1 (by decide) ?_
  refine z_callV hE d_Na_isOdd_2 cl_Na_26 (c_Na_at l nx ha (nI 0)) (by assumption) cb_Na rfl (Nat.le_of_ble_eq_true rfl) ⟨by decide, by decide⟩ ⟨by omega, by omega⟩ (fun r_2 g_2 nx_2 hp_2 => ?_) rfl
  obtain ⟨rfl, rfl, rfl⟩ := hp_2
  try dsimp only [Option.toList, List.nil_append, List.cons_append]
  rw [dz_n (by omega), e1]
  refine z_lconst (v := 1) hE d_Na_isOdd_5 (by decide) ?_
  refine z_land (v := lN (v % 4294967296 % 2)) hE d_Na_isOdd_6 (g_and1 (by omega)) ?_
  refine z_lconst (v := lN 0) hE d_Na_isOdd_7 (by decide) ?_
  refine z_lcmp hE d_Na_isOdd_8 ?_
  refine z_if_eq (tgt := 16) hE d_Na_isOdd_9 (by decide) (fun c_9 => ?_) (fun c_9 => ?_)
  · rw [lg_cmp_eq, pk_lEQ (by omega) (by omega)] at c_9
    refine z_iconst (v := 0) hE d_Na_isOdd_16 (by decide) ?_
    refine z_zret hE hQ d_Na_isOdd_17 rfl (Nat.le_refl _) (Nat.le_refl _) (Or.inl rfl) ⟨?_, rfl, rfl⟩
    rw [if_neg (by omega)]
  · rw [lg_cmp_eq, pk_lEQ (by omega) (by omega)] at c_9
    refine z_iconst (v := 1) hE d_Na_isOdd_12 (by decide) ?_
    refine z_goto (tgt := 17) hE d_Na_isOdd_13 (by decide) ?_
    refine z_zret hE hQ d_Na_isOdd_17 rfl (Nat.le_refl _) (Nat.le_refl _) (Or.inr rfl) ⟨?_, rfl, rfl⟩
    rw [if_pos (by omega)]

