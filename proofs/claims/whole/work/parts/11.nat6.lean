/-! Natural: shifts, bits -/
theorem i_sub1 {x : Int32} {i : Int} (h : x.toInt = i) (h1 : -1000000 ≤ i) (h2 : i ≤ 1000000) : (x - nI 1).toInt = i - 1 := by
  have e : (nI 1).toInt = 1 := nI_ti (by omega)
  rw [Int32.toInt_sub, h, e]
  exact Int.bmod_eq_of_le (by omega) (by omega)
theorem pw_lr {s : Nat} (h : s ≤ 32) : 2 ^ s * 2 ^ (32 - s) = 4294967296 := by
  rw [← Nat.pow_add, show s + (32 - s) = 32 by omega]
theorem pw_pos (s : Nat) : 0 < 2 ^ s := Nat.pow_pos (by decide)
theorem div_lt_pw {x s : Nat} (hs : s ≤ 32) (hx : x < 4294967296) : x / 2 ^ (32 - s) < 2 ^ s := by
  rw [Nat.div_lt_iff_lt_mul (pw_pos _), pw_lr hs]
  exact hx
theorem mul_pw_lt {x s : Nat} (hs : s ≤ 31) (hx : x < 4294967296) : x * 2 ^ s < 9223372036854775808 := by
  have h1 : 2 ^ s ≤ 2 ^ 31 := Nat.pow_le_pow_right (by decide) hs
  have h2 := Nat.mul_le_mul (show x ≤ 4294967295 by omega) h1
  omega
/-- one limb shifted up by s bits, and what comes from below -/
theorem sU_one {x t s : Nat} (hs : s ≤ 32) (ht : t < 2 ^ s) : (x * 2 ^ s + t) % 4294967296 + x / 2 ^ (32 - s) * 4294967296 = x * 2 ^ s + t := by
  have h1 := pw_lr hs
  have h2 := Nat.mod_add_div x (2 ^ (32 - s))
  have h3 : x * 2 ^ s = x % 2 ^ (32 - s) * 2 ^ s + x / 2 ^ (32 - s) * 4294967296 := by
    rw [← h1, ← Nat.mul_assoc, Nat.mul_right_comm, Nat.mul_comm (x / 2 ^ (32 - s)), ← Nat.add_mul, Nat.add_comm, ← Nat.add_comm (x % 2 ^ (32 - s)), h2]
  have h4 : x % 2 ^ (32 - s) * 2 ^ s + t < 4294967296 := by
    have h5 := Nat.mul_le_mul_right (2 ^ s) (show x % 2 ^ (32 - s) + 1 ≤ 2 ^ (32 - s) from Nat.mod_lt _ (pw_pos _))
    rw [Nat.add_mul, Nat.one_mul, Nat.mul_comm (2 ^ (32 - s)), h1] at h5
    omega
  rw [h3]
  generalize x % 2 ^ (32 - s) * 2 ^ s = A at h4
  generalize x / 2 ^ (32 - s) = C
  omega
def eU (n : Nat) (d : Nat → Nat) (w s : Nat) : Nat → Nat := fun j => (dz n d ((j : Int) - w) * 2 ^ s + dz n d ((j : Int) - w - 1) / 2 ^ (32 - s)) % 4294967296
theorem eU_lt {n : Nat} {d : Nat → Nat} {w s : Nat} (j : Nat) : eU n d w s j < 4294967296 := Nat.mod_lt _ (by decide)
theorem val_eU {n : Nat} {d : Nat → Nat} {w s : Nat} (hd : ∀ j, d j < 4294967296) (hs : s ≤ 32) : ∀ k, val (eU n d w s) (w + k) + dz n d ((k : Int) - 1) / 2 ^ (32 - s) * 4294967296 ^ (w + k) = val (dzf n d) k * 2 ^ s * 4294967296 ^ w
  | 0 => by
    rw [dz_out (Or.inl (by omega)), Nat.zero_div]
    have hz : val (eU n d w s) (w + 0) = 0 := by
      rw [val_zeros (n := 0) (Nat.zero_le _)]
      · rfl
      · intro j _ hj
        unfold eU
        rw [dz_out (Or.inl (by omega)), dz_out (Or.inl (by omega)), Nat.zero_div]
        omega
    rw [hz]
    show 0 + 0 * _ = 0 * 2 ^ s * _
    omega
  | k + 1 => by
    have ih := val_eU (n := n) (w := w) hd hs k
    rw [show w + (k + 1) = (w + k) + 1 by omega, val_s, Bs, val_s]
    have e1 : eU n d w s (w + k) = (dzf n d k * 2 ^ s + dz n d ((k : Int) - 1) / 2 ^ (32 - s)) % 4294967296 := by
      unfold eU dzf
      rw [show ((w + k : Nat) : Int) - w = (k : Int) by omega]
    have e2 : dz n d (((k + 1 : Nat) : Int) - 1) = dzf n d k := by
      unfold dzf
      rw [show ((k + 1 : Nat) : Int) - 1 = (k : Int) by omega]
    rw [e1, e2]
    have h1 := sU_one (x := dzf n d k) hs (div_lt_pw hs (dz_lt (n := n) hd ((k : Int) - 1)))
    have h2 := congrArg (fun z => z * 4294967296 ^ (w + k)) h1
    simp only [Nat.add_mul, Nat.mul_assoc] at h2
    rw [Nat.add_mul, Nat.add_mul, ← ih]
    have h3 : dzf n d k * 4294967296 ^ k * 2 ^ s * 4294967296 ^ w = dzf n d k * (2 ^ s * 4294967296 ^ (w + k)) := by
      rw [Nat.pow_add, Nat.mul_assoc, Nat.mul_assoc]
      congr 1
      rw [Nat.mul_left_comm, Nat.mul_comm (4294967296 ^ k)]
    omega
theorem d_Na_shiftUp_0 : decode b_Na_shiftUp 0 = .ok (.iload_n 1, 1) := by decide +kernel
theorem d_Na_shiftUp_1 : decode b_Na_shiftUp 1 = .ok (.ifCond .gt 4, 3) := by decide +kernel
theorem d_Na_shiftUp_4 : decode b_Na_shiftUp 4 = .ok (.return_, 1) := by decide +kernel
theorem d_Na_shiftUp_5 : decode b_Na_shiftUp 5 = .ok (.iload_n 1, 1) := by decide +kernel
theorem d_Na_shiftUp_6 : decode b_Na_shiftUp 6 = .ok (.bipush 32, 2) := by decide +kernel
theorem d_Na_shiftUp_8 : decode b_Na_shiftUp 8 = .ok (.idiv, 1) := by decide +kernel
theorem d_Na_shiftUp_9 : decode b_Na_shiftUp 9 = .ok (.istore_n 2, 1) := by decide +kernel
theorem d_Na_shiftUp_10 : decode b_Na_shiftUp 10 = .ok (.iload_n 1, 1) := by decide +kernel
theorem d_Na_shiftUp_11 : decode b_Na_shiftUp 11 = .ok (.bipush 32, 2) := by decide +kernel
theorem d_Na_shiftUp_13 : decode b_Na_shiftUp 13 = .ok (.irem, 1) := by decide +kernel
theorem d_Na_shiftUp_14 : decode b_Na_shiftUp 14 = .ok (.istore_n 3, 1) := by decide +kernel
theorem d_Na_shiftUp_15 : decode b_Na_shiftUp 15 = .ok (.aload_n 0, 1) := by decide +kernel
theorem d_Na_shiftUp_16 : decode b_Na_shiftUp 16 = .ok (.aload_n 0, 1) := by decide +kernel
theorem d_Na_shiftUp_17 : decode b_Na_shiftUp 17 = .ok (.getfield 13, 3) := by decide +kernel
theorem d_Na_shiftUp_20 : decode b_Na_shiftUp 20 = .ok (.iload_n 2, 1) := by decide +kernel
theorem d_Na_shiftUp_21 : decode b_Na_shiftUp 21 = .ok (.iadd, 1) := by decide +kernel
theorem d_Na_shiftUp_22 : decode b_Na_shiftUp 22 = .ok (.iconst 1, 1) := by decide +kernel
theorem d_Na_shiftUp_23 : decode b_Na_shiftUp 23 = .ok (.iadd, 1) := by decide +kernel
theorem d_Na_shiftUp_24 : decode b_Na_shiftUp 24 = .ok (.invokevirtual 37, 3) := by decide +kernel
theorem d_Na_shiftUp_27 : decode b_Na_shiftUp 27 = .ok (.aload_n 0, 1) := by decide +kernel
theorem d_Na_shiftUp_28 : decode b_Na_shiftUp 28 = .ok (.getfield 13, 3) := by decide +kernel
theorem d_Na_shiftUp_31 : decode b_Na_shiftUp 31 = .ok (.iconst 1, 1) := by decide +kernel
theorem d_Na_shiftUp_32 : decode b_Na_shiftUp 32 = .ok (.isub, 1) := by decide +kernel
theorem d_Na_shiftUp_33 : decode b_Na_shiftUp 33 = .ok (.istore 4, 2) := by decide +kernel
theorem d_Na_shiftUp_35 : decode b_Na_shiftUp 35 = .ok (.iload 4, 2) := by decide +kernel
theorem d_Na_shiftUp_37 : decode b_Na_shiftUp 37 = .ok (.ifCond .lt 49, 3) := by decide +kernel
theorem d_Na_shiftUp_40 : decode b_Na_shiftUp 40 = .ok (.aload_n 0, 1) := by decide +kernel
theorem d_Na_shiftUp_41 : decode b_Na_shiftUp 41 = .ok (.iload 4, 2) := by decide +kernel
theorem d_Na_shiftUp_43 : decode b_Na_shiftUp 43 = .ok (.iload_n 2, 1) := by decide +kernel
theorem d_Na_shiftUp_44 : decode b_Na_shiftUp 44 = .ok (.isub, 1) := by decide +kernel
theorem d_Na_shiftUp_45 : decode b_Na_shiftUp 45 = .ok (.invokevirtual 26, 3) := by decide +kernel
theorem d_Na_shiftUp_48 : decode b_Na_shiftUp 48 = .ok (.iload_n 3, 1) := by decide +kernel
theorem d_Na_shiftUp_49 : decode b_Na_shiftUp 49 = .ok (.lshl, 1) := by decide +kernel
theorem d_Na_shiftUp_50 : decode b_Na_shiftUp 50 = .ok (.aload_n 0, 1) := by decide +kernel
theorem d_Na_shiftUp_51 : decode b_Na_shiftUp 51 = .ok (.iload 4, 2) := by decide +kernel
theorem d_Na_shiftUp_53 : decode b_Na_shiftUp 53 = .ok (.iload_n 2, 1) := by decide +kernel
theorem d_Na_shiftUp_54 : decode b_Na_shiftUp 54 = .ok (.isub, 1) := by decide +kernel
theorem d_Na_shiftUp_55 : decode b_Na_shiftUp 55 = .ok (.iconst 1, 1) := by decide +kernel
theorem d_Na_shiftUp_56 : decode b_Na_shiftUp 56 = .ok (.isub, 1) := by decide +kernel
theorem d_Na_shiftUp_57 : decode b_Na_shiftUp 57 = .ok (.invokevirtual 26, 3) := by decide +kernel
theorem d_Na_shiftUp_60 : decode b_Na_shiftUp 60 = .ok (.bipush 32, 2) := by decide +kernel
theorem d_Na_shiftUp_62 : decode b_Na_shiftUp 62 = .ok (.iload_n 3, 1) := by decide +kernel
theorem d_Na_shiftUp_63 : decode b_Na_shiftUp 63 = .ok (.isub, 1) := by decide +kernel
theorem d_Na_shiftUp_64 : decode b_Na_shiftUp 64 = .ok (.lushr, 1) := by decide +kernel
theorem d_Na_shiftUp_65 : decode b_Na_shiftUp 65 = .ok (.lor, 1) := by decide +kernel
theorem d_Na_shiftUp_66 : decode b_Na_shiftUp 66 = .ok (.lstore 5, 2) := by decide +kernel
theorem d_Na_shiftUp_68 : decode b_Na_shiftUp 68 = .ok (.aload_n 0, 1) := by decide +kernel
theorem d_Na_shiftUp_69 : decode b_Na_shiftUp 69 = .ok (.iload 4, 2) := by decide +kernel
theorem d_Na_shiftUp_71 : decode b_Na_shiftUp 71 = .ok (.lload 5, 2) := by decide +kernel
theorem d_Na_shiftUp_73 : decode b_Na_shiftUp 73 = .ok (.ldc2_w 41, 3) := by decide +kernel
theorem d_Na_shiftUp_76 : decode b_Na_shiftUp 76 = .ok (.land, 1) := by decide +kernel
theorem d_Na_shiftUp_77 : decode b_Na_shiftUp 77 = .ok (.invokevirtual 30, 3) := by decide +kernel
theorem d_Na_shiftUp_80 : decode b_Na_shiftUp 80 = .ok (.iinc 4 (-1), 3) := by decide +kernel
theorem d_Na_shiftUp_83 : decode b_Na_shiftUp 83 = .ok (.goto (-48), 3) := by decide +kernel
theorem d_Na_shiftUp_86 : decode b_Na_shiftUp 86 = .ok (.aload_n 0, 1) := by decide +kernel
theorem d_Na_shiftUp_87 : decode b_Na_shiftUp 87 = .ok (.invokevirtual 43, 3) := by decide +kernel
theorem d_Na_shiftUp_90 : decode b_Na_shiftUp 90 = .ok (.return_, 1) := by decide +kernel
theorem c_Na_shiftUp (l : Launch) {g : Gh} (nx : Nat) {a v p : Nat} (ha : NA g a 20 v) (t : Nat) (ht : t ≤ 1000) (hv : v < 4294967296 ^ p) (hp : p + t / 32 + 1 ≤ 20) : Ct l m_Na_shiftUp 0 0 [.ref a, .int (nI t)] g nx (pNA g a 20 (v * 2 ^ t) nx) := by
  obtain ⟨n, d, ha, hav, han⟩ := id ha
  obtain ⟨a1, a2, a3, a4, a5⟩ := id ha
  have hn : n ≤ p := (norm_len a5 han).mp (by rw [hav]; exact hv)
  refine Ct.of (by decide) (Nat.le_of_ble_eq_true rfl) (fun E hE hQ => ?_)
  refine z_iload_n hE d_Na_shiftUp_0 rfl ?_
  refine z_if_gt (tgt := 5) hE d_Na_shiftUp_1 (by decide) (fun c_1 => ?_) (fun c_1 => ?_)
  · have ht0 : 0 < t := (nI_LT (a := 0) (by omega) (by omega)).mp c_1
    refine z_iload_n hE d_Na_shiftUp_5 rfl ?_
    refine z_bipush (v := nI 32) hE d_Na_shiftUp_6 (by decide) ?_
    refine z_idiv (v := nI (t / 32)) hE d_Na_shiftUp_8 (by decide) (pk_div (by omega) (by omega) (by omega)) ?_
    refine z_istore_n hE d_Na_shiftUp_9 rfl (by decide) ?_
    refine z_iload_n hE d_Na_shiftUp_10 rfl ?_
    refine z_bipush (v := nI 32) hE d_Na_shiftUp_11 (by decide) ?_
    refine z_irem (v := nI (t % 32)) hE d_Na_shiftUp_13 (by decide) (pk_rem (by omega) (by omega) (by omega)) ?_
    refine z_istore_n hE d_Na_shiftUp_14 rfl (by decide) ?_
    refine z_aload_n hE d_Na_shiftUp_15 rfl ?_
    refine z_aload_n hE d_Na_shiftUp_16 rfl ?_
    refine z_get hE d_Na_shiftUp_17 fl_Na_13 (by assumption) rfl ?_
    refine z_iload_n hE d_Na_shiftUp_20 rfl ?_
    generalize hw : t / 32 = w at hp
    generalize hs : t % 32 = s
    have hs31 : s ≤ 31 := by omega
    refine z_iadd (v := nI (n + w)) hE d_Na_shiftUp_21 (nI_add _ _) ?_
    refine z_iconst (v := 1) hE d_Na_shiftUp_22 (by decide) ?_
    refine z_iadd (v := nI (n + w + 1)) hE d_Na_shiftUp_23 (nI_1 _) ?_
    refine z_callV hE d_Na_shiftUp_24 cl_Na_37 (c_Na_widen l nx ha (n + w + 1) (by omega)) (by assumption) cb_Na rfl (Nat.le_of_ble_eq_true rfl) ⟨by decide, by decide⟩ ⟨by omega, by omega⟩ (fun r_24 g_24 nx_24 hp_24 => ?_) rfl
    obtain ⟨rfl, rfl, rfl⟩ := hp_24
    try dsimp only [Option.toList, List.nil_append, List.cons_append]
    rw [Nat.min_eq_left (show n + w + 1 ≤ 20 by omega), Nat.max_eq_right (show n ≤ n + w + 1 by omega)]
    generalize hz : n + w + 1 = z
    generalize hd0 : (fun j => if n ≤ j ∧ j < z then 0 else d j) = d0
    have hd0l : ∀ j, d0 j < 4294967296 := fun j => by rw [← hd0]; dsimp only; split; omega; exact a5 j
    have hd0z : ∀ i : Int, dz z d0 i = dz n d i := by
      intro i
      unfold dz
      by_cases h1 : 0 ≤ i ∧ i < n
      · rw [if_pos h1, if_pos (by omega), ← hd0]
        exact if_neg (by omega)
      · rw [if_neg h1]
        by_cases h2 : 0 ≤ i ∧ i < z
        · rw [if_pos h2, ← hd0]
          exact if_pos (by omega)
        · rw [if_neg h2]
    have hR0 : RN (gN g a 20 z d0) a 20 z d0 := RN_gN (by omega) (by omega) hd0l
    obtain ⟨q1, q2, -⟩ := id hR0
    refine z_aload_n hE d_Na_shiftUp_27 rfl ?_
    refine z_get hE d_Na_shiftUp_28 fl_Na_13 (by assumption) rfl ?_
    refine z_iconst (v := 1) hE d_Na_shiftUp_31 (by decide) ?_
    refine z_isub hE d_Na_shiftUp_32 (rfl) ?_
    refine z_istore hE d_Na_shiftUp_33 (by decide) ?_
    have loop : ∀ (i : Nat) (x : Int32) (d' : Nat → Nat), i ≤ z → x.toInt = (i : Int) - 1 → (∀ j, d' j < 4294967296) → (∀ j, j < i → d' j = d0 j) → (∀ j, i ≤ j → j < z → d' j = eU n d w s j) → ∀ lv, lG lv 0 = some (.ref a) → lG lv 2 = some (.int (nI w)) → lG lv 3 = some (.int (nI s)) → lG lv 4 = some (.int x) → zJ E (gN g a 20 z d') nx 0 0 35 lv [] := by
      intro i
      induction i with
      | zero =>
        intro x d' hi hxx hd' hk he lv l0 l2 l3 l4
        refine z_sub (lv' := [(0, .ref a), (4, .int x)]) (by simp only [List.map, l0, l4]) ?_
        have hR : RN (gN g a 20 z d') a 20 z d' := RN_gN (by omega) (by omega) hd'
        obtain ⟨q1, q2, -⟩ := id hR
        refine z_iload hE d_Na_shiftUp_35 rfl ?_
        refine z_if_lt (tgt := 86) hE d_Na_shiftUp_37 (by decide) (fun c_37 => ?_) (fun c_37 => ?_)
        · refine z_aload_n hE d_Na_shiftUp_86 rfl ?_
          refine z_callV hE d_Na_shiftUp_87 cl_Na_43 (c_Na_trim l nx hR) (by assumption) cb_Na rfl (Nat.le_of_ble_eq_true rfl) ⟨by decide, by decide⟩ ⟨by omega, by omega⟩ (fun r_87 g_87 nx_87 hp_87 => ?_) rfl
          obtain ⟨rfl, rfl, rfl⟩ := hp_87
          try dsimp only [Option.toList, List.nil_append, List.cons_append]
          rw [gN_gN]
          refine z_vret hE hQ d_Na_shiftUp_90 rfl (Nat.le_refl _) (Nat.le_refl _) ⟨rfl, rfl, ?_, gO_N⟩
          have hn2 := NA_trim (g := g) (a := a) (N := 20) (n := z) (by omega) (by omega) hd'
          have e1 : val d' z = v * 2 ^ t := by
            rw [val_ext z (fun j hj => he j (Nat.zero_le _) hj)]
            have h1 := val_eU (n := n) (w := w) a5 (show s ≤ 32 by omega) (n + 1)
            rw [show w + (n + 1) = z by omega, show ((n + 1 : Nat) : Int) - 1 = (n : Int) by omega, dz_out (Or.inr (Int.le_refl _)), Nat.zero_div, Nat.zero_mul, Nat.add_zero, val_dzf (by omega), hav] at h1
            rw [h1, Nat.mul_assoc]
            congr 1
            rw [show (4294967296 : Nat) = 2 ^ 32 from rfl, ← Nat.pow_mul, ← Nat.pow_add]
            congr 1
            omega
          rw [e1] at hn2
          exact hn2
        · exact absurd (i_lt0.mpr (by omega)) c_37
      | succ i ih =>
        intro x d' hi hxx hd' hk he lv l0 l2 l3 l4
        refine z_sub (lv' := [(0, .ref a), (2, .int (nI w)), (3, .int (nI s)), (4, .int x)]) (by simp only [List.map, l0, l2, l3, l4]) ?_
        have hR : RN (gN g a 20 z d') a 20 z d' := RN_gN (by omega) (by omega) hd'
        obtain ⟨q1, q2, -⟩ := id hR
        have hxi : x = nI i := by rw [← Int32.toInt_inj, nI_ti (by omega)]; omega
        subst hxi
        have hdzk : ∀ q : Int, q ≤ i → dz z d' q = dz n d q := by
          intro q hq
          rw [← hd0z]
          unfold dz
          by_cases h1 : 0 ≤ q ∧ q < z
          · rw [if_pos h1, if_pos h1]
            exact hk _ (by omega)
          · rw [if_neg h1, if_neg h1]
        have o1 : (nI i - nI w).toInt = (i : Int) - w := pk_sub_toInt (by omega) (by omega)
        have o2 := i_sub1 o1 (by omega) (by omega)
        have m1 := dz_lt (n := n) a5 ((i : Int) - w)
        have m2 := dz_lt (n := n) a5 ((i : Int) - w - 1)
        refine z_iload hE d_Na_shiftUp_35 rfl ?_
        refine z_if_lt (tgt := 86) hE d_Na_shiftUp_37 (by decide) (fun c_37 => ?_) (fun c_37 => ?_)
        · exact absurd (i_lt0.mp c_37) (by omega)
        · refine z_aload_n hE d_Na_shiftUp_40 rfl ?_
          refine z_iload hE d_Na_shiftUp_41 rfl ?_
          refine z_iload_n hE d_Na_shiftUp_43 rfl ?_
          refine z_isub hE d_Na_shiftUp_44 (rfl) ?_
          refine z_callV hE d_Na_shiftUp_45 cl_Na_26 (c_Na_at l nx hR (nI i - nI w)) (by assumption) cb_Na rfl (Nat.le_of_ble_eq_true rfl) ⟨by decide, by decide⟩ ⟨by omega, by omega⟩ (fun r_45 g_45 nx_45 hp_45 => ?_) rfl
          obtain ⟨rfl, rfl, rfl⟩ := hp_45
          try dsimp only [Option.toList, List.nil_append, List.cons_append]
          rw [o1, hdzk _ (by omega)]
          generalize hX : dz n d ((i : Int) - w) = X at m1
          refine z_iload_n hE d_Na_shiftUp_48 rfl ?_
          refine z_lshl (v := lN (X * 2 ^ s)) hE d_Na_shiftUp_49 (wb_shl X (by omega)) ?_
          refine z_aload_n hE d_Na_shiftUp_50 rfl ?_
          refine z_iload hE d_Na_shiftUp_51 rfl ?_
          refine z_iload_n hE d_Na_shiftUp_53 rfl ?_
          refine z_isub hE d_Na_shiftUp_54 (rfl) ?_
          refine z_iconst (v := nI 1) hE d_Na_shiftUp_55 (by decide) ?_
          refine z_isub hE d_Na_shiftUp_56 (rfl) ?_
          refine z_callV hE d_Na_shiftUp_57 cl_Na_26 (c_Na_at l nx hR (nI i - nI w - nI 1)) (by assumption) cb_Na rfl (Nat.le_of_ble_eq_true rfl) ⟨by decide, by decide⟩ ⟨by omega, by omega⟩ (fun r_57 g_57 nx_57 hp_57 => ?_) rfl
          obtain ⟨rfl, rfl, rfl⟩ := hp_57
          try dsimp only [Option.toList, List.nil_append, List.cons_append]
          rw [o2, hdzk _ (by omega)]
          generalize hY : dz n d ((i : Int) - w - 1) = Y at m2
          refine z_bipush (v := nI 32) hE d_Na_shiftUp_60 (by decide) ?_
          refine z_iload_n hE d_Na_shiftUp_62 rfl ?_
          refine z_isub (v := nI (32 - s)) hE d_Na_shiftUp_63 (pk_sub (by omega)) ?_
          refine z_lushr (v := lN (Y / 2 ^ (32 - s))) hE d_Na_shiftUp_64 (wb_shr (show Y < 2 ^ 64 by omega) (by omega)) ?_
          have m3 := div_lt_pw (s := s) (by omega) m2
          have m4 := mul_pw_lt hs31 m1
          have m5 : 2 ^ s ≤ 2 ^ 31 := Nat.pow_le_pow_right (by decide) hs31
          refine z_lor (v := lN (X * 2 ^ s + Y / 2 ^ (32 - s))) hE d_Na_shiftUp_65 (g_or (k := s) rfl m3 (show _ < 18446744073709551616 by omega)) ?_
          refine z_lstore hE d_Na_shiftUp_66 (by decide) ?_
          refine z_aload_n hE d_Na_shiftUp_68 rfl ?_
          refine z_iload hE d_Na_shiftUp_69 rfl ?_
          refine z_lload hE d_Na_shiftUp_71 rfl ?_
          refine z_ldc2 hE d_Na_shiftUp_73 cn_Na_41 ?_
          refine z_land (v := lN ((X * 2 ^ s + Y / 2 ^ (32 - s)) % 4294967296)) hE d_Na_shiftUp_76 (l_mask (by omega)) ?_
          refine z_callV hE d_Na_shiftUp_77 cl_Na_30 (c_Na_store l nx hR (k := i) (by omega) ((X * 2 ^ s + Y / 2 ^ (32 - s)) % 4294967296)) (by assumption) cb_Na rfl (Nat.le_of_ble_eq_true rfl) ⟨by decide, by decide⟩ ⟨by omega, by omega⟩ (fun r_77 g_77 nx_77 hp_77 => ?_) rfl
          obtain ⟨rfl, rfl, rfl⟩ := hp_77
          try dsimp only [Option.toList, List.nil_append, List.cons_append]
          rw [gN_gN]
          refine z_iinc hE d_Na_shiftUp_80 rfl (rfl) (by decide) ?_
          refine z_goto (tgt := 35) hE d_Na_shiftUp_83 (by decide) ?_
          refine ih _ _ (by omega) ?_ (upN_lt hd' (Nat.mod_lt _ (by decide))) (fun j hj => ?_) (fun j h1 h2 => ?_) _ rfl rfl rfl rfl
          · cases i with
            | zero => rfl
            | succ i =>
              show (nI (i + 1) + (-1)).toInt = _
              rw [pk_m1, nI_ti (by omega)]; omega
          · rw [upN_n (by omega)]; exact hk j (by omega)
          · by_cases hji : j = i
            · subst hji
              rw [upN_s]
              unfold eU
              rw [hX, hY]
            · rw [upN_n hji]; exact he j (by omega) h2
    refine loop z _ d0 (Nat.le_refl _) ?_ hd0l (fun _ _ => rfl) (fun j h1 h2 => by omega) _ rfl rfl rfl rfl
    obtain ⟨y, rfl⟩ : ∃ y, z = y + 1 := ⟨z - 1, by omega⟩
    rw [nI_pred, nI_ti (by omega)]; omega
  · have ht0 : t = 0 := by
      have := mt (nI_LT (a := 0) (by omega) (show t ≤ 1000000 by omega)).mpr c_1
      omega
    subst ht0
    refine z_vret hE hQ d_Na_shiftUp_4 rfl (Nat.le_refl _) (Nat.le_refl _) ⟨rfl, rfl, ?_, gO_r⟩
    rw [Nat.pow_zero, Nat.mul_one]
    exact ⟨n, d, ha, hav, han⟩

