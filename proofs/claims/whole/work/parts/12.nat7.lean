/-! Natural: shifted down, its bits -/
def eD (n : Nat) (d : Nat → Nat) (t : Nat) : Nat → Nat := fun j => (dzf n d j / 2 ^ t + dzf n d (j + 1) * 2 ^ (32 - t)) % 4294967296
theorem sD_one {x y t : Nat} (ht : t ≤ 32) (hx : x < 4294967296) : 2 ^ t * ((x / 2 ^ t + y * 2 ^ (32 - t)) % 4294967296) + x % 2 ^ t = x + y % 2 ^ t * 4294967296 := by
  have h1 := pw_lr ht
  have h2 := Nat.mod_add_div x (2 ^ t)
  have h3 := Nat.mod_add_div y (2 ^ t)
  have h4 : y * 2 ^ (32 - t) = y % 2 ^ t * 2 ^ (32 - t) + y / 2 ^ t * 4294967296 := by
    have : y * 2 ^ (32 - t) = (y % 2 ^ t + 2 ^ t * (y / 2 ^ t)) * 2 ^ (32 - t) := by rw [h3]
    rw [this, Nat.add_mul, Nat.mul_comm (2 ^ t) (y / 2 ^ t), Nat.mul_assoc, h1]
  have h5 : x / 2 ^ t < 2 ^ (32 - t) := by
    rw [Nat.div_lt_iff_lt_mul (pw_pos _), Nat.mul_comm, h1]; exact hx
  have h6 : x / 2 ^ t + y % 2 ^ t * 2 ^ (32 - t) < 4294967296 := by
    have h7 := Nat.mul_le_mul_right (2 ^ (32 - t)) (show y % 2 ^ t + 1 ≤ 2 ^ t from Nat.mod_lt _ (pw_pos _))
    rw [Nat.add_mul, Nat.one_mul, h1] at h7
    omega
  have h8 : (x / 2 ^ t + y * 2 ^ (32 - t)) % 4294967296 = x / 2 ^ t + y % 2 ^ t * 2 ^ (32 - t) := by
    rw [h4]
    generalize x / 2 ^ t = A at h6
    generalize y % 2 ^ t * 2 ^ (32 - t) = C at h6
    generalize y / 2 ^ t = F
    omega
  rw [h8, Nat.mul_add, Nat.mul_left_comm, h1]
  omega
theorem val_eD {n : Nat} {d : Nat → Nat} {t : Nat} (hd : ∀ j, d j < 4294967296) (ht : t ≤ 32) : ∀ k, 2 ^ t * val (eD n d t) k + dzf n d 0 % 2 ^ t = val (dzf n d) k + dzf n d k % 2 ^ t * 4294967296 ^ k
  | 0 => by
    show 2 ^ t * 0 + _ = 0 + _ * 1
    omega
  | k + 1 => by
    have ih := val_eD (n := n) hd ht k
    rw [val_s, val_s, Bs, Nat.mul_add]
    have h1 := sD_one (y := dzf n d (k + 1)) ht (dzf_lt (n := n) hd k)
    have h2 := congrArg (fun z => z * 4294967296 ^ k) h1
    simp only [Nat.add_mul, Nat.mul_assoc] at h2
    show _ + 2 ^ t * ((dzf n d k / 2 ^ t + dzf n d (k + 1) * 2 ^ (32 - t)) % 4294967296 * 4294967296 ^ k) + _ = _
    omega
theorem d_Na_shiftDown_0 : decode b_Na_shiftDown 0 = .ok (.iload_n 1, 1) := by decide +kernel
theorem d_Na_shiftDown_1 : decode b_Na_shiftDown 1 = .ok (.ifCond .le 9, 3) := by decide +kernel
theorem d_Na_shiftDown_4 : decode b_Na_shiftDown 4 = .ok (.iload_n 1, 1) := by decide +kernel
theorem d_Na_shiftDown_5 : decode b_Na_shiftDown 5 = .ok (.bipush 32, 2) := by decide +kernel
theorem d_Na_shiftDown_7 : decode b_Na_shiftDown 7 = .ok (.if_icmp .lt 4, 3) := by decide +kernel
theorem d_Na_shiftDown_10 : decode b_Na_shiftDown 10 = .ok (.return_, 1) := by decide +kernel
theorem d_Na_shiftDown_11 : decode b_Na_shiftDown 11 = .ok (.iconst 0, 1) := by decide +kernel
theorem d_Na_shiftDown_12 : decode b_Na_shiftDown 12 = .ok (.istore_n 2, 1) := by decide +kernel
theorem d_Na_shiftDown_13 : decode b_Na_shiftDown 13 = .ok (.iload_n 2, 1) := by decide +kernel
theorem d_Na_shiftDown_14 : decode b_Na_shiftDown 14 = .ok (.aload_n 0, 1) := by decide +kernel
theorem d_Na_shiftDown_15 : decode b_Na_shiftDown 15 = .ok (.getfield 13, 3) := by decide +kernel
theorem d_Na_shiftDown_18 : decode b_Na_shiftDown 18 = .ok (.if_icmp .ge 40, 3) := by decide +kernel
theorem d_Na_shiftDown_21 : decode b_Na_shiftDown 21 = .ok (.aload_n 0, 1) := by decide +kernel
theorem d_Na_shiftDown_22 : decode b_Na_shiftDown 22 = .ok (.iload_n 2, 1) := by decide +kernel
theorem d_Na_shiftDown_23 : decode b_Na_shiftDown 23 = .ok (.invokevirtual 26, 3) := by decide +kernel
theorem d_Na_shiftDown_26 : decode b_Na_shiftDown 26 = .ok (.iload_n 1, 1) := by decide +kernel
theorem d_Na_shiftDown_27 : decode b_Na_shiftDown 27 = .ok (.lushr, 1) := by decide +kernel
theorem d_Na_shiftDown_28 : decode b_Na_shiftDown 28 = .ok (.aload_n 0, 1) := by decide +kernel
theorem d_Na_shiftDown_29 : decode b_Na_shiftDown 29 = .ok (.iload_n 2, 1) := by decide +kernel
theorem d_Na_shiftDown_30 : decode b_Na_shiftDown 30 = .ok (.iconst 1, 1) := by decide +kernel
theorem d_Na_shiftDown_31 : decode b_Na_shiftDown 31 = .ok (.iadd, 1) := by decide +kernel
theorem d_Na_shiftDown_32 : decode b_Na_shiftDown 32 = .ok (.invokevirtual 26, 3) := by decide +kernel
theorem d_Na_shiftDown_35 : decode b_Na_shiftDown 35 = .ok (.bipush 32, 2) := by decide +kernel
theorem d_Na_shiftDown_37 : decode b_Na_shiftDown 37 = .ok (.iload_n 1, 1) := by decide +kernel
theorem d_Na_shiftDown_38 : decode b_Na_shiftDown 38 = .ok (.isub, 1) := by decide +kernel
theorem d_Na_shiftDown_39 : decode b_Na_shiftDown 39 = .ok (.lshl, 1) := by decide +kernel
theorem d_Na_shiftDown_40 : decode b_Na_shiftDown 40 = .ok (.lor, 1) := by decide +kernel
theorem d_Na_shiftDown_41 : decode b_Na_shiftDown 41 = .ok (.lstore_n 3, 1) := by decide +kernel
theorem d_Na_shiftDown_42 : decode b_Na_shiftDown 42 = .ok (.aload_n 0, 1) := by decide +kernel
theorem d_Na_shiftDown_43 : decode b_Na_shiftDown 43 = .ok (.iload_n 2, 1) := by decide +kernel
theorem d_Na_shiftDown_44 : decode b_Na_shiftDown 44 = .ok (.lload_n 3, 1) := by decide +kernel
theorem d_Na_shiftDown_45 : decode b_Na_shiftDown 45 = .ok (.ldc2_w 41, 3) := by decide +kernel
theorem d_Na_shiftDown_48 : decode b_Na_shiftDown 48 = .ok (.land, 1) := by decide +kernel
theorem d_Na_shiftDown_49 : decode b_Na_shiftDown 49 = .ok (.invokevirtual 30, 3) := by decide +kernel
theorem d_Na_shiftDown_52 : decode b_Na_shiftDown 52 = .ok (.iinc 2 1, 3) := by decide +kernel
theorem d_Na_shiftDown_55 : decode b_Na_shiftDown 55 = .ok (.goto (-42), 3) := by decide +kernel
theorem d_Na_shiftDown_58 : decode b_Na_shiftDown 58 = .ok (.aload_n 0, 1) := by decide +kernel
theorem d_Na_shiftDown_59 : decode b_Na_shiftDown 59 = .ok (.invokevirtual 43, 3) := by decide +kernel
theorem d_Na_shiftDown_62 : decode b_Na_shiftDown 62 = .ok (.return_, 1) := by decide +kernel
theorem d_Na_countBits_0 : decode b_Na_countBits 0 = .ok (.aload_n 0, 1) := by decide +kernel
theorem d_Na_countBits_1 : decode b_Na_countBits 1 = .ok (.getfield 13, 3) := by decide +kernel
theorem d_Na_countBits_4 : decode b_Na_countBits 4 = .ok (.ifCond .ne 7, 3) := by decide +kernel
theorem d_Na_countBits_7 : decode b_Na_countBits 7 = .ok (.iconst 0, 1) := by decide +kernel
theorem d_Na_countBits_8 : decode b_Na_countBits 8 = .ok (.goto 26, 3) := by decide +kernel
theorem d_Na_countBits_11 : decode b_Na_countBits 11 = .ok (.aload_n 0, 1) := by decide +kernel
theorem d_Na_countBits_12 : decode b_Na_countBits 12 = .ok (.getfield 13, 3) := by decide +kernel
theorem d_Na_countBits_15 : decode b_Na_countBits 15 = .ok (.iconst 1, 1) := by decide +kernel
theorem d_Na_countBits_16 : decode b_Na_countBits 16 = .ok (.isub, 1) := by decide +kernel
theorem d_Na_countBits_17 : decode b_Na_countBits 17 = .ok (.bipush 32, 2) := by decide +kernel
theorem d_Na_countBits_19 : decode b_Na_countBits 19 = .ok (.imul, 1) := by decide +kernel
theorem d_Na_countBits_20 : decode b_Na_countBits 20 = .ok (.aload_n 0, 1) := by decide +kernel
theorem d_Na_countBits_21 : decode b_Na_countBits 21 = .ok (.aload_n 0, 1) := by decide +kernel
theorem d_Na_countBits_22 : decode b_Na_countBits 22 = .ok (.getfield 13, 3) := by decide +kernel
theorem d_Na_countBits_25 : decode b_Na_countBits 25 = .ok (.iconst 1, 1) := by decide +kernel
theorem d_Na_countBits_26 : decode b_Na_countBits 26 = .ok (.isub, 1) := by decide +kernel
theorem d_Na_countBits_27 : decode b_Na_countBits 27 = .ok (.invokevirtual 26, 3) := by decide +kernel
theorem d_Na_countBits_30 : decode b_Na_countBits 30 = .ok (.invokestatic 46, 3) := by decide +kernel
theorem d_Na_countBits_33 : decode b_Na_countBits 33 = .ok (.iadd, 1) := by decide +kernel
theorem d_Na_countBits_34 : decode b_Na_countBits 34 = .ok (.ireturn, 1) := by decide +kernel
theorem d_Na_countLimbBits_0 : decode b_Na_countLimbBits 0 = .ok (.lload_n 0, 1) := by decide +kernel
theorem d_Na_countLimbBits_1 : decode b_Na_countLimbBits 1 = .ok (.lconst 0, 1) := by decide +kernel
theorem d_Na_countLimbBits_2 : decode b_Na_countLimbBits 2 = .ok (.lcmp, 1) := by decide +kernel
theorem d_Na_countLimbBits_3 : decode b_Na_countLimbBits 3 = .ok (.ifCond .ne 7, 3) := by decide +kernel
theorem d_Na_countLimbBits_6 : decode b_Na_countLimbBits 6 = .ok (.iconst 0, 1) := by decide +kernel
theorem d_Na_countLimbBits_7 : decode b_Na_countLimbBits 7 = .ok (.goto 4, 3) := by decide +kernel
theorem d_Na_countLimbBits_10 : decode b_Na_countLimbBits 10 = .ok (.iconst 1, 1) := by decide +kernel
theorem d_Na_countLimbBits_11 : decode b_Na_countLimbBits 11 = .ok (.istore_n 2, 1) := by decide +kernel
theorem d_Na_countLimbBits_12 : decode b_Na_countLimbBits 12 = .ok (.bipush 16, 2) := by decide +kernel
theorem d_Na_countLimbBits_14 : decode b_Na_countLimbBits 14 = .ok (.istore_n 3, 1) := by decide +kernel
theorem d_Na_countLimbBits_15 : decode b_Na_countLimbBits 15 = .ok (.iload_n 3, 1) := by decide +kernel
theorem d_Na_countLimbBits_16 : decode b_Na_countLimbBits 16 = .ok (.ifCond .le 26, 3) := by decide +kernel
theorem d_Na_countLimbBits_19 : decode b_Na_countLimbBits 19 = .ok (.lload_n 0, 1) := by decide +kernel
theorem d_Na_countLimbBits_20 : decode b_Na_countLimbBits 20 = .ok (.iload_n 2, 1) := by decide +kernel
theorem d_Na_countLimbBits_21 : decode b_Na_countLimbBits 21 = .ok (.iconst 1, 1) := by decide +kernel
theorem d_Na_countLimbBits_22 : decode b_Na_countLimbBits 22 = .ok (.isub, 1) := by decide +kernel
theorem d_Na_countLimbBits_23 : decode b_Na_countLimbBits 23 = .ok (.iload_n 3, 1) := by decide +kernel
theorem d_Na_countLimbBits_24 : decode b_Na_countLimbBits 24 = .ok (.iadd, 1) := by decide +kernel
theorem d_Na_countLimbBits_25 : decode b_Na_countLimbBits 25 = .ok (.lushr, 1) := by decide +kernel
theorem d_Na_countLimbBits_26 : decode b_Na_countLimbBits 26 = .ok (.lconst 0, 1) := by decide +kernel
theorem d_Na_countLimbBits_27 : decode b_Na_countLimbBits 27 = .ok (.lcmp, 1) := by decide +kernel
theorem d_Na_countLimbBits_28 : decode b_Na_countLimbBits 28 = .ok (.ifCond .eq 7, 3) := by decide +kernel
theorem d_Na_countLimbBits_31 : decode b_Na_countLimbBits 31 = .ok (.iload_n 2, 1) := by decide +kernel
theorem d_Na_countLimbBits_32 : decode b_Na_countLimbBits 32 = .ok (.iload_n 3, 1) := by decide +kernel
theorem d_Na_countLimbBits_33 : decode b_Na_countLimbBits 33 = .ok (.iadd, 1) := by decide +kernel
theorem d_Na_countLimbBits_34 : decode b_Na_countLimbBits 34 = .ok (.istore_n 2, 1) := by decide +kernel
theorem d_Na_countLimbBits_35 : decode b_Na_countLimbBits 35 = .ok (.iload_n 3, 1) := by decide +kernel
theorem d_Na_countLimbBits_36 : decode b_Na_countLimbBits 36 = .ok (.iconst 2, 1) := by decide +kernel
theorem d_Na_countLimbBits_37 : decode b_Na_countLimbBits 37 = .ok (.idiv, 1) := by decide +kernel
theorem d_Na_countLimbBits_38 : decode b_Na_countLimbBits 38 = .ok (.istore_n 3, 1) := by decide +kernel
theorem d_Na_countLimbBits_39 : decode b_Na_countLimbBits 39 = .ok (.goto (-24), 3) := by decide +kernel
theorem d_Na_countLimbBits_42 : decode b_Na_countLimbBits 42 = .ok (.iload_n 2, 1) := by decide +kernel
theorem d_Na_countLimbBits_43 : decode b_Na_countLimbBits 43 = .ok (.ireturn, 1) := by decide +kernel
theorem d_Na_bitsFrom_0 : decode b_Na_bitsFrom 0 = .ok (.iload_n 1, 1) := by decide +kernel
theorem d_Na_bitsFrom_1 : decode b_Na_bitsFrom 1 = .ok (.ifCond .ge 5, 3) := by decide +kernel
theorem d_Na_bitsFrom_4 : decode b_Na_bitsFrom 4 = .ok (.lconst 0, 1) := by decide +kernel
theorem d_Na_bitsFrom_5 : decode b_Na_bitsFrom 5 = .ok (.lreturn, 1) := by decide +kernel
theorem d_Na_bitsFrom_6 : decode b_Na_bitsFrom 6 = .ok (.iload_n 1, 1) := by decide +kernel
theorem d_Na_bitsFrom_7 : decode b_Na_bitsFrom 7 = .ok (.bipush 32, 2) := by decide +kernel
theorem d_Na_bitsFrom_9 : decode b_Na_bitsFrom 9 = .ok (.idiv, 1) := by decide +kernel
theorem d_Na_bitsFrom_10 : decode b_Na_bitsFrom 10 = .ok (.istore_n 2, 1) := by decide +kernel
theorem d_Na_bitsFrom_11 : decode b_Na_bitsFrom 11 = .ok (.iload_n 1, 1) := by decide +kernel
theorem d_Na_bitsFrom_12 : decode b_Na_bitsFrom 12 = .ok (.bipush 32, 2) := by decide +kernel
theorem d_Na_bitsFrom_14 : decode b_Na_bitsFrom 14 = .ok (.irem, 1) := by decide +kernel
theorem d_Na_bitsFrom_15 : decode b_Na_bitsFrom 15 = .ok (.istore_n 3, 1) := by decide +kernel
theorem d_Na_bitsFrom_16 : decode b_Na_bitsFrom 16 = .ok (.aload_n 0, 1) := by decide +kernel
theorem d_Na_bitsFrom_17 : decode b_Na_bitsFrom 17 = .ok (.iload_n 2, 1) := by decide +kernel
theorem d_Na_bitsFrom_18 : decode b_Na_bitsFrom 18 = .ok (.invokevirtual 26, 3) := by decide +kernel
theorem d_Na_bitsFrom_21 : decode b_Na_bitsFrom 21 = .ok (.iload_n 3, 1) := by decide +kernel
theorem d_Na_bitsFrom_22 : decode b_Na_bitsFrom 22 = .ok (.lushr, 1) := by decide +kernel
theorem d_Na_bitsFrom_23 : decode b_Na_bitsFrom 23 = .ok (.aload_n 0, 1) := by decide +kernel
theorem d_Na_bitsFrom_24 : decode b_Na_bitsFrom 24 = .ok (.iload_n 2, 1) := by decide +kernel
theorem d_Na_bitsFrom_25 : decode b_Na_bitsFrom 25 = .ok (.iconst 1, 1) := by decide +kernel
theorem d_Na_bitsFrom_26 : decode b_Na_bitsFrom 26 = .ok (.iadd, 1) := by decide +kernel
theorem d_Na_bitsFrom_27 : decode b_Na_bitsFrom 27 = .ok (.invokevirtual 26, 3) := by decide +kernel
theorem d_Na_bitsFrom_30 : decode b_Na_bitsFrom 30 = .ok (.bipush 32, 2) := by decide +kernel
theorem d_Na_bitsFrom_32 : decode b_Na_bitsFrom 32 = .ok (.iload_n 3, 1) := by decide +kernel
theorem d_Na_bitsFrom_33 : decode b_Na_bitsFrom 33 = .ok (.isub, 1) := by decide +kernel
theorem d_Na_bitsFrom_34 : decode b_Na_bitsFrom 34 = .ok (.lshl, 1) := by decide +kernel
theorem d_Na_bitsFrom_35 : decode b_Na_bitsFrom 35 = .ok (.lor, 1) := by decide +kernel
theorem d_Na_bitsFrom_36 : decode b_Na_bitsFrom 36 = .ok (.ldc2_w 41, 3) := by decide +kernel
theorem d_Na_bitsFrom_39 : decode b_Na_bitsFrom 39 = .ok (.land, 1) := by decide +kernel
theorem d_Na_bitsFrom_40 : decode b_Na_bitsFrom 40 = .ok (.lreturn, 1) := by decide +kernel
theorem c_Na_shiftDown (l : Launch) {g : Gh} (nx : Nat) {a N v : Nat} (ha : NA g a N v) (t : Nat) (ht : t < 32) : Ct l m_Na_shiftDown 0 0 [.ref a, .int (nI t)] g nx (pNA g a N (v / 2 ^ t) nx) := by
  obtain ⟨n, d, ha, hav, han⟩ := ha
  obtain ⟨a1, a2, a3, a4, a5⟩ := id ha
  refine Ct.of (by decide) (Nat.le_of_ble_eq_true rfl) (fun E hE hQ => ?_)
  refine z_iload_n hE d_Na_shiftDown_0 rfl ?_
  refine z_if_le (tgt := 10) hE d_Na_shiftDown_1 (by decide) (fun c_1 => ?_) (fun c_1 => ?_)
  · have ht0 : t = 0 := by
      have := (nI_LE (b := 0) (by omega) (by omega)).mp c_1
      omega
    subst ht0
    refine z_vret hE hQ d_Na_shiftDown_10 rfl (Nat.le_refl _) (Nat.le_refl _) ⟨rfl, rfl, ?_, gO_r⟩
    rw [Nat.pow_zero, Nat.div_one]
    exact ⟨n, d, ha, hav, han⟩
  · have ht0 : 0 < t := by
      have := mt (nI_LE (a := t) (b := 0) (by omega) (by omega)).mpr c_1
      omega
    refine z_iload_n hE d_Na_shiftDown_4 rfl ?_
    refine z_bipush (v := nI 32) hE d_Na_shiftDown_5 (by decide) ?_
    refine z_icmp_lt (tgt := 11) hE d_Na_shiftDown_7 (by decide) (fun c_7 => ?_) (fun c_7 => ?_)
    · refine z_iconst (v := nI 0) hE d_Na_shiftDown_11 (by decide) ?_
      refine z_istore_n hE d_Na_shiftDown_12 rfl (by decide) ?_
      have loop : ∀ (u i : Nat) (d' : Nat → Nat), i + u = n → (∀ j, d' j < 4294967296) → (∀ j, i ≤ j → d' j = d j) → (∀ j, j < i → d' j = eD n d t j) → ∀ lv, lG lv 0 = some (.ref a) → lG lv 1 = some (.int (nI t)) → lG lv 2 = some (.int (nI i)) → zJ E (gN g a N n d') nx 0 0 13 lv [] := by
        intro u
        induction u with
        | zero =>
          intro i d' hi hd' hk he lv l0 l1 l2
          refine z_sub (lv' := [(0, .ref a), (2, .int (nI i))]) (by simp only [List.map, l0, l2]) ?_
          have hR : RN (gN g a N n d') a N n d' := RN_gN (by omega) (by omega) hd'
          obtain ⟨q1, q2, -⟩ := id hR
          refine z_iload_n hE d_Na_shiftDown_13 rfl ?_
          refine z_aload_n hE d_Na_shiftDown_14 rfl ?_
          refine z_get hE d_Na_shiftDown_15 fl_Na_13 (by assumption) rfl ?_
          refine z_icmp_ge (tgt := 58) hE d_Na_shiftDown_18 (by decide) (fun c_18 => ?_) (fun c_18 => ?_)
          · refine z_aload_n hE d_Na_shiftDown_58 rfl ?_
            refine z_callV hE d_Na_shiftDown_59 cl_Na_43 (c_Na_trim l nx hR) (by assumption) cb_Na rfl (Nat.le_of_ble_eq_true rfl) ⟨by decide, by decide⟩ ⟨by omega, by omega⟩ (fun r_59 g_59 nx_59 hp_59 => ?_) rfl
            obtain ⟨rfl, rfl, rfl⟩ := hp_59
            try dsimp only [Option.toList, List.nil_append, List.cons_append]
            rw [gN_gN]
            refine z_vret hE hQ d_Na_shiftDown_62 rfl (Nat.le_refl _) (Nat.le_refl _) ⟨rfl, rfl, ?_, gO_N⟩
            have hn2 := NA_trim (g := g) (a := a) (N := N) (n := n) (by omega) (by omega) hd'
            have e1 : val d' n = v / 2 ^ t := by
              rw [val_ext n (fun j hj => he j (by omega))]
              have h1 := val_eD (n := n) a5 (show t ≤ 32 by omega) n
              rw [dzf_out (Nat.le_refl _), Nat.zero_mod, Nat.zero_mul, Nat.add_zero, val_dzf (Nat.le_refl _), hav] at h1
              rw [← h1, Nat.mul_add_div (pw_pos _), Nat.div_eq_of_lt (Nat.mod_lt _ (pw_pos _)), Nat.add_zero]
            rw [e1] at hn2
            exact hn2
          · exact absurd ((nI_LE (by omega) (by omega)).mpr (by omega)) c_18
        | succ u ih =>
          intro i d' hi hd' hk he lv l0 l1 l2
          refine z_sub (lv' := [(0, .ref a), (1, .int (nI t)), (2, .int (nI i))]) (by simp only [List.map, l0, l1, l2]) ?_
          have hR : RN (gN g a N n d') a N n d' := RN_gN (by omega) (by omega) hd'
          obtain ⟨q1, q2, -⟩ := id hR
          have hz : ∀ j, i ≤ j → dzf n d' j = dzf n d j := by
            intro j hj
            by_cases h : j < n
            · rw [dzf_in h, dzf_in h, hk j hj]
            · rw [dzf_out (by omega), dzf_out (by omega)]
          have m1 := dzf_lt (n := n) a5 i
          have m2 := dzf_lt (n := n) a5 (i + 1)
          refine z_iload_n hE d_Na_shiftDown_13 rfl ?_
          refine z_aload_n hE d_Na_shiftDown_14 rfl ?_
          refine z_get hE d_Na_shiftDown_15 fl_Na_13 (by assumption) rfl ?_
          refine z_icmp_ge (tgt := 58) hE d_Na_shiftDown_18 (by decide) (fun c_18 => ?_) (fun c_18 => ?_)
          · exact absurd ((nI_LE (by omega) (by omega)).mp c_18) (by omega)
          · refine z_aload_n hE d_Na_shiftDown_21 rfl ?_
            refine z_iload_n hE d_Na_shiftDown_22 rfl ?_
            refine z_callV hE d_Na_shiftDown_23 cl_Na_26 (c_Na_at l nx hR (nI i)) (by assumption) cb_Na rfl (Nat.le_of_ble_eq_true rfl) ⟨by decide, by decide⟩ ⟨by omega, by omega⟩ (fun r_23 g_23 nx_23 hp_23 => ?_) rfl
            obtain ⟨rfl, rfl, rfl⟩ := hp_23
            try dsimp only [Option.toList, List.nil_append, List.cons_append]
            rw [dz_n (by omega), hz i (Nat.le_refl _)]
            generalize hX : dzf n d i = X at m1
            refine z_iload_n hE d_Na_shiftDown_26 rfl ?_
            refine z_lushr (v := lN (X / 2 ^ t)) hE d_Na_shiftDown_27 (wb_shr (show X < 2 ^ 64 by omega) (by omega)) ?_
            refine z_aload_n hE d_Na_shiftDown_28 rfl ?_
            refine z_iload_n hE d_Na_shiftDown_29 rfl ?_
            refine z_iconst (v := 1) hE d_Na_shiftDown_30 (by decide) ?_
            refine z_iadd (v := nI (i + 1)) hE d_Na_shiftDown_31 (nI_1 i) ?_
            refine z_callV hE d_Na_shiftDown_32 cl_Na_26 (c_Na_at l nx hR (nI (i + 1))) (by assumption) cb_Na rfl (Nat.le_of_ble_eq_true rfl) ⟨by decide, by decide⟩ ⟨by omega, by omega⟩ (fun r_32 g_32 nx_32 hp_32 => ?_) rfl
            obtain ⟨rfl, rfl, rfl⟩ := hp_32
            try dsimp only [Option.toList, List.nil_append, List.cons_append]
            rw [dz_n (by omega), hz (i + 1) (by omega)]
            generalize hY : dzf n d (i + 1) = Y at m2
            refine z_bipush (v := nI 32) hE d_Na_shiftDown_35 (by decide) ?_
            refine z_iload_n hE d_Na_shiftDown_37 rfl ?_
            refine z_isub (v := nI (32 - t)) hE d_Na_shiftDown_38 (pk_sub (by omega)) ?_
            refine z_lshl (v := lN (Y * 2 ^ (32 - t))) hE d_Na_shiftDown_39 (wb_shl Y (by omega)) ?_
            have m3 : X / 2 ^ t < 2 ^ (32 - t) := by
              rw [Nat.div_lt_iff_lt_mul (pw_pos _), Nat.mul_comm, pw_lr (by omega)]; exact m1
            have m4 := mul_pw_lt (s := 32 - t) (by omega) m2
            have m5 : 2 ^ (32 - t) ≤ 2 ^ 31 := Nat.pow_le_pow_right (by decide) (by omega)
            refine z_lor (v := lN (X / 2 ^ t + Y * 2 ^ (32 - t))) hE d_Na_shiftDown_40 (g_or' (k := 32 - t) rfl m3 (show _ < 18446744073709551616 by omega)) ?_
            refine z_lstore_n hE d_Na_shiftDown_41 rfl (by decide) ?_
            refine z_aload_n hE d_Na_shiftDown_42 rfl ?_
            refine z_iload_n hE d_Na_shiftDown_43 rfl ?_
            refine z_lload_n hE d_Na_shiftDown_44 rfl ?_
            refine z_ldc2 hE d_Na_shiftDown_45 cn_Na_41 ?_
            refine z_land (v := lN ((X / 2 ^ t + Y * 2 ^ (32 - t)) % 4294967296)) hE d_Na_shiftDown_48 (l_mask (by omega)) ?_
            refine z_callV hE d_Na_shiftDown_49 cl_Na_30 (c_Na_store l nx hR (k := i) (by omega) ((X / 2 ^ t + Y * 2 ^ (32 - t)) % 4294967296)) (by assumption) cb_Na rfl (Nat.le_of_ble_eq_true rfl) ⟨by decide, by decide⟩ ⟨by omega, by omega⟩ (fun r_49 g_49 nx_49 hp_49 => ?_) rfl
            obtain ⟨rfl, rfl, rfl⟩ := hp_49
            try dsimp only [Option.toList, List.nil_append, List.cons_append]
            rw [gN_gN]
            refine z_iinc (v := nI (i + 1)) hE d_Na_shiftDown_52 rfl (nI_1 i) (by decide) ?_
            refine z_goto (tgt := 13) hE d_Na_shiftDown_55 (by decide) ?_
            refine ih (i + 1) _ (by omega) (upN_lt hd' (Nat.mod_lt _ (by decide))) (fun j hj => ?_) (fun j hj => ?_) _ rfl rfl rfl
            · rw [upN_n (by omega)]; exact hk j (by omega)
            · by_cases hji : j = i
              · subst hji
                rw [upN_s]
                unfold eD
                rw [hX, hY]
              · rw [upN_n hji]; exact he j (by omega)
      exact z_g (gN_id ha).symm (loop n 0 d (by omega) a5 (fun _ _ => rfl) (fun j hj => by omega) _ rfl rfl rfl)
    · exact absurd ((nI_LT (by omega) (by omega)).mpr ht) c_7
/-- how many bits a number takes -/
def bl (v : Nat) : Nat := if v = 0 then 0 else Nat.log2 v + 1
theorem bl_0 : bl 0 = 0 := rfl
theorem bl_of {v b : Nat} (h1 : 2 ^ b ≤ v) (h2 : v < 2 ^ (b + 1)) : bl v = b + 1 := by
  have h0 : v ≠ 0 := by have := pw_pos b; omega
  unfold bl
  rw [if_neg h0]
  have h3 := (Nat.le_log2 h0).mpr h1
  have h4 := (Nat.log2_lt h0).mpr h2
  omega
theorem bl_lt (v : Nat) : v < 2 ^ bl v := by
  unfold bl
  split
  · rename_i h
    rw [h]; decide
  · rename_i h
    exact (Nat.log2_lt h).mp (Nat.lt_succ_self _)
theorem bl_le {v : Nat} (h : v ≠ 0) : 2 ^ (bl v - 1) ≤ v := by
  unfold bl
  rw [if_neg h]
  exact (Nat.le_log2 h).mp (Nat.le_refl _)
theorem bl_iff {v k : Nat} : bl v ≤ k ↔ v < 2 ^ k := by
  unfold bl
  split
  · rename_i h
    rw [h]
    exact ⟨fun _ => pw_pos k, fun _ => Nat.zero_le _⟩
  · rename_i h
    exact (Nat.log2_lt h)
theorem cnt_sh {b h : Nat} (hb : 1 ≤ b + h) : nI b - nI 1 + nI h = nI (b + h - 1) := by
  rw [Int32.sub_eq_add_neg, Int32.add_assoc, Int32.add_comm (-nI 1), ← Int32.add_assoc, ← Int32.sub_eq_add_neg, nI_add, pk_sub hb]
theorem c_Na_countLimbBits (l : Launch) (g : Gh) (nx x : Nat) (hx : x < 4294967296) : Ct l m_Na_countLimbBits 0 0 [.long (lN x)] g nx (pP (some (.int (nI (bl x)))) g nx) := by
  refine Ct.of (by decide) (Nat.le_of_ble_eq_true rfl) (fun E hE hQ => ?_)
  have loop : ∀ (q b : Nat), q ≤ 5 → b + 2 ^ q ≤ 33 → (x = 0 ∧ b = 0) ∨ (1 ≤ b ∧ 2 ^ (b - 1) ≤ x ∧ x < 2 ^ (b - 1 + 2 ^ q)) → ∀ lv, lG lv 0 = some (.long (lN x)) → lG lv 2 = some (.int (nI b)) → lG lv 3 = some (.int (nI (2 ^ q / 2))) → zJ E g nx 0 0 15 lv [] := by
    intro q
    induction q with
    | zero =>
      intro b hq hb hv lv l0 l2 l3
      refine z_sub (lv' := [(0, .long (lN x)), (2, .int (nI b)), (3, .int (nI 0))]) (by simp only [List.map, l0, l2, l3]) ?_
      refine z_iload_n hE d_Na_countLimbBits_15 rfl ?_
      refine z_if_le (tgt := 42) hE d_Na_countLimbBits_16 (by decide) (fun c_16 => ?_) (fun c_16 => ?_)
      · refine z_iload_n hE d_Na_countLimbBits_42 rfl ?_
        refine z_iret hE hQ d_Na_countLimbBits_43 rfl (Nat.le_refl _) (Nat.le_refl _) ⟨?_, rfl, rfl⟩
        rcases hv with ⟨h1, h2⟩ | ⟨h1, h2, h3⟩
        · rw [h1, h2]; rfl
        · have h4 := bl_of h2 h3
          rw [h4, show b - 1 + 1 = b by omega]
      · exact absurd (show nI 0 ≤ 0 by decide) c_16
    | succ q ih =>
      intro b hq hb hv lv l0 l2 l3
      have e1 : 2 ^ (q + 1) = 2 * 2 ^ q := by rw [Nat.pow_succ, Nat.mul_comm]
      have e2 : 2 ^ (q + 1) / 2 = 2 ^ q := by rw [e1, Nat.mul_div_cancel_left _ (by decide)]
      have e3 := pw_pos q
      generalize hP : 2 ^ q = P at e1 e2 e3
      have e4 : P ≤ 16 := by
        have := Nat.pow_le_pow_right (n := 2) (by decide) (show q ≤ 4 by omega)
        rw [hP] at this
        exact this
      rw [e2] at l3
      rw [e1] at hb hv
      refine z_sub (lv' := [(0, .long (lN x)), (2, .int (nI b)), (3, .int (nI P))]) (by simp only [List.map, l0, l2, l3]) ?_
      refine z_iload_n hE d_Na_countLimbBits_15 rfl ?_
      refine z_if_le (tgt := 42) hE d_Na_countLimbBits_16 (by decide) (fun c_16 => ?_) (fun c_16 => ?_)
      · exact absurd ((nI_LE (b := 0) (by omega) (by omega)).mp c_16) (by omega)
      · refine z_lload_n hE d_Na_countLimbBits_19 rfl ?_
        refine z_iload_n hE d_Na_countLimbBits_20 rfl ?_
        refine z_iconst (v := nI 1) hE d_Na_countLimbBits_21 (by decide) ?_
        refine z_isub hE d_Na_countLimbBits_22 (rfl) ?_
        refine z_iload_n hE d_Na_countLimbBits_23 rfl ?_
        refine z_iadd (v := nI (b + P - 1)) hE d_Na_countLimbBits_24 (cnt_sh (by omega)) ?_
        refine z_lushr (v := lN (x / 2 ^ (b + P - 1))) hE d_Na_countLimbBits_25 (wb_shr (show x < 2 ^ 64 by omega) (by omega)) ?_
        have m1 : x / 2 ^ (b + P - 1) ≤ x := Nat.div_le_self _ _
        refine z_lconst (v := lN 0) hE d_Na_countLimbBits_26 (by decide) ?_
        refine z_lcmp hE d_Na_countLimbBits_27 ?_
        refine z_if_eq (tgt := 35) hE d_Na_countLimbBits_28 (by decide) (fun c_28 => ?_) (fun c_28 => ?_)
        · rw [lg_cmp_eq, pk_lEQ (by omega) (by omega), Nat.div_eq_zero_iff_lt (pw_pos _)] at c_28
          refine z_iload_n hE d_Na_countLimbBits_35 rfl ?_
          refine z_iconst (v := nI 2) hE d_Na_countLimbBits_36 (by decide) ?_
          refine z_idiv (v := nI (P / 2)) hE d_Na_countLimbBits_37 (by decide) (pk_div (by omega) (by omega) (by omega)) ?_
          refine z_istore_n hE d_Na_countLimbBits_38 rfl (by decide) ?_
          refine z_goto (tgt := 15) hE d_Na_countLimbBits_39 (by decide) ?_
          refine ih b (by omega) (by omega) ?_ _ rfl rfl (by rw [hP]; rfl)
          rcases hv with h | ⟨h1, h2, h3⟩
          · exact Or.inl h
          · exact Or.inr ⟨h1, h2, by rw [hP, show b - 1 + P = b + P - 1 by omega]; exact c_28⟩
        · rw [lg_cmp_eq, pk_lEQ (by omega) (by omega), Nat.div_eq_zero_iff_lt (pw_pos _)] at c_28
          refine z_iload_n hE d_Na_countLimbBits_31 rfl ?_
          refine z_iload_n hE d_Na_countLimbBits_32 rfl ?_
          refine z_iadd (v := nI (b + P)) hE d_Na_countLimbBits_33 (nI_add _ _) ?_
          refine z_istore_n hE d_Na_countLimbBits_34 rfl (by decide) ?_
          refine z_iload_n hE d_Na_countLimbBits_35 rfl ?_
          refine z_iconst (v := nI 2) hE d_Na_countLimbBits_36 (by decide) ?_
          refine z_idiv (v := nI (P / 2)) hE d_Na_countLimbBits_37 (by decide) (pk_div (by omega) (by omega) (by omega)) ?_
          refine z_istore_n hE d_Na_countLimbBits_38 rfl (by decide) ?_
          refine z_goto (tgt := 15) hE d_Na_countLimbBits_39 (by decide) ?_
          rcases hv with ⟨h1, h2⟩ | ⟨h1, h2, h3⟩
          · exact absurd (by rw [h1]; exact pw_pos _) c_28
          · refine ih (b + P) (by omega) (by omega) (Or.inr ⟨by omega, by omega, ?_⟩) _ rfl rfl (by rw [hP]; rfl)
            rw [hP, show b + P - 1 + P = b - 1 + 2 * P by omega]
            exact h3
  refine z_lload_n hE d_Na_countLimbBits_0 rfl ?_
  refine z_lconst (v := lN 0) hE d_Na_countLimbBits_1 (by decide) ?_
  refine z_lcmp hE d_Na_countLimbBits_2 ?_
  refine z_if_ne (tgt := 10) hE d_Na_countLimbBits_3 (by decide) (fun c_3 => ?_) (fun c_3 => ?_)
  · rw [lg_cmp_eq, pk_lEQ (by omega) (by omega)] at c_3
    refine z_iconst (v := nI 1) hE d_Na_countLimbBits_10 (by decide) ?_
    refine z_istore_n hE d_Na_countLimbBits_11 rfl (by decide) ?_
    refine z_bipush (v := nI 16) hE d_Na_countLimbBits_12 (by decide) ?_
    refine z_istore_n hE d_Na_countLimbBits_14 rfl (by decide) ?_
    exact loop 5 1 (by omega) (by decide) (Or.inr ⟨by omega, by show 1 ≤ x; omega, hx⟩) _ rfl rfl rfl
  · rw [lg_cmp_eq, pk_lEQ (by omega) (by omega)] at c_3
    refine z_iconst (v := nI 0) hE d_Na_countLimbBits_6 (by decide) ?_
    refine z_goto (tgt := 11) hE d_Na_countLimbBits_7 (by decide) ?_
    refine z_istore_n hE d_Na_countLimbBits_11 rfl (by decide) ?_
    refine z_bipush (v := nI 16) hE d_Na_countLimbBits_12 (by decide) ?_
    refine z_istore_n hE d_Na_countLimbBits_14 rfl (by decide) ?_
    exact loop 5 0 (by omega) (by decide) (Or.inl ⟨c_3, rfl⟩) _ rfl rfl rfl
theorem c_Na_countBits (l : Launch) {g : Gh} (nx : Nat) {a N v : Nat} (ha : NA g a N v) : Ct l m_Na_countBits 0 0 [.ref a] g nx (pP (some (.int (nI (bl v)))) g nx) := by
  obtain ⟨n, d, ha, hav, han⟩ := ha
  obtain ⟨a1, a2, a3, a4, a5⟩ := id ha
  refine Ct.of (by decide) (Nat.le_of_ble_eq_true rfl) (fun E hE hQ => ?_)
  refine z_aload_n hE d_Na_countBits_0 rfl ?_
  refine z_get hE d_Na_countBits_1 fl_Na_13 (by assumption) rfl ?_
  refine z_if_ne (tgt := 11) hE d_Na_countBits_4 (by decide) (fun c_4 => ?_) (fun c_4 => ?_)
  · have hn0 : n ≠ 0 := fun q => c_4 (by rw [q]; rfl)
    obtain ⟨k, rfl⟩ : ∃ k, n = k + 1 := ⟨n - 1, by omega⟩
    have hdk : d k ≠ 0 := by
      rcases han with q | q
      · omega
      · exact q
    refine z_aload_n hE d_Na_countBits_11 rfl ?_
    refine z_get hE d_Na_countBits_12 fl_Na_13 (by assumption) rfl ?_
    refine z_iconst (v := 1) hE d_Na_countBits_15 (by decide) ?_
    refine z_isub (v := nI k) hE d_Na_countBits_16 (nI_pred k) ?_
    refine z_bipush (v := nI 32) hE d_Na_countBits_17 (by decide) ?_
    refine z_imul (v := nI (k * 32)) hE d_Na_countBits_19 (pk_mul _ _) ?_
    refine z_aload_n hE d_Na_countBits_20 rfl ?_
    refine z_aload_n hE d_Na_countBits_21 rfl ?_
    refine z_get hE d_Na_countBits_22 fl_Na_13 (by assumption) rfl ?_
    refine z_iconst (v := 1) hE d_Na_countBits_25 (by decide) ?_
    refine z_isub (v := nI k) hE d_Na_countBits_26 (nI_pred k) ?_
    refine z_callV hE d_Na_countBits_27 cl_Na_26 (c_Na_at l nx ha (nI k)) (by assumption) cb_Na rfl (Nat.le_of_ble_eq_true rfl) ⟨by decide, by decide⟩ ⟨by omega, by omega⟩ (fun r_27 g_27 nx_27 hp_27 => ?_) rfl
    obtain ⟨rfl, rfl, rfl⟩ := hp_27
    try dsimp only [Option.toList, List.nil_append, List.cons_append]
    rw [dz_n (by omega), dzf_in (by omega)]
    refine z_callS hE d_Na_countBits_30 cl_Na_46 (c_Na_countLimbBits l g nx (d k) (a5 k)) rfl (Nat.le_of_ble_eq_true rfl) ⟨by decide, by decide⟩ ⟨by omega, by omega⟩ (fun r_30 g_30 nx_30 hp_30 => ?_) rfl
    obtain ⟨rfl, rfl, rfl⟩ := hp_30
    try dsimp only [Option.toList, List.nil_append, List.cons_append]
    refine z_iadd (v := nI (k * 32 + bl (d k))) hE d_Na_countBits_33 (nI_add _ _) ?_
    refine z_iret hE hQ d_Na_countBits_34 rfl (Nat.le_refl _) (Nat.le_refl _) ⟨?_, rfl, rfl⟩
    have h1 := bl_le hdk
    have h2 := bl_lt (d k)
    have h3 : 0 < bl (d k) := by
      rcases Nat.eq_zero_or_pos (bl (d k)) with q | q
      · rw [q] at h2
        omega
      · exact q
    have h4 := val_lt a5 k
    have h5 : 4294967296 ^ k = 2 ^ (k * 32) := by
      rw [show (4294967296 : Nat) = 2 ^ 32 from rfl, ← Nat.pow_mul, Nat.mul_comm]
    have h6 : bl v = (k * 32 + (bl (d k) - 1)) + 1 := by
      refine bl_of ?_ ?_
      · rw [← hav, val_s, Nat.pow_add, h5, Nat.mul_comm]
        have := Nat.mul_le_mul_right (2 ^ (k * 32)) h1
        omega
      · rw [← hav, val_s, show k * 32 + (bl (d k) - 1) + 1 = k * 32 + bl (d k) by omega, Nat.pow_add, h5]
        have := Nat.mul_le_mul_right (2 ^ (k * 32)) (show d k + 1 ≤ 2 ^ bl (d k) from h2)
        rw [Nat.add_mul, Nat.one_mul, Nat.mul_comm (2 ^ bl (d k))] at this
        rw [h5] at h4
        omega
    rw [h6]
    congr 3
    omega
  · have hn0 : n = 0 := (nI_EQ (b := 0) (by omega) (by omega)).mp c_4
    refine z_iconst (v := nI 0) hE d_Na_countBits_7 (by decide) ?_
    refine z_goto (tgt := 34) hE d_Na_countBits_8 (by decide) ?_
    refine z_iret hE hQ d_Na_countBits_34 rfl (Nat.le_refl _) (Nat.le_refl _) ⟨?_, rfl, rfl⟩
    rw [← hav, hn0]
    rfl
theorem bF_one {V t : Nat} (ht : t ≤ 32) : V / 2 ^ t % 4294967296 = (V % 4294967296 / 2 ^ t + V / 4294967296 % 4294967296 * 2 ^ (32 - t)) % 4294967296 := by
  have h1 := pw_lr ht
  have h2 : V = V % 4294967296 + 2 ^ t * (V / 4294967296 * 2 ^ (32 - t)) := by
    rw [Nat.mul_left_comm, h1]
    omega
  have h3 : V / 2 ^ t = V % 4294967296 / 2 ^ t + V / 4294967296 * 2 ^ (32 - t) := by
    have h4 : V / 2 ^ t = (V % 4294967296 + 2 ^ t * (V / 4294967296 * 2 ^ (32 - t))) / 2 ^ t := by rw [← h2]
    rw [h4, Nat.add_mul_div_left _ _ (pw_pos t)]
  have h5 : V / 4294967296 * 2 ^ (32 - t) = V / 4294967296 % 4294967296 * 2 ^ (32 - t) + 4294967296 * (V / 4294967296 / 4294967296 * 2 ^ (32 - t)) := by
    have h6 := Nat.mod_add_div (V / 4294967296) 4294967296
    have h7 : V / 4294967296 * 2 ^ (32 - t) = (V / 4294967296 % 4294967296 + 4294967296 * (V / 4294967296 / 4294967296)) * 2 ^ (32 - t) := by rw [h6]
    rw [h7, Nat.add_mul, Nat.mul_assoc]
  rw [h3, h5, ← Nat.add_assoc, Nat.add_mul_mod_self_left]
theorem c_Na_bitsFrom (l : Launch) {g : Gh} (nx : Nat) {a N v : Nat} (ha : NA g a N v) (t : Nat) (ht : t ≤ 1000) : Ct l m_Na_bitsFrom 0 0 [.ref a, .int (nI t)] g nx (pP (some (.long (lN (v / 2 ^ t % 4294967296)))) g nx) := by
  obtain ⟨n, d, ha, hav, han⟩ := ha
  obtain ⟨a1, a2, a3, a4, a5⟩ := id ha
  have m1 := dzf_lt (n := n) a5 (t / 32)
  have m2 := dzf_lt (n := n) a5 (t / 32 + 1)
  refine Ct.of (by decide) (Nat.le_of_ble_eq_true rfl) (fun E hE hQ => ?_)
  refine z_iload_n hE d_Na_bitsFrom_0 rfl ?_
  refine z_if_ge (tgt := 6) hE d_Na_bitsFrom_1 (by decide) (fun c_1 => ?_) (fun c_1 => ?_)
  · refine z_iload_n hE d_Na_bitsFrom_6 rfl ?_
    refine z_bipush (v := nI 32) hE d_Na_bitsFrom_7 (by decide) ?_
    refine z_idiv (v := nI (t / 32)) hE d_Na_bitsFrom_9 (by decide) (pk_div (by omega) (by omega) (by omega)) ?_
    refine z_istore_n hE d_Na_bitsFrom_10 rfl (by decide) ?_
    refine z_iload_n hE d_Na_bitsFrom_11 rfl ?_
    refine z_bipush (v := nI 32) hE d_Na_bitsFrom_12 (by decide) ?_
    refine z_irem (v := nI (t % 32)) hE d_Na_bitsFrom_14 (by decide) (pk_rem (by omega) (by omega) (by omega)) ?_
    refine z_istore_n hE d_Na_bitsFrom_15 rfl (by decide) ?_
    refine z_aload_n hE d_Na_bitsFrom_16 rfl ?_
    refine z_iload_n hE d_Na_bitsFrom_17 rfl ?_
    refine z_callV hE d_Na_bitsFrom_18 cl_Na_26 (c_Na_at l nx ha (nI (t / 32))) (by assumption) cb_Na rfl (Nat.le_of_ble_eq_true rfl) ⟨by decide, by decide⟩ ⟨by omega, by omega⟩ (fun r_18 g_18 nx_18 hp_18 => ?_) rfl
    obtain ⟨rfl, rfl, rfl⟩ := hp_18
    try dsimp only [Option.toList, List.nil_append, List.cons_append]
    rw [dz_n (by omega)]
    generalize hX : dzf n d (t / 32) = X at m1
    refine z_iload_n hE d_Na_bitsFrom_21 rfl ?_
    refine z_lushr (v := lN (X / 2 ^ (t % 32))) hE d_Na_bitsFrom_22 (wb_shr (show X < 2 ^ 64 by omega) (by omega)) ?_
    refine z_aload_n hE d_Na_bitsFrom_23 rfl ?_
    refine z_iload_n hE d_Na_bitsFrom_24 rfl ?_
    refine z_iconst (v := 1) hE d_Na_bitsFrom_25 (by decide) ?_
    refine z_iadd (v := nI (t / 32 + 1)) hE d_Na_bitsFrom_26 (nI_1 _) ?_
    refine z_callV hE d_Na_bitsFrom_27 cl_Na_26 (c_Na_at l nx ha (nI (t / 32 + 1))) (by assumption) cb_Na rfl (Nat.le_of_ble_eq_true rfl) ⟨by decide, by decide⟩ ⟨by omega, by omega⟩ (fun r_27 g_27 nx_27 hp_27 => ?_) rfl
    obtain ⟨rfl, rfl, rfl⟩ := hp_27
    try dsimp only [Option.toList, List.nil_append, List.cons_append]
    rw [dz_n (by omega)]
    generalize hY : dzf n d (t / 32 + 1) = Y at m2
    refine z_bipush (v := nI 32) hE d_Na_bitsFrom_30 (by decide) ?_
    refine z_iload_n hE d_Na_bitsFrom_32 rfl ?_
    refine z_isub (v := nI (32 - t % 32)) hE d_Na_bitsFrom_33 (pk_sub (by omega)) ?_
    refine z_lshl (v := lN (Y * 2 ^ (32 - t % 32))) hE d_Na_bitsFrom_34 (wb_shl Y (by omega)) ?_
    have m3 : X / 2 ^ (t % 32) < 2 ^ (32 - t % 32) := by
      rw [Nat.div_lt_iff_lt_mul (pw_pos _), Nat.mul_comm, pw_lr (by omega)]; exact m1
    have m5 : 2 ^ (32 - t % 32) ≤ 2 ^ 32 := Nat.pow_le_pow_right (by decide) (by omega)
    have m4 : Y * 2 ^ (32 - t % 32) ≤ 4294967295 * 4294967296 := Nat.mul_le_mul (by omega) m5
    have m6 : X / 2 ^ (t % 32) + Y * 2 ^ (32 - t % 32) < 18446744073709551616 := by omega
    refine z_lor (v := lN (X / 2 ^ (t % 32) + Y * 2 ^ (32 - t % 32))) hE d_Na_bitsFrom_35 (g_or' (k := 32 - t % 32) rfl m3 m6) ?_
    refine z_ldc2 hE d_Na_bitsFrom_36 cn_Na_41 ?_
    refine z_land (v := lN ((X / 2 ^ (t % 32) + Y * 2 ^ (32 - t % 32)) % 4294967296)) hE d_Na_bitsFrom_39 (l_mask (by omega)) ?_
    refine z_lret hE hQ d_Na_bitsFrom_40 rfl (Nat.le_refl _) (Nat.le_refl _) ⟨?_, rfl, rfl⟩
    have e0 : v / 4294967296 ^ (t / 32) % 4294967296 = X := by rw [← hav, val_dig a5, ← hX]; rfl
    have e1 : v / 4294967296 ^ (t / 32) / 4294967296 % 4294967296 = Y := by
      rw [Nat.div_div_eq_div_mul, ← Nat.pow_succ, ← hav, val_dig a5, ← hY]; rfl
    have e2 : v / 2 ^ t = v / 4294967296 ^ (t / 32) / 2 ^ (t % 32) := by
      rw [Nat.div_div_eq_div_mul, show (4294967296 : Nat) = 2 ^ 32 from rfl, ← Nat.pow_mul, ← Nat.pow_add]
      congr 2
      omega
    rw [e2, bF_one (by omega), e0, e1]
  · exact absurd (nI_pos' (by omega)) c_1

