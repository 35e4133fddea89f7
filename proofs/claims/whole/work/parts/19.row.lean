/-! Row -/
abbrev oR (r : Nat) (p : Int32) : gE := .inr (4, [.ref (r + 1), .int p])
abbrev oH (h : Nat → Option Nat) : gE := .inl (3, 10, .inr (.inr (.inr (.inr h))))
def RO (g : Gh) (r : Nat) (p : Int32) (h : Nat → Option Nat) : Prop := g r = some (oR r p) ∧ g (r + 1) = some (oH h)
def gR (g : Gh) (r : Nat) (p : Int32) (h : Nat → Option Nat) : Gh := gS (gS g (r + 1) (oH h)) r (oR r p)
theorem gR_a {g : Gh} {r : Nat} {p : Int32} {h : Nat → Option Nat} : gR g r p h r = some (oR r p) := gS_s
theorem gR_h {g : Gh} {r : Nat} {p : Int32} {h : Nat → Option Nat} : gR g r p h (r + 1) = some (oH h) := by rw [gR, gS_n (by omega), gS_s]
theorem gR_o {g : Gh} {r q : Nat} {p : Int32} {h : Nat → Option Nat} (h1 : q ≠ r) (h2 : q ≠ r + 1) : gR g r p h q = g q := by rw [gR, gS_n h1, gS_n h2]
theorem RO_gR {g : Gh} {r : Nat} {p : Int32} {h : Nat → Option Nat} : RO (gR g r p h) r p h := ⟨gR_a, gR_h⟩
theorem gR_gR {g : Gh} {r : Nat} {p p' : Int32} {h h' : Nat → Option Nat} : gR (gR g r p h) r p' h' = gR g r p' h' := by
  funext q
  by_cases h1 : q = r
  · rw [h1, gR_a, gR_a]
  · by_cases h2 : q = r + 1
    · rw [h2, gR_h, gR_h]
    · rw [gR_o h1 h2, gR_o h1 h2, gR_o h1 h2]
theorem gR_id {g : Gh} {r : Nat} {p : Int32} {h : Nat → Option Nat} (hr : RO g r p h) : gR g r p h = g := by
  funext q
  by_cases h1 : q = r
  · rw [h1, gR_a, hr.1]
  · by_cases h2 : q = r + 1
    · rw [h2, gR_h, hr.2]
    · rw [gR_o h1 h2]
theorem gR_obj {g : Gh} {r : Nat} {p p' : Int32} {h : Nat → Option Nat} (hr : RO g r p h) : gS g r (oR r p') = gR g r p' h := by
  funext q
  by_cases h1 : q = r
  · rw [h1, gR_a, gS_s]
  · rw [gS_n h1]
    by_cases h2 : q = r + 1
    · rw [h2, gR_h, hr.2]
    · rw [gR_o h1 h2]
theorem gR_arr {g : Gh} {r : Nat} {p : Int32} {h h' : Nat → Option Nat} (hr : RO g r p h) : gS g (r + 1) (oH h') = gR g r p h' := by
  funext q
  by_cases h1 : q = r
  · rw [h1, gR_a, gS_n (by omega), hr.1]
  · by_cases h2 : q = r + 1
    · rw [h2, gR_h, gS_s]
    · rw [gR_o h1 h2, gS_n h2]
def cntH (h : Nat → Option Nat) : Nat → Nat
  | 0 => 0
  | k + 1 => cntH h k + if (h k).isSome then 1 else 0
theorem cntH_le (h : Nat → Option Nat) : ∀ k, cntH h k ≤ k
  | 0 => Nat.le_refl 0
  | k + 1 => by
    have := cntH_le h k
    show cntH h k + (if (h k).isSome then 1 else 0) ≤ k + 1
    split <;> omega
theorem d_Ro_init_0 : decode b_Ro_init 0 = .ok (.aload_n 0, 1) := by decide +kernel
theorem d_Ro_init_1 : decode b_Ro_init 1 = .ok (.invokespecial 3, 3) := by decide +kernel
theorem d_Ro_init_4 : decode b_Ro_init 4 = .ok (.aload_n 0, 1) := by decide +kernel
theorem d_Ro_init_5 : decode b_Ro_init 5 = .ok (.bipush 10, 2) := by decide +kernel
theorem d_Ro_init_7 : decode b_Ro_init 7 = .ok (.anewarray 9, 3) := by decide +kernel
theorem d_Ro_init_10 : decode b_Ro_init 10 = .ok (.putfield 11, 3) := by decide +kernel
theorem d_Ro_init_13 : decode b_Ro_init 13 = .ok (.aload_n 0, 1) := by decide +kernel
theorem d_Ro_init_14 : decode b_Ro_init 14 = .ok (.iconst (-1), 1) := by decide +kernel
theorem d_Ro_init_15 : decode b_Ro_init 15 = .ok (.putfield 17, 3) := by decide +kernel
theorem d_Ro_init_18 : decode b_Ro_init 18 = .ok (.return_, 1) := by decide +kernel
theorem d_Ro_isThere_0 : decode b_Ro_isThere 0 = .ok (.aload_n 0, 1) := by decide +kernel
theorem d_Ro_isThere_1 : decode b_Ro_isThere 1 = .ok (.getfield 17, 3) := by decide +kernel
theorem d_Ro_isThere_4 : decode b_Ro_isThere 4 = .ok (.ifCond .lt 7, 3) := by decide +kernel
theorem d_Ro_isThere_7 : decode b_Ro_isThere 7 = .ok (.iconst 1, 1) := by decide +kernel
theorem d_Ro_isThere_8 : decode b_Ro_isThere 8 = .ok (.goto 4, 3) := by decide +kernel
theorem d_Ro_isThere_11 : decode b_Ro_isThere 11 = .ok (.iconst 0, 1) := by decide +kernel
theorem d_Ro_isThere_12 : decode b_Ro_isThere 12 = .ok (.ireturn, 1) := by decide +kernel
theorem d_Ro_empty_0 : decode b_Ro_empty 0 = .ok (.aload_n 0, 1) := by decide +kernel
theorem d_Ro_empty_1 : decode b_Ro_empty 1 = .ok (.iload_n 1, 1) := by decide +kernel
theorem d_Ro_empty_2 : decode b_Ro_empty 2 = .ok (.aload_n 0, 1) := by decide +kernel
theorem d_Ro_empty_3 : decode b_Ro_empty 3 = .ok (.getfield 11, 3) := by decide +kernel
theorem d_Ro_empty_6 : decode b_Ro_empty 6 = .ok (.arraylength, 1) := by decide +kernel
theorem d_Ro_empty_7 : decode b_Ro_empty 7 = .ok (.invokestatic 21, 3) := by decide +kernel
theorem d_Ro_empty_10 : decode b_Ro_empty 10 = .ok (.putfield 17, 3) := by decide +kernel
theorem d_Ro_empty_13 : decode b_Ro_empty 13 = .ok (.iconst 0, 1) := by decide +kernel
theorem d_Ro_empty_14 : decode b_Ro_empty 14 = .ok (.istore_n 2, 1) := by decide +kernel
theorem d_Ro_empty_15 : decode b_Ro_empty 15 = .ok (.iload_n 2, 1) := by decide +kernel
theorem d_Ro_empty_16 : decode b_Ro_empty 16 = .ok (.aload_n 0, 1) := by decide +kernel
theorem d_Ro_empty_17 : decode b_Ro_empty 17 = .ok (.getfield 11, 3) := by decide +kernel
theorem d_Ro_empty_20 : decode b_Ro_empty 20 = .ok (.arraylength, 1) := by decide +kernel
theorem d_Ro_empty_21 : decode b_Ro_empty 21 = .ok (.if_icmp .ge 16, 3) := by decide +kernel
theorem d_Ro_empty_24 : decode b_Ro_empty 24 = .ok (.aload_n 0, 1) := by decide +kernel
theorem d_Ro_empty_25 : decode b_Ro_empty 25 = .ok (.getfield 11, 3) := by decide +kernel
theorem d_Ro_empty_28 : decode b_Ro_empty 28 = .ok (.iload_n 2, 1) := by decide +kernel
theorem d_Ro_empty_29 : decode b_Ro_empty 29 = .ok (.aconst_null, 1) := by decide +kernel
theorem d_Ro_empty_30 : decode b_Ro_empty 30 = .ok (.aastore, 1) := by decide +kernel
theorem d_Ro_empty_31 : decode b_Ro_empty 31 = .ok (.iinc 2 1, 3) := by decide +kernel
theorem d_Ro_empty_34 : decode b_Ro_empty 34 = .ok (.goto (-19), 3) := by decide +kernel
theorem d_Ro_empty_37 : decode b_Ro_empty 37 = .ok (.return_, 1) := by decide +kernel
theorem d_Ro_hasPlaces_0 : decode b_Ro_hasPlaces 0 = .ok (.iload_n 1, 1) := by decide +kernel
theorem d_Ro_hasPlaces_1 : decode b_Ro_hasPlaces 1 = .ok (.ifCond .lt 21, 3) := by decide +kernel
theorem d_Ro_hasPlaces_4 : decode b_Ro_hasPlaces 4 = .ok (.iload_n 2, 1) := by decide +kernel
theorem d_Ro_hasPlaces_5 : decode b_Ro_hasPlaces 5 = .ok (.ifCond .lt 17, 3) := by decide +kernel
theorem d_Ro_hasPlaces_8 : decode b_Ro_hasPlaces 8 = .ok (.iload_n 2, 1) := by decide +kernel
theorem d_Ro_hasPlaces_9 : decode b_Ro_hasPlaces 9 = .ok (.aload_n 0, 1) := by decide +kernel
theorem d_Ro_hasPlaces_10 : decode b_Ro_hasPlaces 10 = .ok (.getfield 17, 3) := by decide +kernel
theorem d_Ro_hasPlaces_13 : decode b_Ro_hasPlaces 13 = .ok (.iload_n 1, 1) := by decide +kernel
theorem d_Ro_hasPlaces_14 : decode b_Ro_hasPlaces 14 = .ok (.isub, 1) := by decide +kernel
theorem d_Ro_hasPlaces_15 : decode b_Ro_hasPlaces 15 = .ok (.if_icmp .gt 7, 3) := by decide +kernel
theorem d_Ro_hasPlaces_18 : decode b_Ro_hasPlaces 18 = .ok (.iconst 1, 1) := by decide +kernel
theorem d_Ro_hasPlaces_19 : decode b_Ro_hasPlaces 19 = .ok (.goto 4, 3) := by decide +kernel
theorem d_Ro_hasPlaces_22 : decode b_Ro_hasPlaces 22 = .ok (.iconst 0, 1) := by decide +kernel
theorem d_Ro_hasPlaces_23 : decode b_Ro_hasPlaces 23 = .ok (.ireturn, 1) := by decide +kernel
theorem d_Ro_heldAt_0 : decode b_Ro_heldAt 0 = .ok (.iload_n 1, 1) := by decide +kernel
theorem d_Ro_heldAt_1 : decode b_Ro_heldAt 1 = .ok (.ifCond .lt 21, 3) := by decide +kernel
theorem d_Ro_heldAt_4 : decode b_Ro_heldAt 4 = .ok (.iload_n 1, 1) := by decide +kernel
theorem d_Ro_heldAt_5 : decode b_Ro_heldAt 5 = .ok (.aload_n 0, 1) := by decide +kernel
theorem d_Ro_heldAt_6 : decode b_Ro_heldAt 6 = .ok (.getfield 11, 3) := by decide +kernel
theorem d_Ro_heldAt_9 : decode b_Ro_heldAt 9 = .ok (.arraylength, 1) := by decide +kernel
theorem d_Ro_heldAt_10 : decode b_Ro_heldAt 10 = .ok (.if_icmp .ge 12, 3) := by decide +kernel
theorem d_Ro_heldAt_13 : decode b_Ro_heldAt 13 = .ok (.aload_n 0, 1) := by decide +kernel
theorem d_Ro_heldAt_14 : decode b_Ro_heldAt 14 = .ok (.getfield 11, 3) := by decide +kernel
theorem d_Ro_heldAt_17 : decode b_Ro_heldAt 17 = .ok (.iload_n 1, 1) := by decide +kernel
theorem d_Ro_heldAt_18 : decode b_Ro_heldAt 18 = .ok (.aaload, 1) := by decide +kernel
theorem d_Ro_heldAt_19 : decode b_Ro_heldAt 19 = .ok (.goto 4, 3) := by decide +kernel
theorem d_Ro_heldAt_22 : decode b_Ro_heldAt 22 = .ok (.aconst_null, 1) := by decide +kernel
theorem d_Ro_heldAt_23 : decode b_Ro_heldAt 23 = .ok (.areturn, 1) := by decide +kernel
theorem d_Ro_hold_0 : decode b_Ro_hold 0 = .ok (.iload_n 1, 1) := by decide +kernel
theorem d_Ro_hold_1 : decode b_Ro_hold 1 = .ok (.ifCond .lt 19, 3) := by decide +kernel
theorem d_Ro_hold_4 : decode b_Ro_hold 4 = .ok (.iload_n 1, 1) := by decide +kernel
theorem d_Ro_hold_5 : decode b_Ro_hold 5 = .ok (.aload_n 0, 1) := by decide +kernel
theorem d_Ro_hold_6 : decode b_Ro_hold 6 = .ok (.getfield 11, 3) := by decide +kernel
theorem d_Ro_hold_9 : decode b_Ro_hold 9 = .ok (.arraylength, 1) := by decide +kernel
theorem d_Ro_hold_10 : decode b_Ro_hold 10 = .ok (.if_icmp .ge 10, 3) := by decide +kernel
theorem d_Ro_hold_13 : decode b_Ro_hold 13 = .ok (.aload_n 0, 1) := by decide +kernel
theorem d_Ro_hold_14 : decode b_Ro_hold 14 = .ok (.getfield 11, 3) := by decide +kernel
theorem d_Ro_hold_17 : decode b_Ro_hold 17 = .ok (.iload_n 1, 1) := by decide +kernel
theorem d_Ro_hold_18 : decode b_Ro_hold 18 = .ok (.aload_n 2, 1) := by decide +kernel
theorem d_Ro_hold_19 : decode b_Ro_hold 19 = .ok (.aastore, 1) := by decide +kernel
theorem d_Ro_hold_20 : decode b_Ro_hold 20 = .ok (.return_, 1) := by decide +kernel
theorem d_Ro_take_0 : decode b_Ro_take 0 = .ok (.iconst 0, 1) := by decide +kernel
theorem d_Ro_take_1 : decode b_Ro_take 1 = .ok (.istore 5, 2) := by decide +kernel
theorem d_Ro_take_3 : decode b_Ro_take 3 = .ok (.iload 5, 2) := by decide +kernel
theorem d_Ro_take_5 : decode b_Ro_take 5 = .ok (.iload 4, 2) := by decide +kernel
theorem d_Ro_take_7 : decode b_Ro_take 7 = .ok (.if_icmp .ge 54, 3) := by decide +kernel
theorem d_Ro_take_10 : decode b_Ro_take 10 = .ok (.iload 5, 2) := by decide +kernel
theorem d_Ro_take_12 : decode b_Ro_take 12 = .ok (.aload_n 0, 1) := by decide +kernel
theorem d_Ro_take_13 : decode b_Ro_take 13 = .ok (.getfield 11, 3) := by decide +kernel
theorem d_Ro_take_16 : decode b_Ro_take 16 = .ok (.arraylength, 1) := by decide +kernel
theorem d_Ro_take_17 : decode b_Ro_take 17 = .ok (.if_icmp .ge 44, 3) := by decide +kernel
theorem d_Ro_take_20 : decode b_Ro_take 20 = .ok (.iload_n 1, 1) := by decide +kernel
theorem d_Ro_take_21 : decode b_Ro_take 21 = .ok (.iload_n 3, 1) := by decide +kernel
theorem d_Ro_take_22 : decode b_Ro_take 22 = .ok (.if_icmp .gt 8, 3) := by decide +kernel
theorem d_Ro_take_25 : decode b_Ro_take 25 = .ok (.iload 5, 2) := by decide +kernel
theorem d_Ro_take_27 : decode b_Ro_take 27 = .ok (.goto 10, 3) := by decide +kernel
theorem d_Ro_take_30 : decode b_Ro_take 30 = .ok (.iload 4, 2) := by decide +kernel
theorem d_Ro_take_32 : decode b_Ro_take 32 = .ok (.iconst 1, 1) := by decide +kernel
theorem d_Ro_take_33 : decode b_Ro_take 33 = .ok (.isub, 1) := by decide +kernel
theorem d_Ro_take_34 : decode b_Ro_take 34 = .ok (.iload 5, 2) := by decide +kernel
theorem d_Ro_take_36 : decode b_Ro_take 36 = .ok (.isub, 1) := by decide +kernel
theorem d_Ro_take_37 : decode b_Ro_take 37 = .ok (.istore 6, 2) := by decide +kernel
theorem d_Ro_take_39 : decode b_Ro_take 39 = .ok (.aload_n 0, 1) := by decide +kernel
theorem d_Ro_take_40 : decode b_Ro_take 40 = .ok (.iload_n 1, 1) := by decide +kernel
theorem d_Ro_take_41 : decode b_Ro_take 41 = .ok (.iload 6, 2) := by decide +kernel
theorem d_Ro_take_43 : decode b_Ro_take 43 = .ok (.iadd, 1) := by decide +kernel
theorem d_Ro_take_44 : decode b_Ro_take 44 = .ok (.aload_n 2, 1) := by decide +kernel
theorem d_Ro_take_45 : decode b_Ro_take 45 = .ok (.iload_n 3, 1) := by decide +kernel
theorem d_Ro_take_46 : decode b_Ro_take 46 = .ok (.iload 6, 2) := by decide +kernel
theorem d_Ro_take_48 : decode b_Ro_take 48 = .ok (.iadd, 1) := by decide +kernel
theorem d_Ro_take_49 : decode b_Ro_take 49 = .ok (.invokevirtual 27, 3) := by decide +kernel
theorem d_Ro_take_52 : decode b_Ro_take 52 = .ok (.invokevirtual 31, 3) := by decide +kernel
theorem d_Ro_take_55 : decode b_Ro_take 55 = .ok (.iinc 5 1, 3) := by decide +kernel
theorem d_Ro_take_58 : decode b_Ro_take 58 = .ok (.goto (-55), 3) := by decide +kernel
theorem d_Ro_take_61 : decode b_Ro_take 61 = .ok (.return_, 1) := by decide +kernel
theorem d_Ro_countHeld_0 : decode b_Ro_countHeld 0 = .ok (.iconst 0, 1) := by decide +kernel
theorem d_Ro_countHeld_1 : decode b_Ro_countHeld 1 = .ok (.istore_n 1, 1) := by decide +kernel
theorem d_Ro_countHeld_2 : decode b_Ro_countHeld 2 = .ok (.iconst 0, 1) := by decide +kernel
theorem d_Ro_countHeld_3 : decode b_Ro_countHeld 3 = .ok (.istore_n 2, 1) := by decide +kernel
theorem d_Ro_countHeld_4 : decode b_Ro_countHeld 4 = .ok (.iload_n 2, 1) := by decide +kernel
theorem d_Ro_countHeld_5 : decode b_Ro_countHeld 5 = .ok (.aload_n 0, 1) := by decide +kernel
theorem d_Ro_countHeld_6 : decode b_Ro_countHeld 6 = .ok (.getfield 17, 3) := by decide +kernel
theorem d_Ro_countHeld_9 : decode b_Ro_countHeld 9 = .ok (.if_icmp .ge 30, 3) := by decide +kernel
theorem d_Ro_countHeld_12 : decode b_Ro_countHeld 12 = .ok (.iload_n 2, 1) := by decide +kernel
theorem d_Ro_countHeld_13 : decode b_Ro_countHeld 13 = .ok (.aload_n 0, 1) := by decide +kernel
theorem d_Ro_countHeld_14 : decode b_Ro_countHeld 14 = .ok (.getfield 11, 3) := by decide +kernel
theorem d_Ro_countHeld_17 : decode b_Ro_countHeld 17 = .ok (.arraylength, 1) := by decide +kernel
theorem d_Ro_countHeld_18 : decode b_Ro_countHeld 18 = .ok (.if_icmp .ge 21, 3) := by decide +kernel
theorem d_Ro_countHeld_21 : decode b_Ro_countHeld 21 = .ok (.aload_n 0, 1) := by decide +kernel
theorem d_Ro_countHeld_22 : decode b_Ro_countHeld 22 = .ok (.getfield 11, 3) := by decide +kernel
theorem d_Ro_countHeld_25 : decode b_Ro_countHeld 25 = .ok (.iload_n 2, 1) := by decide +kernel
theorem d_Ro_countHeld_26 : decode b_Ro_countHeld 26 = .ok (.aaload, 1) := by decide +kernel
theorem d_Ro_countHeld_27 : decode b_Ro_countHeld 27 = .ok (.ifnull 6, 3) := by decide +kernel
theorem d_Ro_countHeld_30 : decode b_Ro_countHeld 30 = .ok (.iinc 1 1, 3) := by decide +kernel
theorem d_Ro_countHeld_33 : decode b_Ro_countHeld 33 = .ok (.iinc 2 1, 3) := by decide +kernel
theorem d_Ro_countHeld_36 : decode b_Ro_countHeld 36 = .ok (.goto (-32), 3) := by decide +kernel
theorem d_Ro_countHeld_39 : decode b_Ro_countHeld 39 = .ok (.iload_n 1, 1) := by decide +kernel
theorem d_Ro_countHeld_40 : decode b_Ro_countHeld 40 = .ok (.ireturn, 1) := by decide +kernel
theorem c_Ro_init (l : Launch) {g : Gh} {nx r : Nat} (hnx : nx = r + 1) (h : g r = some (.inr (4, [.null, .int 0]))) : Ct l m_Ro_init 1 10 [.ref r] g nx (fun v g' nx' => v = none ∧ nx' = nx + 1 ∧ RO g' r (-1) (fun _ => none) ∧ gW g g' r (r + 2)) := by
  subst hnx
  refine Ct.of (by decide) (Nat.le_of_ble_eq_true rfl) (fun E hE hQ => ?_)
  refine z_aload_n hE d_Ro_init_0 rfl ?_
  refine z_objInit hE d_Ro_init_1 ol_Ro_3 ol_i ol_c (by decide) (Nat.le_of_ble_eq_true rfl) ?_
  refine z_aload_n hE d_Ro_init_4 rfl ?_
  refine z_bipush (v := 10) hE d_Ro_init_5 (by decide) ?_
  refine z_anew (N := 10) (t := 3) hE d_Ro_init_7 kl_Ro_9 (by decide) (by decide) (by decide) (by decide) (by decide) (by omega) (by omega) ?_
  refine z_putF hE d_Ro_init_10 fl_Ro_11 ct_Ro ff_Ro_0 rfl ⟨_, _, _, rfl, rfl⟩ (by rw [gS_n (by omega)]; exact h) rfl rfl (Nat.le_of_ble_eq_true rfl) ?_
  refine z_aload_n hE d_Ro_init_13 rfl ?_
  refine z_iconst (v := (-1)) hE d_Ro_init_14 (by decide) ?_
  refine z_put hE d_Ro_init_15 fl_Ro_17 ct_Ro ff_Ro_1 (gS_s) rfl rfl (Nat.le_of_ble_eq_true rfl) ?_
  refine z_vret hE hQ d_Ro_init_18 rfl (by omega) (by omega) ⟨rfl, rfl, ⟨?_, ?_⟩, fun q hq => ?_⟩
  · rw [gS_s]; rfl
  · rw [gS_n (by omega), gS_n (by omega), gS_s]
  · rw [gS_n (by omega), gS_n (by omega), gS_n (by omega)]
theorem c_Ro_isThere (l : Launch) {g : Gh} (nx : Nat) {r : Nat} {p : Int32} {h : Nat → Option Nat} (hr : RO g r p h) : Ct l m_Ro_isThere 0 0 [.ref r] g nx (pP (some (.int (if p < 0 then 0 else 1))) g nx) := by
  obtain ⟨h1, h2⟩ := hr
  refine Ct.of (by decide) (Nat.le_of_ble_eq_true rfl) (fun E hE hQ => ?_)
  refine z_aload_n hE d_Ro_isThere_0 rfl ?_
  refine z_get hE d_Ro_isThere_1 fl_Ro_17 (by assumption) rfl ?_
  refine z_if_lt (tgt := 11) hE d_Ro_isThere_4 (by decide) (fun c_4 => ?_) (fun c_4 => ?_)
  · refine z_iconst (v := 0) hE d_Ro_isThere_11 (by decide) ?_
    exact z_zret hE hQ d_Ro_isThere_12 rfl (Nat.le_refl _) (Nat.le_refl _) (Or.inl rfl) ⟨by rw [if_pos c_4], rfl, rfl⟩
  · refine z_iconst (v := 1) hE d_Ro_isThere_7 (by decide) ?_
    refine z_goto (tgt := 12) hE d_Ro_isThere_8 (by decide) ?_
    exact z_zret hE hQ d_Ro_isThere_12 rfl (Nat.le_refl _) (Nat.le_refl _) (Or.inr rfl) ⟨by rw [if_neg c_4], rfl, rfl⟩
theorem c_Ro_empty (l : Launch) {g : Gh} (nx : Nat) {r : Nat} {p : Int32} {h : Nat → Option Nat} (hr : RO g r p h) (n : Nat) (hn : n ≤ 10) : Ct l m_Ro_empty 0 0 [.ref r, .int (nI n)] g nx (fun v g' nx' => v = none ∧ nx = nx' ∧ ∃ h', g' = gR g r (nI n) h' ∧ ∀ j, j < 10 → h' j = none) := by
  obtain ⟨h1, h2⟩ := id hr
  refine Ct.of (by decide) (Nat.le_of_ble_eq_true rfl) (fun E hE hQ => ?_)
  refine z_aload_n hE d_Ro_empty_0 rfl ?_
  refine z_iload_n hE d_Ro_empty_1 rfl ?_
  refine z_aload_n hE d_Ro_empty_2 rfl ?_
  refine z_get hE d_Ro_empty_3 fl_Ro_11 (by assumption) rfl ?_
  refine z_alen hE d_Ro_empty_6 (by assumption) (by decide) (rfl) ?_
  refine z_mmin (v := nI n) hE d_Ro_empty_7 cl_Ro_21 (by decide) (Nat.le_of_ble_eq_true rfl) (by omega) (by omega) (by rw [show Int32.ofNat 10 = nI 10 from rfl, i_min (by omega) (by omega), Nat.min_eq_left hn]) ?_
  refine z_put hE d_Ro_empty_10 fl_Ro_17 ct_Ro ff_Ro_1 (by assumption) rfl rfl (Nat.le_of_ble_eq_true rfl) ?_
  refine z_iconst (v := nI 0) hE d_Ro_empty_13 (by decide) ?_
  refine z_istore_n hE d_Ro_empty_14 rfl (by decide) ?_
  have loop : ∀ (u i : Nat) (h' : Nat → Option Nat), i + u = 10 → (∀ j, j < i → h' j = none) → ∀ lv, lG lv 0 = some (.ref r) → lG lv 2 = some (.int (nI i)) → zJ E (gR g r (nI n) h') nx 0 0 15 lv [] := by
    intro u
    induction u with
    | zero =>
      intro i h' hi hz lv l0 l2
      refine z_sub (lv' := [(0, .ref r), (2, .int (nI i))]) (by simp only [List.map, l0, l2]) ?_
      obtain ⟨q1, q2⟩ := RO_gR (g := g) (r := r) (p := nI n) (h := h')
      refine z_iload_n hE d_Ro_empty_15 rfl ?_
      refine z_aload_n hE d_Ro_empty_16 rfl ?_
      refine z_get hE d_Ro_empty_17 fl_Ro_11 (by assumption) rfl ?_
      refine z_alen hE d_Ro_empty_20 (by assumption) (by decide) (rfl) ?_
      refine z_icmp_ge (tgt := 37) hE d_Ro_empty_21 (by decide) (fun c_21 => ?_) (fun c_21 => ?_)
      · exact z_vret hE hQ d_Ro_empty_37 rfl (Nat.le_refl _) (Nat.le_refl _) ⟨rfl, rfl, h', rfl, fun j hj => hz j (by omega)⟩
      · exact absurd (show Int32.ofNat 10 ≤ nI i from (nI_LE (a := 10) (by omega) (by omega)).mpr (by omega)) c_21
    | succ u ih =>
      intro i h' hi hz lv l0 l2
      refine z_sub (lv' := [(0, .ref r), (2, .int (nI i))]) (by simp only [List.map, l0, l2]) ?_
      have hR := RO_gR (g := g) (r := r) (p := nI n) (h := h')
      obtain ⟨q1, q2⟩ := id hR
      refine z_iload_n hE d_Ro_empty_15 rfl ?_
      refine z_aload_n hE d_Ro_empty_16 rfl ?_
      refine z_get hE d_Ro_empty_17 fl_Ro_11 (by assumption) rfl ?_
      refine z_alen hE d_Ro_empty_20 (by assumption) (by decide) (rfl) ?_
      refine z_icmp_ge (tgt := 37) hE d_Ro_empty_21 (by decide) (fun c_21 => ?_) (fun c_21 => ?_)
      · exact absurd ((nI_LE (a := 10) (b := i) (by omega) (by omega)).mp c_21) (by omega)
      · refine z_aload_n hE d_Ro_empty_24 rfl ?_
        refine z_get hE d_Ro_empty_25 fl_Ro_11 (by assumption) rfl ?_
        refine z_iload_n hE d_Ro_empty_28 rfl ?_
        refine z_null hE d_Ro_empty_29 ?_
        refine z_aastN hE d_Ro_empty_30 (by assumption) (by decide) (nI_in' (show i < 10 by omega) (by omega)) ?_
        rw [nI_cl (by omega), gR_arr hR, gR_gR]
        refine z_iinc (v := nI (i + 1)) hE d_Ro_empty_31 rfl (nI_1 i) (by decide) ?_
        refine z_goto (tgt := 15) hE d_Ro_empty_34 (by decide) ?_
        refine ih (i + 1) _ (by omega) (fun j hj => ?_) _ rfl rfl
        unfold va_up
        by_cases hji : j = i
        · rw [if_pos hji]
        · rw [if_neg hji]; exact hz j (by omega)
  refine z_g (gR_obj hr) (loop 10 0 h (by omega) (fun j hj => by omega) _ rfl rfl)
theorem c_Ro_hasPlaces (l : Launch) {g : Gh} (nx : Nat) {r p : Nat} {h : Nat → Option Nat} (hr : RO g r (nI p) h) (hp : p ≤ 10) (i n : Int32) : Ct l m_Ro_hasPlaces 0 0 [.ref r, .int i, .int n] g nx (pP (some (.int (if 0 ≤ i.toInt ∧ 0 ≤ n.toInt ∧ i.toInt + n.toInt ≤ p then 1 else 0))) g nx) := by
  obtain ⟨h1, h2⟩ := hr
  refine Ct.of (by decide) (Nat.le_of_ble_eq_true rfl) (fun E hE hQ => ?_)
  have no : ∀ lv, ¬ (0 ≤ i.toInt ∧ 0 ≤ n.toInt ∧ i.toInt + n.toInt ≤ p) → zJ E g nx 0 0 22 lv [] := by
    intro lv hn
    refine z_iconst (v := 0) hE d_Ro_hasPlaces_22 (by decide) ?_
    exact z_zret hE hQ d_Ro_hasPlaces_23 rfl (Nat.le_refl _) (Nat.le_refl _) (Or.inl rfl) ⟨by rw [if_neg hn], rfl, rfl⟩
  refine z_iload_n hE d_Ro_hasPlaces_0 rfl ?_
  refine z_if_lt (tgt := 22) hE d_Ro_hasPlaces_1 (by decide) (fun c_1 => ?_) (fun c_1 => ?_)
  · exact no _ (by have := i_lt0.mp c_1; omega)
  · have k1 := mt i_lt0.mpr c_1
    refine z_iload_n hE d_Ro_hasPlaces_4 rfl ?_
    refine z_if_lt (tgt := 22) hE d_Ro_hasPlaces_5 (by decide) (fun c_5 => ?_) (fun c_5 => ?_)
    · exact no _ (by have := i_lt0.mp c_5; omega)
    · have k2 := mt i_lt0.mpr c_5
      have e : (nI p - i).toInt = (p : Int) - i.toInt := by
        have b1 := i.toInt_lt
        have b2 := i.le_toInt
        rw [Int32.toInt_sub, nI_ti (by omega)]
        exact Int.bmod_eq_of_le (by omega) (by omega)
      refine z_iload_n hE d_Ro_hasPlaces_8 rfl ?_
      refine z_aload_n hE d_Ro_hasPlaces_9 rfl ?_
      refine z_get hE d_Ro_hasPlaces_10 fl_Ro_17 (by assumption) rfl ?_
      refine z_iload_n hE d_Ro_hasPlaces_13 rfl ?_
      refine z_isub hE d_Ro_hasPlaces_14 (rfl) ?_
      refine z_icmp_gt (tgt := 22) hE d_Ro_hasPlaces_15 (by decide) (fun c_15 => ?_) (fun c_15 => ?_)
      · rw [Int32.lt_iff_toInt_lt, e] at c_15
        exact no _ (by omega)
      · rw [Int32.lt_iff_toInt_lt, e] at c_15
        refine z_iconst (v := 1) hE d_Ro_hasPlaces_18 (by decide) ?_
        refine z_goto (tgt := 23) hE d_Ro_hasPlaces_19 (by decide) ?_
        exact z_zret hE hQ d_Ro_hasPlaces_23 rfl (Nat.le_refl _) (Nat.le_refl _) (Or.inr rfl) ⟨by rw [if_pos ⟨by omega, by omega, by omega⟩], rfl, rfl⟩
theorem c_Ro_heldAt (l : Launch) {g : Gh} (nx : Nat) {r : Nat} {p : Int32} {h : Nat → Option Nat} (hr : RO g r p h) (k : Nat) (hk : k < 10) : Ct l m_Ro_heldAt 0 0 [.ref r, .int (nI k)] g nx (pP (some (va_rf (h k))) g nx) := by
  obtain ⟨h1, h2⟩ := hr
  refine Ct.of (by decide) (Nat.le_of_ble_eq_true rfl) (fun E hE hQ => ?_)
  refine z_iload_n hE d_Ro_heldAt_0 rfl ?_
  refine z_if_lt (tgt := 22) hE d_Ro_heldAt_1 (by decide) (fun c_1 => ?_) (fun c_1 => ?_)
  · exact absurd c_1 (nI_pos (by omega))
  · refine z_iload_n hE d_Ro_heldAt_4 rfl ?_
    refine z_aload_n hE d_Ro_heldAt_5 rfl ?_
    refine z_get hE d_Ro_heldAt_6 fl_Ro_11 (by assumption) rfl ?_
    refine z_alen hE d_Ro_heldAt_9 (by assumption) (by decide) (rfl) ?_
    refine z_icmp_ge (tgt := 22) hE d_Ro_heldAt_10 (by decide) (fun c_10 => ?_) (fun c_10 => ?_)
    · exact absurd ((nI_LE (a := 10) (b := k) (by omega) (by omega)).mp c_10) (by omega)
    · refine z_aload_n hE d_Ro_heldAt_13 rfl ?_
      refine z_get hE d_Ro_heldAt_14 fl_Ro_11 (by assumption) rfl ?_
      refine z_iload_n hE d_Ro_heldAt_17 rfl ?_
      refine z_aald hE d_Ro_heldAt_18 (by assumption) (by decide) (nI_in' hk (by omega)) ?_
      rw [nI_cl (by omega)]
      refine z_goto (tgt := 23) hE d_Ro_heldAt_19 (by decide) ?_
      exact z_aret hE hQ d_Ro_heldAt_23 rfl (Or.inl ⟨_, rfl⟩) (Nat.le_refl _) (Nat.le_refl _) ⟨rfl, rfl, rfl⟩
theorem c_Ro_hold (l : Launch) {g : Gh} (nx : Nat) {r : Nat} {p : Int32} {h : Nat → Option Nat} (hr : RO g r p h) (k : Nat) (hk : k < 10) (v : Option Nat) (hv : ∀ w, v = some w → ∃ vs, g w = some (.inr (1, vs))) : Ct l m_Ro_hold 0 0 [.ref r, .int (nI k), va_rf v] g nx (pV (gR g r p (va_up h k v)) nx) := by
  obtain ⟨h1, h2⟩ := id hr
  refine Ct.of (by decide) (by cases v <;> exact Nat.le_of_ble_eq_true rfl) (fun E hE hQ => ?_)
  refine z_sub (lv' := [(0, .ref r), (1, .int (nI k)), (2, va_rf v)]) (by cases v <;> rfl) ?_
  refine z_iload_n hE d_Ro_hold_0 rfl ?_
  refine z_if_lt (tgt := 20) hE d_Ro_hold_1 (by decide) (fun c_1 => ?_) (fun c_1 => ?_)
  · exact absurd c_1 (nI_pos (by omega))
  · refine z_iload_n hE d_Ro_hold_4 rfl ?_
    refine z_aload_n hE d_Ro_hold_5 rfl ?_
    refine z_get hE d_Ro_hold_6 fl_Ro_11 (by assumption) rfl ?_
    refine z_alen hE d_Ro_hold_9 (by assumption) (by decide) (rfl) ?_
    refine z_icmp_ge (tgt := 20) hE d_Ro_hold_10 (by decide) (fun c_10 => ?_) (fun c_10 => ?_)
    · exact absurd ((nI_LE (a := 10) (b := k) (by omega) (by omega)).mp c_10) (by omega)
    · refine z_aload_n hE d_Ro_hold_13 rfl ?_
      refine z_get hE d_Ro_hold_14 fl_Ro_11 (by assumption) rfl ?_
      refine z_iload_n hE d_Ro_hold_17 rfl ?_
      refine z_aload_nq hE d_Ro_hold_18 rfl ?_
      refine z_aastq (ci := 1) hE d_Ro_hold_19 (by assumption) (by decide) (hv) (nI_in' hk (by omega)) ?_
      rw [nI_cl (by omega)]
      exact z_vret hE hQ d_Ro_hold_20 rfl (Nat.le_refl _) (Nat.le_refl _) ⟨rfl, (gR_arr hr).symm, rfl⟩
theorem c_Ro_countHeld (l : Launch) {g : Gh} (nx : Nat) {r p : Nat} {h : Nat → Option Nat} (hr : RO g r (nI p) h) (hp : p ≤ 10) : Ct l m_Ro_countHeld 0 0 [.ref r] g nx (pP (some (.int (nI (cntH h p)))) g nx) := by
  obtain ⟨h1, h2⟩ := hr
  refine Ct.of (by decide) (Nat.le_of_ble_eq_true rfl) (fun E hE hQ => ?_)
  have loop : ∀ (u i : Nat), i + u = p → ∀ lv, lG lv 0 = some (.ref r) → lG lv 1 = some (.int (nI (cntH h i))) → lG lv 2 = some (.int (nI i)) → zJ E g nx 0 0 4 lv [] := by
    intro u
    induction u with
    | zero =>
      intro i hi lv l0 l1 l2
      refine z_sub (lv' := [(0, .ref r), (1, .int (nI (cntH h i))), (2, .int (nI i))]) (by simp only [List.map, l0, l1, l2]) ?_
      refine z_iload_n hE d_Ro_countHeld_4 rfl ?_
      refine z_aload_n hE d_Ro_countHeld_5 rfl ?_
      refine z_get hE d_Ro_countHeld_6 fl_Ro_17 (by assumption) rfl ?_
      refine z_icmp_ge (tgt := 39) hE d_Ro_countHeld_9 (by decide) (fun c_9 => ?_) (fun c_9 => ?_)
      · refine z_iload_n hE d_Ro_countHeld_39 rfl ?_
        exact z_iret hE hQ d_Ro_countHeld_40 rfl (Nat.le_refl _) (Nat.le_refl _) ⟨by rw [show i = p by omega], rfl, rfl⟩
      · exact absurd ((nI_LE (by omega) (by omega)).mpr (by omega)) c_9
    | succ u ih =>
      intro i hi lv l0 l1 l2
      refine z_sub (lv' := [(0, .ref r), (1, .int (nI (cntH h i))), (2, .int (nI i))]) (by simp only [List.map, l0, l1, l2]) ?_
      refine z_iload_n hE d_Ro_countHeld_4 rfl ?_
      refine z_aload_n hE d_Ro_countHeld_5 rfl ?_
      refine z_get hE d_Ro_countHeld_6 fl_Ro_17 (by assumption) rfl ?_
      refine z_icmp_ge (tgt := 39) hE d_Ro_countHeld_9 (by decide) (fun c_9 => ?_) (fun c_9 => ?_)
      · exact absurd ((nI_LE (by omega) (by omega)).mp c_9) (by omega)
      · refine z_iload_n hE d_Ro_countHeld_12 rfl ?_
        refine z_aload_n hE d_Ro_countHeld_13 rfl ?_
        refine z_get hE d_Ro_countHeld_14 fl_Ro_11 (by assumption) rfl ?_
        refine z_alen hE d_Ro_countHeld_17 (by assumption) (by decide) (rfl) ?_
        refine z_icmp_ge (tgt := 39) hE d_Ro_countHeld_18 (by decide) (fun c_18 => ?_) (fun c_18 => ?_)
        · exact absurd ((nI_LE (a := 10) (b := i) (by omega) (by omega)).mp c_18) (by omega)
        · refine z_aload_n hE d_Ro_countHeld_21 rfl ?_
          refine z_get hE d_Ro_countHeld_22 fl_Ro_11 (by assumption) rfl ?_
          refine z_iload_n hE d_Ro_countHeld_25 rfl ?_
          refine z_aald hE d_Ro_countHeld_26 (by assumption) (by decide) (nI_in' (show i < 10 by omega) (by omega)) ?_
          rw [nI_cl (by omega)]
          refine z_ifnull (tgt := 33) hE d_Ro_countHeld_27 (by decide) (fun c_27 => ?_) (fun a_27 c_27 => ?_)
          · refine z_iinc (v := nI (i + 1)) hE d_Ro_countHeld_33 rfl (nI_1 i) (by decide) ?_
            refine z_goto (tgt := 4) hE d_Ro_countHeld_36 (by decide) ?_
            refine ih (i + 1) (by omega) _ rfl ?_ rfl
            show some (Value.int (nI (cntH h i))) = some (Value.int (nI (cntH h i + if (h i).isSome then 1 else 0)))
            rw [c_27]; rfl
          · refine z_iinc (v := nI (cntH h i + 1)) hE d_Ro_countHeld_30 rfl (nI_1 _) (by decide) ?_
            refine z_iinc (v := nI (i + 1)) hE d_Ro_countHeld_33 rfl (nI_1 i) (by decide) ?_
            refine z_goto (tgt := 4) hE d_Ro_countHeld_36 (by decide) ?_
            refine ih (i + 1) (by omega) _ rfl ?_ rfl
            show some (Value.int (nI (cntH h i + 1))) = some (Value.int (nI (cntH h i + if (h i).isSome then 1 else 0)))
            rw [c_27]; rfl
  refine z_iconst (v := nI 0) hE d_Ro_countHeld_0 (by decide) ?_
  refine z_istore_n hE d_Ro_countHeld_1 rfl (by decide) ?_
  refine z_iconst (v := nI 0) hE d_Ro_countHeld_2 (by decide) ?_
  refine z_istore_n hE d_Ro_countHeld_3 rfl (by decide) ?_
  exact loop p 0 (by omega) _ rfl rfl rfl

