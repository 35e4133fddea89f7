/-! numbers in limbs, and a Natural's cells -/
def pP (v : Option Value) (g : Gh) (nx : Nat) : Option Value → Gh → Nat → Prop := fun r g' nx' => r = v ∧ g = g' ∧ nx = nx'
/-- a void method's end: the heap is this one -/
def pV (g1 : Gh) (nx : Nat) : Option Value → Gh → Nat → Prop := fun r g' nx' => r = none ∧ g1 = g' ∧ nx = nx'
def upN (d : Nat → Nat) (k x : Nat) : Nat → Nat := fun j => if j = k then x else d j
def val (d : Nat → Nat) : Nat → Nat
  | 0 => 0
  | n + 1 => val d n + d n * 4294967296 ^ n
def dz (n : Nat) (d : Nat → Nat) (i : Int) : Nat := if 0 ≤ i ∧ i < n then d i.toNat else 0
def tl (d : Nat → Nat) : Nat → Nat
  | 0 => 0
  | n + 1 => if d n = 0 then tl d n else n + 1
abbrev oN (a n : Nat) : gE := .inr (2, [.ref (a + 1), .int (nI n)])
abbrev oL (N : Nat) (d : Nat → Nat) : gE := .inl (0, N, .inr (.inl (fun j => lN (d j))))
def gN (g : Gh) (a N n : Nat) (d : Nat → Nat) : Gh := gS (gS g (a + 1) (oL N d)) a (oN a n)
def RN (g : Gh) (a N n : Nat) (d : Nat → Nat) : Prop := g a = some (oN a n) ∧ g (a + 1) = some (oL N d) ∧ n ≤ N ∧ N ≤ 20 ∧ ∀ j, d j < 4294967296
theorem RN_gN {g : Gh} {a N n : Nat} {d : Nat → Nat} (h1 : n ≤ N) (h2 : N ≤ 20) (h3 : ∀ j, d j < 4294967296) : RN (gN g a N n d) a N n d := ⟨gS_s, by rw [gN, gS_n (by omega), gS_s], h1, h2, h3⟩
theorem gN_a {g : Gh} {a N n : Nat} {d : Nat → Nat} : gN g a N n d a = some (oN a n) := gS_s
theorem gN_p {g : Gh} {a N n : Nat} {d : Nat → Nat} : gN g a N n d (a + 1) = some (oL N d) := by rw [gN, gS_n (by omega), gS_s]
theorem gN_o {g : Gh} {a N n q : Nat} {d : Nat → Nat} (h1 : q ≠ a) (h2 : q ≠ a + 1) : gN g a N n d q = g q := by rw [gN, gS_n h1, gS_n h2]
theorem gN_gN {g : Gh} {a N n m N' : Nat} {d e : Nat → Nat} : gN (gN g a N n d) a N' m e = gN g a N' m e := by
  funext q
  by_cases h1 : q = a
  · rw [h1, gN_a, gN_a]
  · by_cases h2 : q = a + 1
    · rw [h2, gN_p, gN_p]
    · rw [gN_o h1 h2, gN_o h1 h2, gN_o h1 h2]
theorem gN_id {g : Gh} {a N n : Nat} {d : Nat → Nat} (h : RN g a N n d) : gN g a N n d = g := by
  funext q
  by_cases h1 : q = a
  · rw [h1, gN_a, h.1]
  · by_cases h2 : q = a + 1
    · rw [h2, gN_p, h.2.1]
    · rw [gN_o h1 h2]
theorem gN_obj {g : Gh} {a N n m : Nat} {d : Nat → Nat} (h : RN g a N n d) : gS g a (oN a m) = gN g a N m d := by
  funext q
  by_cases h1 : q = a
  · rw [h1, gN_a, gS_s]
  · rw [gS_n h1]
    by_cases h2 : q = a + 1
    · rw [h2, gN_p, h.2.1]
    · rw [gN_o h1 h2]
theorem gN_arr {g : Gh} {a N n : Nat} {d e : Nat → Nat} (h : RN g a N n d) : gS g (a + 1) (oL N e) = gN g a N n e := by
  funext q
  by_cases h1 : q = a
  · rw [h1, gN_a, gS_n (by omega), h.1]
  · by_cases h2 : q = a + 1
    · rw [h2, gN_p, gS_s]
    · rw [gN_o h1 h2, gS_n h2]
theorem RN_apart {g : Gh} {a b N M n m : Nat} {d e : Nat → Nat} (ha : RN g a N n d) (hb : RN g b M m e) : b ≠ a + 1 := by
  intro h
  have h1 := hb.1
  rw [h, ha.2.1] at h1
  cases h1
theorem RN_o {g : Gh} {a b N M n m k : Nat} {d e f : Nat → Nat} (ha : RN g a N n d) (hb : RN g b M m e) (h : b ≠ a) : RN (gN g a N k f) b M m e := by
  have h1 := RN_apart ha hb
  have h2 := RN_apart hb ha
  exact ⟨by rw [gN_o h h1]; exact hb.1, by rw [gN_o (by omega) (by omega)]; exact hb.2.1, hb.2.2⟩
theorem updL_upN (d : Nat → Nat) (k x : Nat) : vp_updL (fun j => lN (d j)) k (lN x) = fun j => lN (upN d k x j) := by
  funext j
  unfold vp_updL upN
  split <;> rfl
theorem upN_lt {d : Nat → Nat} {k x : Nat} (h : ∀ j, d j < 4294967296) (hx : x < 4294967296) : ∀ j, upN d k x j < 4294967296 := by
  intro j
  unfold upN
  split
  · exact hx
  · exact h j
theorem i_lt0 {x : Int32} : x < 0 ↔ x.toInt < 0 := by rw [Int32.lt_iff_toInt_lt]; rfl
theorem i_ge0 {x : Int32} : 0 ≤ x ↔ 0 ≤ x.toInt := by rw [Int32.le_iff_toInt_le]; rfl
theorem i_clamp {x : Int32} {k : Nat} (h : x.toInt = k) : x.toNatClampNeg = k := by
  rw [Int32.toNatClampNeg, h]; rfl
theorem i_in {x : Int32} {n : Nat} (h0 : 0 ≤ x.toInt) (h1 : x.toInt < n) : vp_in x n := vp_in_iff.mpr ⟨h0, h1⟩
theorem nI_in' {k n : Nat} (h : k < n) (hn : n ≤ 1000000) : vp_in (nI k) n := vp_in_nI h (by omega)
theorem nI_cl {k : Nat} (h : k ≤ 1000000) : (nI k).toNatClampNeg = k := nI_clamp (by omega)
theorem nI_ti {k : Nat} (h : k ≤ 1000000) : (nI k).toInt = k := nI_toInt (by omega)
theorem nI_LT {a b : Nat} (ha : a ≤ 1000000) (hb : b ≤ 1000000) : nI a < nI b ↔ a < b := nI_ltI (by omega) (by omega)
theorem nI_LE {a b : Nat} (ha : a ≤ 1000000) (hb : b ≤ 1000000) : nI a ≤ nI b ↔ a ≤ b := nI_leI (by omega) (by omega)
theorem nI_EQ {a b : Nat} (ha : a ≤ 1000000) (hb : b ≤ 1000000) : nI a = nI b ↔ a = b := nI_eq (by omega) (by omega)
theorem dz_in {n k : Nat} {d : Nat → Nat} (h : k < n) : dz n d (k : Int) = d k := by
  unfold dz
  rw [if_pos ⟨by omega, by omega⟩]
  rfl
theorem dz_out {n : Nat} {d : Nat → Nat} {i : Int} (h : i < 0 ∨ (n : Int) ≤ i) : dz n d i = 0 := by
  unfold dz
  rw [if_neg (by omega)]
theorem dz_lt {n : Nat} {d : Nat → Nat} (h : ∀ j, d j < 4294967296) (i : Int) : dz n d i < 4294967296 := by
  unfold dz
  split
  · exact h _
  · omega
theorem d_Na_at_0 : decode b_Na_at 0 = .ok (.iload_n 1, 1) := by decide +kernel
theorem d_Na_at_1 : decode b_Na_at 1 = .ok (.ifCond .lt 29, 3) := by decide +kernel
theorem d_Na_at_4 : decode b_Na_at 4 = .ok (.iload_n 1, 1) := by decide +kernel
theorem d_Na_at_5 : decode b_Na_at 5 = .ok (.aload_n 0, 1) := by decide +kernel
theorem d_Na_at_6 : decode b_Na_at 6 = .ok (.getfield 13, 3) := by decide +kernel
theorem d_Na_at_9 : decode b_Na_at 9 = .ok (.if_icmp .ge 21, 3) := by decide +kernel
theorem d_Na_at_12 : decode b_Na_at 12 = .ok (.iload_n 1, 1) := by decide +kernel
theorem d_Na_at_13 : decode b_Na_at 13 = .ok (.aload_n 0, 1) := by decide +kernel
theorem d_Na_at_14 : decode b_Na_at 14 = .ok (.getfield 7, 3) := by decide +kernel
theorem d_Na_at_17 : decode b_Na_at 17 = .ok (.arraylength, 1) := by decide +kernel
theorem d_Na_at_18 : decode b_Na_at 18 = .ok (.if_icmp .ge 12, 3) := by decide +kernel
theorem d_Na_at_21 : decode b_Na_at 21 = .ok (.aload_n 0, 1) := by decide +kernel
theorem d_Na_at_22 : decode b_Na_at 22 = .ok (.getfield 7, 3) := by decide +kernel
theorem d_Na_at_25 : decode b_Na_at 25 = .ok (.iload_n 1, 1) := by decide +kernel
theorem d_Na_at_26 : decode b_Na_at 26 = .ok (.laload, 1) := by decide +kernel
theorem d_Na_at_27 : decode b_Na_at 27 = .ok (.goto 4, 3) := by decide +kernel
theorem d_Na_at_30 : decode b_Na_at 30 = .ok (.lconst 0, 1) := by decide +kernel
theorem d_Na_at_31 : decode b_Na_at 31 = .ok (.lreturn, 1) := by decide +kernel
theorem d_Na_store_0 : decode b_Na_store 0 = .ok (.iload_n 1, 1) := by decide +kernel
theorem d_Na_store_1 : decode b_Na_store 1 = .ok (.ifCond .lt 19, 3) := by decide +kernel
theorem d_Na_store_4 : decode b_Na_store 4 = .ok (.iload_n 1, 1) := by decide +kernel
theorem d_Na_store_5 : decode b_Na_store 5 = .ok (.aload_n 0, 1) := by decide +kernel
theorem d_Na_store_6 : decode b_Na_store 6 = .ok (.getfield 7, 3) := by decide +kernel
theorem d_Na_store_9 : decode b_Na_store 9 = .ok (.arraylength, 1) := by decide +kernel
theorem d_Na_store_10 : decode b_Na_store 10 = .ok (.if_icmp .ge 10, 3) := by decide +kernel
theorem d_Na_store_13 : decode b_Na_store 13 = .ok (.aload_n 0, 1) := by decide +kernel
theorem d_Na_store_14 : decode b_Na_store 14 = .ok (.getfield 7, 3) := by decide +kernel
theorem d_Na_store_17 : decode b_Na_store 17 = .ok (.iload_n 1, 1) := by decide +kernel
theorem d_Na_store_18 : decode b_Na_store 18 = .ok (.lload_n 2, 1) := by decide +kernel
theorem d_Na_store_19 : decode b_Na_store 19 = .ok (.lastore, 1) := by decide +kernel
theorem d_Na_store_20 : decode b_Na_store 20 = .ok (.return_, 1) := by decide +kernel
theorem d_Na_widen_0 : decode b_Na_widen 0 = .ok (.iload_n 1, 1) := by decide +kernel
theorem d_Na_widen_1 : decode b_Na_widen 1 = .ok (.aload_n 0, 1) := by decide +kernel
theorem d_Na_widen_2 : decode b_Na_widen 2 = .ok (.getfield 7, 3) := by decide +kernel
theorem d_Na_widen_5 : decode b_Na_widen 5 = .ok (.arraylength, 1) := by decide +kernel
theorem d_Na_widen_6 : decode b_Na_widen 6 = .ok (.invokestatic 17, 3) := by decide +kernel
theorem d_Na_widen_9 : decode b_Na_widen 9 = .ok (.istore_n 2, 1) := by decide +kernel
theorem d_Na_widen_10 : decode b_Na_widen 10 = .ok (.aload_n 0, 1) := by decide +kernel
theorem d_Na_widen_11 : decode b_Na_widen 11 = .ok (.getfield 13, 3) := by decide +kernel
theorem d_Na_widen_14 : decode b_Na_widen 14 = .ok (.istore_n 3, 1) := by decide +kernel
theorem d_Na_widen_15 : decode b_Na_widen 15 = .ok (.iload_n 3, 1) := by decide +kernel
theorem d_Na_widen_16 : decode b_Na_widen 16 = .ok (.iload_n 2, 1) := by decide +kernel
theorem d_Na_widen_17 : decode b_Na_widen 17 = .ok (.if_icmp .ge 16, 3) := by decide +kernel
theorem d_Na_widen_20 : decode b_Na_widen 20 = .ok (.aload_n 0, 1) := by decide +kernel
theorem d_Na_widen_21 : decode b_Na_widen 21 = .ok (.getfield 7, 3) := by decide +kernel
theorem d_Na_widen_24 : decode b_Na_widen 24 = .ok (.iload_n 3, 1) := by decide +kernel
theorem d_Na_widen_25 : decode b_Na_widen 25 = .ok (.lconst 0, 1) := by decide +kernel
theorem d_Na_widen_26 : decode b_Na_widen 26 = .ok (.lastore, 1) := by decide +kernel
theorem d_Na_widen_27 : decode b_Na_widen 27 = .ok (.iinc 3 1, 3) := by decide +kernel
theorem d_Na_widen_30 : decode b_Na_widen 30 = .ok (.goto (-15), 3) := by decide +kernel
theorem d_Na_widen_33 : decode b_Na_widen 33 = .ok (.aload_n 0, 1) := by decide +kernel
theorem d_Na_widen_34 : decode b_Na_widen 34 = .ok (.aload_n 0, 1) := by decide +kernel
theorem d_Na_widen_35 : decode b_Na_widen 35 = .ok (.getfield 13, 3) := by decide +kernel
theorem d_Na_widen_38 : decode b_Na_widen 38 = .ok (.iload_n 2, 1) := by decide +kernel
theorem d_Na_widen_39 : decode b_Na_widen 39 = .ok (.invokestatic 23, 3) := by decide +kernel
theorem d_Na_widen_42 : decode b_Na_widen 42 = .ok (.putfield 13, 3) := by decide +kernel
theorem d_Na_widen_45 : decode b_Na_widen 45 = .ok (.return_, 1) := by decide +kernel
theorem d_Na_trim_0 : decode b_Na_trim 0 = .ok (.aload_n 0, 1) := by decide +kernel
theorem d_Na_trim_1 : decode b_Na_trim 1 = .ok (.getfield 13, 3) := by decide +kernel
theorem d_Na_trim_4 : decode b_Na_trim 4 = .ok (.iconst 1, 1) := by decide +kernel
theorem d_Na_trim_5 : decode b_Na_trim 5 = .ok (.isub, 1) := by decide +kernel
theorem d_Na_trim_6 : decode b_Na_trim 6 = .ok (.istore_n 1, 1) := by decide +kernel
theorem d_Na_trim_7 : decode b_Na_trim 7 = .ok (.iload_n 1, 1) := by decide +kernel
theorem d_Na_trim_8 : decode b_Na_trim 8 = .ok (.ifCond .lt 24, 3) := by decide +kernel
theorem d_Na_trim_11 : decode b_Na_trim 11 = .ok (.aload_n 0, 1) := by decide +kernel
theorem d_Na_trim_12 : decode b_Na_trim 12 = .ok (.iload_n 1, 1) := by decide +kernel
theorem d_Na_trim_13 : decode b_Na_trim 13 = .ok (.invokevirtual 26, 3) := by decide +kernel
theorem d_Na_trim_16 : decode b_Na_trim 16 = .ok (.lconst 0, 1) := by decide +kernel
theorem d_Na_trim_17 : decode b_Na_trim 17 = .ok (.lcmp, 1) := by decide +kernel
theorem d_Na_trim_18 : decode b_Na_trim 18 = .ok (.ifCond .ne 14, 3) := by decide +kernel
theorem d_Na_trim_21 : decode b_Na_trim 21 = .ok (.aload_n 0, 1) := by decide +kernel
theorem d_Na_trim_22 : decode b_Na_trim 22 = .ok (.iload_n 1, 1) := by decide +kernel
theorem d_Na_trim_23 : decode b_Na_trim 23 = .ok (.putfield 13, 3) := by decide +kernel
theorem d_Na_trim_26 : decode b_Na_trim 26 = .ok (.iinc 1 (-1), 3) := by decide +kernel
theorem d_Na_trim_29 : decode b_Na_trim 29 = .ok (.goto (-22), 3) := by decide +kernel
theorem d_Na_trim_32 : decode b_Na_trim 32 = .ok (.return_, 1) := by decide +kernel
theorem d_Na_clear_0 : decode b_Na_clear 0 = .ok (.aload_n 0, 1) := by decide +kernel
theorem d_Na_clear_1 : decode b_Na_clear 1 = .ok (.iconst 0, 1) := by decide +kernel
theorem d_Na_clear_2 : decode b_Na_clear 2 = .ok (.putfield 13, 3) := by decide +kernel
theorem d_Na_clear_5 : decode b_Na_clear 5 = .ok (.return_, 1) := by decide +kernel
theorem i_max {a b : Nat} (ha : a ≤ 1000000) (hb : b ≤ 1000000) : (if nI a < nI b then nI b else nI a) = nI (max a b) := by
  by_cases hab : a < b
  · rw [if_pos ((nI_LT ha hb).mpr hab), Nat.max_eq_right (by omega)]
  · rw [if_neg (fun q => hab ((nI_LT ha hb).mp q)), Nat.max_eq_left (by omega)]
theorem i_min {a b : Nat} (ha : a ≤ 1000000) (hb : b ≤ 1000000) : (if nI b < nI a then nI b else nI a) = nI (min a b) := by
  by_cases hab : b < a
  · rw [if_pos ((nI_LT hb ha).mpr hab), Nat.min_eq_right (by omega)]
  · rw [if_neg (fun q => hab ((nI_LT hb ha).mp q)), Nat.min_eq_left (by omega)]
theorem c_Na_at (l : Launch) {g : Gh} (nx : Nat) {a N n : Nat} {d : Nat → Nat} (h : RN g a N n d) (i : Int32) : Ct l m_Na_at 0 0 [.ref a, .int i] g nx (pP (some (.long (lN (dz n d i.toInt)))) g nx) := by
  obtain ⟨h1, h2, h3, h4, h5⟩ := h
  refine Ct.of (by decide) (Nat.le_of_ble_eq_true rfl) (fun E hE hQ => ?_)
  have fin : ∀ {lv : List (Nat × Value)} {v : Int64}, v = lN (dz n d i.toInt) → zJ E g nx 0 0 31 lv [.long v] := fun hv =>
    z_lret hE hQ d_Na_at_31 rfl (Nat.le_refl _) (Nat.le_refl _) ⟨by rw [hv], rfl, rfl⟩
  refine z_iload_n hE d_Na_at_0 rfl ?_
  refine z_if_lt (tgt := 30) hE d_Na_at_1 (by decide) (fun c_1 => ?_) (fun c_1 => ?_)
  · refine z_lconst (v := 0) hE d_Na_at_30 (by decide) ?_
    exact fin (by rw [dz_out (Or.inl (i_lt0.mp c_1))]; rfl)
  · have g0 : 0 ≤ i.toInt := by have := mt i_lt0.mpr c_1; omega
    refine z_iload_n hE d_Na_at_4 rfl ?_
    refine z_aload_n hE d_Na_at_5 rfl ?_
    refine z_get hE d_Na_at_6 fl_Na_13 (by assumption) rfl ?_
    refine z_icmp_ge (tgt := 30) hE d_Na_at_9 (by decide) (fun c_9 => ?_) (fun c_9 => ?_)
    · refine z_lconst (v := 0) hE d_Na_at_30 (by decide) ?_
      refine fin ?_
      rw [Int32.le_iff_toInt_le, nI_ti (by omega)] at c_9
      rw [dz_out (Or.inr c_9)]; rfl
    · rw [Int32.le_iff_toInt_le, nI_ti (by omega)] at c_9
      refine z_iload_n hE d_Na_at_12 rfl ?_
      refine z_aload_n hE d_Na_at_13 rfl ?_
      refine z_get hE d_Na_at_14 fl_Na_7 (by assumption) rfl ?_
      refine z_alen hE d_Na_at_17 (by assumption) (by decide) (rfl) ?_
      refine z_icmp_ge (tgt := 30) hE d_Na_at_18 (by decide) (fun c_18 => ?_) (fun c_18 => ?_)
      · rw [Int32.le_iff_toInt_le] at c_18
        have e : (Int32.ofNat N).toInt = N := nI_ti (by omega)
        exact absurd c_18 (by rw [e]; omega)
      · refine z_aload_n hE d_Na_at_21 rfl ?_
        refine z_get hE d_Na_at_22 fl_Na_7 (by assumption) rfl ?_
        refine z_iload_n hE d_Na_at_25 rfl ?_
        refine z_lald hE d_Na_at_26 (by assumption) (i_in g0 (by omega)) ?_
        refine z_goto (tgt := 31) hE d_Na_at_27 (by decide) ?_
        refine fin ?_
        obtain ⟨k, hk⟩ : ∃ k : Nat, i.toInt = k := ⟨i.toInt.toNat, by omega⟩
        rw [i_clamp hk, hk, dz_in (by omega)]
theorem c_Na_store (l : Launch) {g : Gh} (nx : Nat) {a N n : Nat} {d : Nat → Nat} (h : RN g a N n d) {k : Nat} (hk : k < N) (x : Nat) : Ct l m_Na_store 0 0 [.ref a, .int (nI k), .long (lN x)] g nx (pV (gN g a N n (upN d k x)) nx) := by
  obtain ⟨h1, h2, h3, h4, h5⟩ := id h
  refine Ct.of (by decide) (Nat.le_of_ble_eq_true rfl) (fun E hE hQ => ?_)
  refine z_iload_n hE d_Na_store_0 rfl ?_
  refine z_if_lt (tgt := 20) hE d_Na_store_1 (by decide) (fun c_1 => ?_) (fun c_1 => ?_)
  · exact absurd c_1 (nI_pos (by omega))
  · refine z_iload_n hE d_Na_store_4 rfl ?_
    refine z_aload_n hE d_Na_store_5 rfl ?_
    refine z_get hE d_Na_store_6 fl_Na_7 (by assumption) rfl ?_
    refine z_alen hE d_Na_store_9 (by assumption) (by decide) (rfl) ?_
    refine z_icmp_ge (tgt := 20) hE d_Na_store_10 (by decide) (fun c_10 => ?_) (fun c_10 => ?_)
    · exact absurd c_10 (nI_ge hk (by omega))
    · refine z_aload_n hE d_Na_store_13 rfl ?_
      refine z_get hE d_Na_store_14 fl_Na_7 (by assumption) rfl ?_
      refine z_iload_n hE d_Na_store_17 rfl ?_
      refine z_lload_n hE d_Na_store_18 rfl ?_
      refine z_last hE d_Na_store_19 (by assumption) (nI_in' hk (by omega)) ?_
      rw [nI_cl (by omega), updL_upN]
      refine z_vret hE hQ d_Na_store_20 rfl (Nat.le_refl _) (Nat.le_refl _) ⟨rfl, (gN_arr h).symm, rfl⟩
theorem c_Na_clear (l : Launch) {g : Gh} (nx : Nat) {a N n : Nat} {d : Nat → Nat} (h : RN g a N n d) : Ct l m_Na_clear 0 0 [.ref a] g nx (pV (gN g a N 0 d) nx) := by
  obtain ⟨h1, h2, h3, h4, h5⟩ := id h
  refine Ct.of (by decide) (Nat.le_of_ble_eq_true rfl) (fun E hE hQ => ?_)
  refine z_aload_n hE d_Na_clear_0 rfl ?_
  refine z_iconst (v := 0) hE d_Na_clear_1 (by decide) ?_
  refine z_put hE d_Na_clear_2 fl_Na_13 ct_Na ff_Na_1 (by assumption) rfl rfl (Nat.le_of_ble_eq_true rfl) ?_
  exact z_vret hE hQ d_Na_clear_5 rfl (Nat.le_refl _) (Nat.le_refl _) ⟨rfl, (gN_obj h).symm, rfl⟩
theorem c_Na_widen (l : Launch) {g : Gh} (nx : Nat) {a N n : Nat} {d : Nat → Nat} (h : RN g a N n d) (m : Nat) (hm : m ≤ 1000) : Ct l m_Na_widen 0 0 [.ref a, .int (nI m)] g nx (pV (gN g a N (max n (min m N)) (fun j => if n ≤ j ∧ j < min m N then 0 else d j)) nx) := by
  obtain ⟨h1, h2, h3, h4, h5⟩ := id h
  refine Ct.of (by decide) (Nat.le_of_ble_eq_true rfl) (fun E hE hQ => ?_)
  refine z_iload_n hE d_Na_widen_0 rfl ?_
  refine z_aload_n hE d_Na_widen_1 rfl ?_
  refine z_get hE d_Na_widen_2 fl_Na_7 (by assumption) rfl ?_
  refine z_alen hE d_Na_widen_5 (by assumption) (by decide) (rfl) ?_
  refine z_mmin (v := nI (min m N)) hE d_Na_widen_6 cl_Na_17 (by decide) (Nat.le_of_ble_eq_true rfl) (by omega) (by omega) (i_min (by omega) (by omega)) ?_
  refine z_istore_n hE d_Na_widen_9 rfl (by decide) ?_
  refine z_aload_n hE d_Na_widen_10 rfl ?_
  refine z_get hE d_Na_widen_11 fl_Na_13 (by assumption) rfl ?_
  refine z_istore_n hE d_Na_widen_14 rfl (by decide) ?_
  -- the loop: places from i on are still as they were
  have loop : ∀ (w i : Nat), n ≤ i → (i ≤ min m N ∨ i = n) → min m N - i = w → zJ E (gN g a N n (fun j => if n ≤ j ∧ j < i ∧ j < min m N then 0 else d j)) nx 0 0 15 [(0, .ref a), (1, .int (nI m)), (2, .int (nI (min m N))), (3, .int (nI i))] [] := by
    intro w
    induction w with
    | zero =>
      intro i hi hin hw
      have hR : RN (gN g a N n (fun j => if n ≤ j ∧ j < i ∧ j < min m N then 0 else d j)) a N n (fun j => if n ≤ j ∧ j < i ∧ j < min m N then 0 else d j) := RN_gN h3 h4 (fun j => by split; omega; exact h5 j)
      refine z_iload_n hE d_Na_widen_15 rfl ?_
      refine z_iload_n hE d_Na_widen_16 rfl ?_
      refine z_icmp_ge (tgt := 33) hE d_Na_widen_17 (by decide) (fun c_17 => ?_) (fun c_17 => ?_)
      · obtain ⟨q1, q2, -⟩ := id hR
        refine z_aload_n hE d_Na_widen_33 rfl ?_
        refine z_aload_n hE d_Na_widen_34 rfl ?_
        refine z_get hE d_Na_widen_35 fl_Na_13 (by assumption) rfl ?_
        refine z_iload_n hE d_Na_widen_38 rfl ?_
        refine z_mmax (v := nI (max n (min m N))) hE d_Na_widen_39 cl_Na_23 (by decide) (Nat.le_of_ble_eq_true rfl) (by omega) (by omega) (i_max (by omega) (by omega)) ?_
        refine z_put hE d_Na_widen_42 fl_Na_13 ct_Na ff_Na_1 (by assumption) rfl rfl (Nat.le_of_ble_eq_true rfl) ?_
        refine z_vret hE hQ d_Na_widen_45 rfl (Nat.le_refl _) (Nat.le_refl _) ⟨rfl, ?_, rfl⟩
        show _ = gS _ a (oN a (max n (min m N)))
        rw [gN_obj hR, gN_gN]
        congr 1
        funext j
        by_cases hj : n ≤ j ∧ j < min m N
        · rw [if_pos hj, if_pos (by omega)]
        · rw [if_neg hj, if_neg (by omega)]
      · exact absurd ((nI_LE (by omega) (by omega)).mpr (by omega)) c_17
    | succ w ih =>
      intro i hi hin hw
      have hR : RN (gN g a N n (fun j => if n ≤ j ∧ j < i ∧ j < min m N then 0 else d j)) a N n (fun j => if n ≤ j ∧ j < i ∧ j < min m N then 0 else d j) := RN_gN h3 h4 (fun j => by split; omega; exact h5 j)
      refine z_iload_n hE d_Na_widen_15 rfl ?_
      refine z_iload_n hE d_Na_widen_16 rfl ?_
      refine z_icmp_ge (tgt := 33) hE d_Na_widen_17 (by decide) (fun c_17 => ?_) (fun c_17 => ?_)
      · exact absurd ((nI_LE (by omega) (by omega)).mp c_17) (by omega)
      · obtain ⟨q1, q2, -⟩ := id hR
        refine z_aload_n hE d_Na_widen_20 rfl ?_
        refine z_get hE d_Na_widen_21 fl_Na_7 (by assumption) rfl ?_
        refine z_iload_n hE d_Na_widen_24 rfl ?_
        refine z_lconst (v := lN 0) hE d_Na_widen_25 (by decide) ?_
        refine z_last hE d_Na_widen_26 (by assumption) (nI_in' (show i < N by omega) (by omega)) ?_
        rw [nI_cl (by omega), updL_upN, gN_arr hR, gN_gN]
        refine z_iinc (v := nI (i + 1)) hE d_Na_widen_27 rfl (nI_1 i) (by decide) ?_
        refine z_goto (tgt := 15) hE d_Na_widen_30 (by decide) ?_
        refine z_g ?_ (z_sub (lv' := [(0, .ref a), (1, .int (nI m)), (2, .int (nI (min m N))), (3, .int (nI (i + 1)))]) rfl (ih (i + 1) (by omega) (by omega) (by omega)))
        congr 1
        funext j
        unfold upN
        by_cases hj : j = i
        · rw [if_pos hj, if_pos (by omega)]
        · rw [if_neg hj]
          dsimp only
          by_cases hk : n ≤ j ∧ j < i ∧ j < min m N
          · rw [if_pos hk, if_pos (by omega)]
          · rw [if_neg hk, if_neg (by omega)]
  refine z_g ?_ (z_sub (lv' := [(0, .ref a), (1, .int (nI m)), (2, .int (nI (min m N))), (3, .int (nI n))]) rfl (loop _ n (Nat.le_refl _) (Or.inr rfl) rfl))
  have e : (fun j => if n ≤ j ∧ j < n ∧ j < min m N then 0 else d j) = d := by
    funext j
    rw [if_neg (by omega)]
  rw [e, gN_id h]
theorem tl_le (d : Nat → Nat) : ∀ n, tl d n ≤ n
  | 0 => Nat.le_refl 0
  | n + 1 => by
    unfold tl
    split
    · exact Nat.le_succ_of_le (tl_le d n)
    · exact Nat.le_refl _
theorem c_Na_trim (l : Launch) {g : Gh} (nx : Nat) {a N n : Nat} {d : Nat → Nat} (h : RN g a N n d) : Ct l m_Na_trim 0 0 [.ref a] g nx (pV (gN g a N (tl d n) d) nx) := by
  obtain ⟨h1, h2, h3, h4, h5⟩ := id h
  refine Ct.of (by decide) (Nat.le_of_ble_eq_true rfl) (fun E hE hQ => ?_)
  refine z_aload_n hE d_Na_trim_0 rfl ?_
  refine z_get hE d_Na_trim_1 fl_Na_13 (by assumption) rfl ?_
  refine z_iconst (v := 1) hE d_Na_trim_4 (by decide) ?_
  refine z_isub hE d_Na_trim_5 (rfl) ?_
  refine z_istore_n hE d_Na_trim_6 rfl (by decide) ?_
  have loop : ∀ (i : Nat), i ≤ n → ∀ x : Int32, x.toInt = (i : Int) - 1 → tl d i = tl d n → zJ E (gN g a N i d) nx 0 0 7 [(0, .ref a), (1, .int x)] [] := by
    intro i
    induction i with
    | zero =>
      intro hi x hxx ht
      refine z_iload_n hE d_Na_trim_7 rfl ?_
      refine z_if_lt (tgt := 32) hE d_Na_trim_8 (by decide) (fun c_8 => ?_) (fun c_8 => ?_)
      · exact z_vret hE hQ d_Na_trim_32 rfl (Nat.le_refl _) (Nat.le_refl _) ⟨rfl, by rw [← ht]; rfl, rfl⟩
      · exact absurd (i_lt0.mpr (by omega)) c_8
    | succ i ih =>
      intro hi x hxx ht
      have hR : RN (gN g a N (i + 1) d) a N (i + 1) d := RN_gN (by omega) h4 h5
      obtain ⟨q1, q2, -⟩ := id hR
      refine z_iload_n hE d_Na_trim_7 rfl ?_
      refine z_if_lt (tgt := 32) hE d_Na_trim_8 (by decide) (fun c_8 => ?_) (fun c_8 => ?_)
      · exact absurd (i_lt0.mp c_8) (by omega)
      · refine z_aload_n hE d_Na_trim_11 rfl ?_
        refine z_iload_n hE d_Na_trim_12 rfl ?_
        refine z_callV hE d_Na_trim_13 cl_Na_26 (c_Na_at l nx hR x) (by assumption) cb_Na rfl (Nat.le_of_ble_eq_true rfl) ⟨by decide, by decide⟩ ⟨by omega, by omega⟩ (fun r_13 g_13 nx_13 hp_13 => ?_) rfl
        obtain ⟨rfl, rfl, rfl⟩ := hp_13
        try dsimp only [Option.toList, List.nil_append, List.cons_append]
        have hd0 : dz (i + 1) d x.toInt = d i := by rw [show x.toInt = (i : Int) by omega, dz_in (by omega)]
        rw [hd0]
        refine z_lconst (v := lN 0) hE d_Na_trim_16 (by decide) ?_
        refine z_lcmp hE d_Na_trim_17 ?_
        refine z_if_ne (tgt := 32) hE d_Na_trim_18 (by decide) (fun c_18 => ?_) (fun c_18 => ?_)
        · rw [lg_cmp_eq, pk_lEQ (by have := h5 i; omega) (by omega)] at c_18
          refine z_vret hE hQ d_Na_trim_32 rfl (Nat.le_refl _) (Nat.le_refl _) ⟨rfl, ?_, rfl⟩
          rw [← ht, show tl d (i + 1) = i + 1 from if_neg c_18]
        · rw [lg_cmp_eq, pk_lEQ (by have := h5 i; omega) (by omega)] at c_18
          have ht2 : tl d i = tl d n := by rw [← ht, show tl d (i + 1) = tl d i from if_pos c_18]
          have hxi : x = nI i := by
            rw [← Int32.toInt_inj, nI_ti (by omega)]; omega
          refine z_aload_n hE d_Na_trim_21 rfl ?_
          refine z_iload_n hE d_Na_trim_22 rfl ?_
          refine z_put hE d_Na_trim_23 fl_Na_13 ct_Na ff_Na_1 (by assumption) rfl rfl (Nat.le_of_ble_eq_true rfl) ?_
          rw [hxi]
          rw [show gS (gN g a N (i + 1) d) a (Sum.inr (2, [Value.ref (a + 1), Value.int (nI (i + 1))].set 1 (Value.int (nI i)))) = gN g a N i d from (gN_obj hR).trans gN_gN]
          refine z_iinc (v := nI i + (-1)) hE d_Na_trim_26 rfl (rfl) (by decide) ?_
          refine z_goto (tgt := 7) hE d_Na_trim_29 (by decide) ?_
          refine z_sub (lv' := [(0, .ref a), (1, .int (nI i + (-1)))]) rfl (ih (by omega) _ ?_ ht2)
          cases i with
          | zero => rfl
          | succ i => rw [pk_m1, nI_ti (by omega)]; omega
  refine z_g (gN_id h).symm (z_sub (lv' := [(0, .ref a), (1, .int (nI n - 1))]) rfl (loop n (Nat.le_refl _) _ ?_ rfl))
  cases n with
  | zero => rfl
  | succ n => rw [nI_pred, nI_ti (by omega)]; omega

