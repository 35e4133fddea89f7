/-! the reference: its world -/
abbrev oM (P : Nat) (c n ts : Int32) : gE := .inr (7, [.ref (P + 1), .ref (P + 2), .ref (P + 3), .ref (P + 4), .ref (P + 5), .int c, .int n, .ref (P + 6), .ref (P + 7), .int ts, .ref (P + 8), .ref (P + 9), .ref (P + 10), .ref (P + 11), .ref (P + 12), .ref (P + 13)])
def MV (g : Gh) (P : Nat) (E : Nat → Option Qf) (pl : Nat → Int32) (c n ts : Int32) (t : Nat → Nat) : Prop :=
  g P = some (oM P c n ts) ∧ (∃ th, g (P + 1) = some (.inl (2, 58, .inl th)) ∧ ∀ j, j < 58 → th j = if (E j).isSome then 1 else 0) ∧
  (∃ (sn : Nat → Int32) (A B : Nat → Nat), g (P + 2) = some (.inl (1, 58, .inl sn)) ∧ g (P + 3) = some (oI 928 A) ∧ g (P + 4) = some (oI 928 B) ∧ (∀ j, A j < 65536) ∧ (∀ j, B j < 65536) ∧ ∀ j, j < 58 → ∀ q, E j = some q → sn j = q.1 ∧ w16 (fun i => A (16 * j + i)) 16 = q.2.1 ∧ w16 (fun i => B (16 * j + i)) 16 = q.2.2) ∧
  (∃ rm, g (P + 5) = some (.inl (1, 4, .inl rm)) ∧ ∀ r, r < 4 → rm r = pl r) ∧ ∀ k, 6 ≤ k → k ≤ 13 → MA g (P + k) (t k)
def upE (E : Nat → Option Qf) (f : Nat) (q : Option Qf) : Nat → Option Qf := fun j => if j = f then q else E j
theorem MV_m {g : Gh} {P : Nat} {E : Nat → Option Qf} {pl : Nat → Int32} {c n ts : Int32} {t : Nat → Nat} (h : MV g P E pl c n ts t) (k : Nat) (h1 : 6 ≤ k) (h2 : k ≤ 13) : MA g (P + k) (t k) := h.2.2.2.2 k h1 h2
theorem MV_x {g g' : Gh} {P : Nat} {E : Nat → Option Qf} {pl : Nat → Int32} {c n ts : Int32} {t t' : Nat → Nat} (h : MV g P E pl c n ts t) (h1 : ∀ q, P ≤ q → q < P + 6 → g' q = g q) (h2 : ∀ k, 6 ≤ k → k ≤ 13 → MA g' (P + k) (t' k)) : MV g' P E pl c n ts t' := by
  obtain ⟨a1, ⟨th, a2, a3⟩, ⟨sn, A, B, b1, b2, b3, b4, b5, b6⟩, ⟨rm, c1, c2⟩, d⟩ := h
  exact ⟨by rw [h1 P (by omega) (by omega)]; exact a1, ⟨th, by rw [h1 _ (by omega) (by omega)]; exact a2, a3⟩, ⟨sn, A, B, by rw [h1 _ (by omega) (by omega)]; exact b1, by rw [h1 _ (by omega) (by omega)]; exact b2, by rw [h1 _ (by omega) (by omega)]; exact b3, b4, b5, b6⟩, ⟨rm, by rw [h1 _ (by omega) (by omega)]; exact c1, c2⟩, h2⟩
theorem MV_up {g g' : Gh} {P k x : Nat} {E : Nat → Option Qf} {pl : Nat → Int32} {c n ts : Int32} {t : Nat → Nat} (h : MV g P E pl c n ts t) (hk : 6 ≤ k) (hM : MA g' (P + k) x) (h1 : g1 g g' (P + k)) : MV g' P E pl c n ts (upN t k x) := by
  refine MV_x h (fun q z1 z2 => h1 q (by omega)) (fun j j1 j2 => ?_)
  unfold upN
  by_cases hj : j = k
  · rw [if_pos hj, hj]; exact hM
  · rw [if_neg hj]; exact MA_o (MV_m h j j1 j2) h1 (by omega)
theorem MV_up2 {g g' : Gh} {P k m x y : Nat} {E : Nat → Option Qf} {pl : Nat → Int32} {c n ts : Int32} {t : Nat → Nat} (h : MV g P E pl c n ts t) (hk : 6 ≤ k) (hm : 6 ≤ m) (hM : MA g' (P + k) x) (hN : MA g' (P + m) y) (h1 : g2 g g' (P + k) (P + m)) : MV g' P E pl c n ts (upN (upN t k x) m y) := by
  refine MV_x h (fun q z1 z2 => h1 q (by omega) (by omega)) (fun j j1 j2 => ?_)
  unfold upN
  by_cases hj : j = m
  · rw [if_pos hj, hj]; exact hN
  · rw [if_neg hj]
    by_cases hj2 : j = k
    · rw [if_pos hj2, hj2]; exact hM
    · rw [if_neg hj2]
      obtain ⟨d, hd, e⟩ := MV_m h j j1 j2
      exact ⟨d, ⟨(h1 _ (by omega) (by omega)).trans hd.1, hd.2⟩, e⟩
theorem MV_put {g : Gh} {P : Nat} {E : Nat → Option Qf} {pl : Nat → Int32} {c n ts : Int32} {t : Nat → Nat} (h : MV g P E pl c n ts t) (c' n' ts' : Int32) : MV (gS g P (oM P c' n' ts')) P E pl c' n' ts' t := by
  obtain ⟨a1, ⟨th, a2, a3⟩, ⟨sn, A, B, b1, b2, b3, b4, b5, b6⟩, ⟨rm, c1, c2⟩, d⟩ := h
  exact ⟨gS_s, ⟨th, by rw [gS_n (by omega)]; exact a2, a3⟩, ⟨sn, A, B, by rw [gS_n (by omega)]; exact b1, by rw [gS_n (by omega)]; exact b2, by rw [gS_n (by omega)]; exact b3, b4, b5, b6⟩, ⟨rm, by rw [gS_n (by omega)]; exact c1, c2⟩, fun k k1 k2 => MA_o (d k k1 k2) g1_S (by omega)⟩
theorem g1_W {g g' : Gh} {a lo hi : Nat} (h : g1 g g' a) (h1 : lo ≤ a) (h2 : a < hi) : gW g g' lo hi := fun q hq => h q (by omega)
theorem g2_W {g g' : Gh} {a b lo hi : Nat} (h : g2 g g' a b) (h1 : lo ≤ a) (h2 : a < hi) (h3 : lo ≤ b) (h4 : b < hi) : gW g g' lo hi := fun q hq => h q (by omega) (by omega)
theorem d_Mo_divide_0 : decode b_Mo_divide 0 = .ok (.aload_n 0, 1) := by decide +kernel
theorem d_Mo_divide_1 : decode b_Mo_divide 1 = .ok (.getfield 44, 3) := by decide +kernel
theorem d_Mo_divide_4 : decode b_Mo_divide 4 = .ok (.invokestatic 54, 3) := by decide +kernel
theorem d_Mo_divide_7 : decode b_Mo_divide 7 = .ok (.aload_n 0, 1) := by decide +kernel
theorem d_Mo_divide_8 : decode b_Mo_divide 8 = .ok (.getfield 47, 3) := by decide +kernel
theorem d_Mo_divide_11 : decode b_Mo_divide 11 = .ok (.invokestatic 54, 3) := by decide +kernel
theorem d_Mo_divide_14 : decode b_Mo_divide 14 = .ok (.aload_n 1, 1) := by decide +kernel
theorem d_Mo_divide_15 : decode b_Mo_divide 15 = .ok (.invokestatic 65, 3) := by decide +kernel
theorem d_Mo_divide_18 : decode b_Mo_divide 18 = .ok (.iconst 1, 1) := by decide +kernel
theorem d_Mo_divide_19 : decode b_Mo_divide 19 = .ok (.isub, 1) := by decide +kernel
theorem d_Mo_divide_20 : decode b_Mo_divide 20 = .ok (.istore_n 3, 1) := by decide +kernel
theorem d_Mo_divide_21 : decode b_Mo_divide 21 = .ok (.iload_n 3, 1) := by decide +kernel
theorem d_Mo_divide_22 : decode b_Mo_divide 22 = .ok (.ifCond .lt 66, 3) := by decide +kernel
theorem d_Mo_divide_25 : decode b_Mo_divide 25 = .ok (.aload_n 0, 1) := by decide +kernel
theorem d_Mo_divide_26 : decode b_Mo_divide 26 = .ok (.getfield 47, 3) := by decide +kernel
theorem d_Mo_divide_29 : decode b_Mo_divide 29 = .ok (.aload_n 1, 1) := by decide +kernel
theorem d_Mo_divide_30 : decode b_Mo_divide 30 = .ok (.iload_n 3, 1) := by decide +kernel
theorem d_Mo_divide_31 : decode b_Mo_divide 31 = .ok (.bipush 16, 2) := by decide +kernel
theorem d_Mo_divide_33 : decode b_Mo_divide 33 = .ok (.idiv, 1) := by decide +kernel
theorem d_Mo_divide_34 : decode b_Mo_divide 34 = .ok (.iaload, 1) := by decide +kernel
theorem d_Mo_divide_35 : decode b_Mo_divide 35 = .ok (.iload_n 3, 1) := by decide +kernel
theorem d_Mo_divide_36 : decode b_Mo_divide 36 = .ok (.bipush 16, 2) := by decide +kernel
theorem d_Mo_divide_38 : decode b_Mo_divide 38 = .ok (.irem, 1) := by decide +kernel
theorem d_Mo_divide_39 : decode b_Mo_divide 39 = .ok (.ishr, 1) := by decide +kernel
theorem d_Mo_divide_40 : decode b_Mo_divide 40 = .ok (.iconst 1, 1) := by decide +kernel
theorem d_Mo_divide_41 : decode b_Mo_divide 41 = .ok (.iand, 1) := by decide +kernel
theorem d_Mo_divide_42 : decode b_Mo_divide 42 = .ok (.invokestatic 61, 3) := by decide +kernel
theorem d_Mo_divide_45 : decode b_Mo_divide 45 = .ok (.aload_n 0, 1) := by decide +kernel
theorem d_Mo_divide_46 : decode b_Mo_divide 46 = .ok (.getfield 47, 3) := by decide +kernel
theorem d_Mo_divide_49 : decode b_Mo_divide 49 = .ok (.aload_n 2, 1) := by decide +kernel
theorem d_Mo_divide_50 : decode b_Mo_divide 50 = .ok (.invokestatic 69, 3) := by decide +kernel
theorem d_Mo_divide_53 : decode b_Mo_divide 53 = .ok (.ifCond .lt 29, 3) := by decide +kernel
theorem d_Mo_divide_56 : decode b_Mo_divide 56 = .ok (.aload_n 0, 1) := by decide +kernel
theorem d_Mo_divide_57 : decode b_Mo_divide 57 = .ok (.getfield 47, 3) := by decide +kernel
theorem d_Mo_divide_60 : decode b_Mo_divide 60 = .ok (.aload_n 2, 1) := by decide +kernel
theorem d_Mo_divide_61 : decode b_Mo_divide 61 = .ok (.invokestatic 73, 3) := by decide +kernel
theorem d_Mo_divide_64 : decode b_Mo_divide 64 = .ok (.aload_n 0, 1) := by decide +kernel
theorem d_Mo_divide_65 : decode b_Mo_divide 65 = .ok (.getfield 44, 3) := by decide +kernel
theorem d_Mo_divide_68 : decode b_Mo_divide 68 = .ok (.iload_n 3, 1) := by decide +kernel
theorem d_Mo_divide_69 : decode b_Mo_divide 69 = .ok (.bipush 16, 2) := by decide +kernel
theorem d_Mo_divide_71 : decode b_Mo_divide 71 = .ok (.idiv, 1) := by decide +kernel
theorem d_Mo_divide_72 : decode b_Mo_divide 72 = .ok (.dup2, 1) := by decide +kernel
theorem d_Mo_divide_73 : decode b_Mo_divide 73 = .ok (.iaload, 1) := by decide +kernel
theorem d_Mo_divide_74 : decode b_Mo_divide 74 = .ok (.iconst 1, 1) := by decide +kernel
theorem d_Mo_divide_75 : decode b_Mo_divide 75 = .ok (.iload_n 3, 1) := by decide +kernel
theorem d_Mo_divide_76 : decode b_Mo_divide 76 = .ok (.bipush 16, 2) := by decide +kernel
theorem d_Mo_divide_78 : decode b_Mo_divide 78 = .ok (.irem, 1) := by decide +kernel
theorem d_Mo_divide_79 : decode b_Mo_divide 79 = .ok (.ishl, 1) := by decide +kernel
theorem d_Mo_divide_80 : decode b_Mo_divide 80 = .ok (.ior, 1) := by decide +kernel
theorem d_Mo_divide_81 : decode b_Mo_divide 81 = .ok (.iastore, 1) := by decide +kernel
theorem d_Mo_divide_82 : decode b_Mo_divide 82 = .ok (.iinc 3 (-1), 3) := by decide +kernel
theorem d_Mo_divide_85 : decode b_Mo_divide 85 = .ok (.goto (-64), 3) := by decide +kernel
theorem d_Mo_divide_88 : decode b_Mo_divide 88 = .ok (.return_, 1) := by decide +kernel
theorem d_Mo_take_0 : decode b_Mo_take 0 = .ok (.aload_n 2, 1) := by decide +kernel
theorem d_Mo_take_1 : decode b_Mo_take 1 = .ok (.invokestatic 54, 3) := by decide +kernel
theorem d_Mo_take_4 : decode b_Mo_take 4 = .ok (.aload_n 3, 1) := by decide +kernel
theorem d_Mo_take_5 : decode b_Mo_take 5 = .ok (.invokestatic 54, 3) := by decide +kernel
theorem d_Mo_take_8 : decode b_Mo_take 8 = .ok (.iconst 0, 1) := by decide +kernel
theorem d_Mo_take_9 : decode b_Mo_take 9 = .ok (.istore 4, 2) := by decide +kernel
theorem d_Mo_take_11 : decode b_Mo_take 11 = .ok (.iload 4, 2) := by decide +kernel
theorem d_Mo_take_13 : decode b_Mo_take 13 = .ok (.bipush 16, 2) := by decide +kernel
theorem d_Mo_take_15 : decode b_Mo_take 15 = .ok (.if_icmp .ge 41, 3) := by decide +kernel
theorem d_Mo_take_18 : decode b_Mo_take 18 = .ok (.aload_n 2, 1) := by decide +kernel
theorem d_Mo_take_19 : decode b_Mo_take 19 = .ok (.iload 4, 2) := by decide +kernel
theorem d_Mo_take_21 : decode b_Mo_take 21 = .ok (.aload_n 0, 1) := by decide +kernel
theorem d_Mo_take_22 : decode b_Mo_take 22 = .ok (.getfield 17, 3) := by decide +kernel
theorem d_Mo_take_25 : decode b_Mo_take 25 = .ok (.bipush 16, 2) := by decide +kernel
theorem d_Mo_take_27 : decode b_Mo_take 27 = .ok (.iload_n 1, 1) := by decide +kernel
theorem d_Mo_take_28 : decode b_Mo_take 28 = .ok (.imul, 1) := by decide +kernel
theorem d_Mo_take_29 : decode b_Mo_take 29 = .ok (.iload 4, 2) := by decide +kernel
theorem d_Mo_take_31 : decode b_Mo_take 31 = .ok (.iadd, 1) := by decide +kernel
theorem d_Mo_take_32 : decode b_Mo_take 32 = .ok (.iaload, 1) := by decide +kernel
theorem d_Mo_take_33 : decode b_Mo_take 33 = .ok (.iastore, 1) := by decide +kernel
theorem d_Mo_take_34 : decode b_Mo_take 34 = .ok (.aload_n 3, 1) := by decide +kernel
theorem d_Mo_take_35 : decode b_Mo_take 35 = .ok (.iload 4, 2) := by decide +kernel
theorem d_Mo_take_37 : decode b_Mo_take 37 = .ok (.aload_n 0, 1) := by decide +kernel
theorem d_Mo_take_38 : decode b_Mo_take 38 = .ok (.getfield 20, 3) := by decide +kernel
theorem d_Mo_take_41 : decode b_Mo_take 41 = .ok (.bipush 16, 2) := by decide +kernel
theorem d_Mo_take_43 : decode b_Mo_take 43 = .ok (.iload_n 1, 1) := by decide +kernel
theorem d_Mo_take_44 : decode b_Mo_take 44 = .ok (.imul, 1) := by decide +kernel
theorem d_Mo_take_45 : decode b_Mo_take 45 = .ok (.iload 4, 2) := by decide +kernel
theorem d_Mo_take_47 : decode b_Mo_take 47 = .ok (.iadd, 1) := by decide +kernel
theorem d_Mo_take_48 : decode b_Mo_take 48 = .ok (.iaload, 1) := by decide +kernel
theorem d_Mo_take_49 : decode b_Mo_take 49 = .ok (.iastore, 1) := by decide +kernel
theorem d_Mo_take_50 : decode b_Mo_take 50 = .ok (.iinc 4 1, 3) := by decide +kernel
theorem d_Mo_take_53 : decode b_Mo_take 53 = .ok (.goto (-42), 3) := by decide +kernel
theorem d_Mo_take_56 : decode b_Mo_take 56 = .ok (.return_, 1) := by decide +kernel
theorem d_Mo_same_0 : decode b_Mo_same 0 = .ok (.aload_n 0, 1) := by decide +kernel
theorem d_Mo_same_1 : decode b_Mo_same 1 = .ok (.getfield 7, 3) := by decide +kernel
theorem d_Mo_same_4 : decode b_Mo_same 4 = .ok (.iload_n 2, 1) := by decide +kernel
theorem d_Mo_same_5 : decode b_Mo_same 5 = .ok (.aload_n 0, 1) := by decide +kernel
theorem d_Mo_same_6 : decode b_Mo_same 6 = .ok (.getfield 7, 3) := by decide +kernel
theorem d_Mo_same_9 : decode b_Mo_same 9 = .ok (.iload_n 1, 1) := by decide +kernel
theorem d_Mo_same_10 : decode b_Mo_same 10 = .ok (.baload, 1) := by decide +kernel
theorem d_Mo_same_11 : decode b_Mo_same 11 = .ok (.bastore, 1) := by decide +kernel
theorem d_Mo_same_12 : decode b_Mo_same 12 = .ok (.aload_n 0, 1) := by decide +kernel
theorem d_Mo_same_13 : decode b_Mo_same 13 = .ok (.getfield 13, 3) := by decide +kernel
theorem d_Mo_same_16 : decode b_Mo_same 16 = .ok (.iload_n 2, 1) := by decide +kernel
theorem d_Mo_same_17 : decode b_Mo_same 17 = .ok (.aload_n 0, 1) := by decide +kernel
theorem d_Mo_same_18 : decode b_Mo_same 18 = .ok (.getfield 13, 3) := by decide +kernel
theorem d_Mo_same_21 : decode b_Mo_same 21 = .ok (.iload_n 1, 1) := by decide +kernel
theorem d_Mo_same_22 : decode b_Mo_same 22 = .ok (.iaload, 1) := by decide +kernel
theorem d_Mo_same_23 : decode b_Mo_same 23 = .ok (.iastore, 1) := by decide +kernel
theorem d_Mo_same_24 : decode b_Mo_same 24 = .ok (.iconst 0, 1) := by decide +kernel
theorem d_Mo_same_25 : decode b_Mo_same 25 = .ok (.istore_n 3, 1) := by decide +kernel
theorem d_Mo_same_26 : decode b_Mo_same 26 = .ok (.iload_n 3, 1) := by decide +kernel
theorem d_Mo_same_27 : decode b_Mo_same 27 = .ok (.bipush 16, 2) := by decide +kernel
theorem d_Mo_same_29 : decode b_Mo_same 29 = .ok (.if_icmp .ge 53, 3) := by decide +kernel
theorem d_Mo_same_32 : decode b_Mo_same 32 = .ok (.aload_n 0, 1) := by decide +kernel
theorem d_Mo_same_33 : decode b_Mo_same 33 = .ok (.getfield 17, 3) := by decide +kernel
theorem d_Mo_same_36 : decode b_Mo_same 36 = .ok (.bipush 16, 2) := by decide +kernel
theorem d_Mo_same_38 : decode b_Mo_same 38 = .ok (.iload_n 2, 1) := by decide +kernel
theorem d_Mo_same_39 : decode b_Mo_same 39 = .ok (.imul, 1) := by decide +kernel
theorem d_Mo_same_40 : decode b_Mo_same 40 = .ok (.iload_n 3, 1) := by decide +kernel
theorem d_Mo_same_41 : decode b_Mo_same 41 = .ok (.iadd, 1) := by decide +kernel
theorem d_Mo_same_42 : decode b_Mo_same 42 = .ok (.aload_n 0, 1) := by decide +kernel
theorem d_Mo_same_43 : decode b_Mo_same 43 = .ok (.getfield 17, 3) := by decide +kernel
theorem d_Mo_same_46 : decode b_Mo_same 46 = .ok (.bipush 16, 2) := by decide +kernel
theorem d_Mo_same_48 : decode b_Mo_same 48 = .ok (.iload_n 1, 1) := by decide +kernel
theorem d_Mo_same_49 : decode b_Mo_same 49 = .ok (.imul, 1) := by decide +kernel
theorem d_Mo_same_50 : decode b_Mo_same 50 = .ok (.iload_n 3, 1) := by decide +kernel
theorem d_Mo_same_51 : decode b_Mo_same 51 = .ok (.iadd, 1) := by decide +kernel
theorem d_Mo_same_52 : decode b_Mo_same 52 = .ok (.iaload, 1) := by decide +kernel
theorem d_Mo_same_53 : decode b_Mo_same 53 = .ok (.iastore, 1) := by decide +kernel
theorem d_Mo_same_54 : decode b_Mo_same 54 = .ok (.aload_n 0, 1) := by decide +kernel
theorem d_Mo_same_55 : decode b_Mo_same 55 = .ok (.getfield 20, 3) := by decide +kernel
theorem d_Mo_same_58 : decode b_Mo_same 58 = .ok (.bipush 16, 2) := by decide +kernel
theorem d_Mo_same_60 : decode b_Mo_same 60 = .ok (.iload_n 2, 1) := by decide +kernel
theorem d_Mo_same_61 : decode b_Mo_same 61 = .ok (.imul, 1) := by decide +kernel
theorem d_Mo_same_62 : decode b_Mo_same 62 = .ok (.iload_n 3, 1) := by decide +kernel
theorem d_Mo_same_63 : decode b_Mo_same 63 = .ok (.iadd, 1) := by decide +kernel
theorem d_Mo_same_64 : decode b_Mo_same 64 = .ok (.aload_n 0, 1) := by decide +kernel
theorem d_Mo_same_65 : decode b_Mo_same 65 = .ok (.getfield 20, 3) := by decide +kernel
theorem d_Mo_same_68 : decode b_Mo_same 68 = .ok (.bipush 16, 2) := by decide +kernel
theorem d_Mo_same_70 : decode b_Mo_same 70 = .ok (.iload_n 1, 1) := by decide +kernel
theorem d_Mo_same_71 : decode b_Mo_same 71 = .ok (.imul, 1) := by decide +kernel
theorem d_Mo_same_72 : decode b_Mo_same 72 = .ok (.iload_n 3, 1) := by decide +kernel
theorem d_Mo_same_73 : decode b_Mo_same 73 = .ok (.iadd, 1) := by decide +kernel
theorem d_Mo_same_74 : decode b_Mo_same 74 = .ok (.iaload, 1) := by decide +kernel
theorem d_Mo_same_75 : decode b_Mo_same 75 = .ok (.iastore, 1) := by decide +kernel
theorem d_Mo_same_76 : decode b_Mo_same 76 = .ok (.iinc 3 1, 3) := by decide +kernel
theorem d_Mo_same_79 : decode b_Mo_same 79 = .ok (.goto (-53), 3) := by decide +kernel
theorem d_Mo_same_82 : decode b_Mo_same 82 = .ok (.return_, 1) := by decide +kernel
theorem d_Mo_store_0 : decode b_Mo_store 0 = .ok (.aload_n 0, 1) := by decide +kernel
theorem d_Mo_store_1 : decode b_Mo_store 1 = .ok (.getfield 26, 3) := by decide +kernel
theorem d_Mo_store_4 : decode b_Mo_store 4 = .ok (.aload_n 0, 1) := by decide +kernel
theorem d_Mo_store_5 : decode b_Mo_store 5 = .ok (.getfield 32, 3) := by decide +kernel
theorem d_Mo_store_8 : decode b_Mo_store 8 = .ok (.invokestatic 81, 3) := by decide +kernel
theorem d_Mo_store_11 : decode b_Mo_store 11 = .ok (.aload_n 0, 1) := by decide +kernel
theorem d_Mo_store_12 : decode b_Mo_store 12 = .ok (.getfield 29, 3) := by decide +kernel
theorem d_Mo_store_15 : decode b_Mo_store 15 = .ok (.aload_n 0, 1) := by decide +kernel
theorem d_Mo_store_16 : decode b_Mo_store 16 = .ok (.getfield 35, 3) := by decide +kernel
theorem d_Mo_store_19 : decode b_Mo_store 19 = .ok (.invokestatic 81, 3) := by decide +kernel
theorem d_Mo_store_22 : decode b_Mo_store 22 = .ok (.aload_n 0, 1) := by decide +kernel
theorem d_Mo_store_23 : decode b_Mo_store 23 = .ok (.getfield 32, 3) := by decide +kernel
theorem d_Mo_store_26 : decode b_Mo_store 26 = .ok (.aload_n 0, 1) := by decide +kernel
theorem d_Mo_store_27 : decode b_Mo_store 27 = .ok (.getfield 35, 3) := by decide +kernel
theorem d_Mo_store_30 : decode b_Mo_store 30 = .ok (.invokestatic 93, 3) := by decide +kernel
theorem d_Mo_store_33 : decode b_Mo_store 33 = .ok (.aload_n 0, 1) := by decide +kernel
theorem d_Mo_store_34 : decode b_Mo_store 34 = .ok (.aload_n 0, 1) := by decide +kernel
theorem d_Mo_store_35 : decode b_Mo_store 35 = .ok (.getfield 26, 3) := by decide +kernel
theorem d_Mo_store_38 : decode b_Mo_store 38 = .ok (.aload_n 0, 1) := by decide +kernel
theorem d_Mo_store_39 : decode b_Mo_store 39 = .ok (.getfield 32, 3) := by decide +kernel
theorem d_Mo_store_42 : decode b_Mo_store 42 = .ok (.invokevirtual 96, 3) := by decide +kernel
theorem d_Mo_store_45 : decode b_Mo_store 45 = .ok (.aload_n 0, 1) := by decide +kernel
theorem d_Mo_store_46 : decode b_Mo_store 46 = .ok (.getfield 44, 3) := by decide +kernel
theorem d_Mo_store_49 : decode b_Mo_store 49 = .ok (.aload_n 0, 1) := by decide +kernel
theorem d_Mo_store_50 : decode b_Mo_store 50 = .ok (.getfield 26, 3) := by decide +kernel
theorem d_Mo_store_53 : decode b_Mo_store 53 = .ok (.invokestatic 81, 3) := by decide +kernel
theorem d_Mo_store_56 : decode b_Mo_store 56 = .ok (.aload_n 0, 1) := by decide +kernel
theorem d_Mo_store_57 : decode b_Mo_store 57 = .ok (.aload_n 0, 1) := by decide +kernel
theorem d_Mo_store_58 : decode b_Mo_store 58 = .ok (.getfield 29, 3) := by decide +kernel
theorem d_Mo_store_61 : decode b_Mo_store 61 = .ok (.aload_n 0, 1) := by decide +kernel
theorem d_Mo_store_62 : decode b_Mo_store 62 = .ok (.getfield 32, 3) := by decide +kernel
theorem d_Mo_store_65 : decode b_Mo_store 65 = .ok (.invokevirtual 96, 3) := by decide +kernel
theorem d_Mo_store_68 : decode b_Mo_store 68 = .ok (.aload_n 0, 1) := by decide +kernel
theorem d_Mo_store_69 : decode b_Mo_store 69 = .ok (.getfield 44, 3) := by decide +kernel
theorem d_Mo_store_72 : decode b_Mo_store 72 = .ok (.aload_n 0, 1) := by decide +kernel
theorem d_Mo_store_73 : decode b_Mo_store 73 = .ok (.getfield 29, 3) := by decide +kernel
theorem d_Mo_store_76 : decode b_Mo_store 76 = .ok (.invokestatic 81, 3) := by decide +kernel
theorem d_Mo_store_79 : decode b_Mo_store 79 = .ok (.aload_n 0, 1) := by decide +kernel
theorem d_Mo_store_80 : decode b_Mo_store 80 = .ok (.getfield 26, 3) := by decide +kernel
theorem d_Mo_store_83 : decode b_Mo_store 83 = .ok (.invokestatic 65, 3) := by decide +kernel
theorem d_Mo_store_86 : decode b_Mo_store 86 = .ok (.sipush 256, 3) := by decide +kernel
theorem d_Mo_store_89 : decode b_Mo_store 89 = .ok (.if_icmp .gt 16, 3) := by decide +kernel
theorem d_Mo_store_92 : decode b_Mo_store 92 = .ok (.aload_n 0, 1) := by decide +kernel
theorem d_Mo_store_93 : decode b_Mo_store 93 = .ok (.getfield 29, 3) := by decide +kernel
theorem d_Mo_store_96 : decode b_Mo_store 96 = .ok (.invokestatic 65, 3) := by decide +kernel
theorem d_Mo_store_99 : decode b_Mo_store 99 = .ok (.sipush 256, 3) := by decide +kernel
theorem d_Mo_store_102 : decode b_Mo_store 102 = .ok (.if_icmp .le 5, 3) := by decide +kernel
theorem d_Mo_store_105 : decode b_Mo_store 105 = .ok (.iconst 0, 1) := by decide +kernel
theorem d_Mo_store_106 : decode b_Mo_store 106 = .ok (.ireturn, 1) := by decide +kernel
theorem d_Mo_store_107 : decode b_Mo_store 107 = .ok (.aload_n 0, 1) := by decide +kernel
theorem d_Mo_store_108 : decode b_Mo_store 108 = .ok (.getfield 7, 3) := by decide +kernel
theorem d_Mo_store_111 : decode b_Mo_store 111 = .ok (.iload_n 1, 1) := by decide +kernel
theorem d_Mo_store_112 : decode b_Mo_store 112 = .ok (.iconst 1, 1) := by decide +kernel
theorem d_Mo_store_113 : decode b_Mo_store 113 = .ok (.bastore, 1) := by decide +kernel
theorem d_Mo_store_114 : decode b_Mo_store 114 = .ok (.aload_n 0, 1) := by decide +kernel
theorem d_Mo_store_115 : decode b_Mo_store 115 = .ok (.getfield 13, 3) := by decide +kernel
theorem d_Mo_store_118 : decode b_Mo_store 118 = .ok (.iload_n 1, 1) := by decide +kernel
theorem d_Mo_store_119 : decode b_Mo_store 119 = .ok (.aload_n 0, 1) := by decide +kernel
theorem d_Mo_store_120 : decode b_Mo_store 120 = .ok (.getfield 26, 3) := by decide +kernel
theorem d_Mo_store_123 : decode b_Mo_store 123 = .ok (.invokestatic 77, 3) := by decide +kernel
theorem d_Mo_store_126 : decode b_Mo_store 126 = .ok (.ifCond .eq 7, 3) := by decide +kernel
theorem d_Mo_store_129 : decode b_Mo_store 129 = .ok (.iconst 0, 1) := by decide +kernel
theorem d_Mo_store_130 : decode b_Mo_store 130 = .ok (.goto 7, 3) := by decide +kernel
theorem d_Mo_store_133 : decode b_Mo_store 133 = .ok (.aload_n 0, 1) := by decide +kernel
theorem d_Mo_store_134 : decode b_Mo_store 134 = .ok (.getfield 99, 3) := by decide +kernel
theorem d_Mo_store_137 : decode b_Mo_store 137 = .ok (.iastore, 1) := by decide +kernel
theorem d_Mo_store_138 : decode b_Mo_store 138 = .ok (.iconst 0, 1) := by decide +kernel
theorem d_Mo_store_139 : decode b_Mo_store 139 = .ok (.istore_n 2, 1) := by decide +kernel
theorem d_Mo_store_140 : decode b_Mo_store 140 = .ok (.iload_n 2, 1) := by decide +kernel
theorem d_Mo_store_141 : decode b_Mo_store 141 = .ok (.bipush 16, 2) := by decide +kernel
theorem d_Mo_store_143 : decode b_Mo_store 143 = .ok (.if_icmp .ge 43, 3) := by decide +kernel
theorem d_Mo_store_146 : decode b_Mo_store 146 = .ok (.aload_n 0, 1) := by decide +kernel
theorem d_Mo_store_147 : decode b_Mo_store 147 = .ok (.getfield 17, 3) := by decide +kernel
theorem d_Mo_store_150 : decode b_Mo_store 150 = .ok (.bipush 16, 2) := by decide +kernel
theorem d_Mo_store_152 : decode b_Mo_store 152 = .ok (.iload_n 1, 1) := by decide +kernel
theorem d_Mo_store_153 : decode b_Mo_store 153 = .ok (.imul, 1) := by decide +kernel
theorem d_Mo_store_154 : decode b_Mo_store 154 = .ok (.iload_n 2, 1) := by decide +kernel
theorem d_Mo_store_155 : decode b_Mo_store 155 = .ok (.iadd, 1) := by decide +kernel
theorem d_Mo_store_156 : decode b_Mo_store 156 = .ok (.aload_n 0, 1) := by decide +kernel
theorem d_Mo_store_157 : decode b_Mo_store 157 = .ok (.getfield 26, 3) := by decide +kernel
theorem d_Mo_store_160 : decode b_Mo_store 160 = .ok (.iload_n 2, 1) := by decide +kernel
theorem d_Mo_store_161 : decode b_Mo_store 161 = .ok (.iaload, 1) := by decide +kernel
theorem d_Mo_store_162 : decode b_Mo_store 162 = .ok (.iastore, 1) := by decide +kernel
theorem d_Mo_store_163 : decode b_Mo_store 163 = .ok (.aload_n 0, 1) := by decide +kernel
theorem d_Mo_store_164 : decode b_Mo_store 164 = .ok (.getfield 20, 3) := by decide +kernel
theorem d_Mo_store_167 : decode b_Mo_store 167 = .ok (.bipush 16, 2) := by decide +kernel
theorem d_Mo_store_169 : decode b_Mo_store 169 = .ok (.iload_n 1, 1) := by decide +kernel
theorem d_Mo_store_170 : decode b_Mo_store 170 = .ok (.imul, 1) := by decide +kernel
theorem d_Mo_store_171 : decode b_Mo_store 171 = .ok (.iload_n 2, 1) := by decide +kernel
theorem d_Mo_store_172 : decode b_Mo_store 172 = .ok (.iadd, 1) := by decide +kernel
theorem d_Mo_store_173 : decode b_Mo_store 173 = .ok (.aload_n 0, 1) := by decide +kernel
theorem d_Mo_store_174 : decode b_Mo_store 174 = .ok (.getfield 29, 3) := by decide +kernel
theorem d_Mo_store_177 : decode b_Mo_store 177 = .ok (.iload_n 2, 1) := by decide +kernel
theorem d_Mo_store_178 : decode b_Mo_store 178 = .ok (.iaload, 1) := by decide +kernel
theorem d_Mo_store_179 : decode b_Mo_store 179 = .ok (.iastore, 1) := by decide +kernel
theorem d_Mo_store_180 : decode b_Mo_store 180 = .ok (.iinc 2 1, 3) := by decide +kernel
theorem d_Mo_store_183 : decode b_Mo_store 183 = .ok (.goto (-43), 3) := by decide +kernel
theorem d_Mo_store_186 : decode b_Mo_store 186 = .ok (.iconst 1, 1) := by decide +kernel
theorem d_Mo_store_187 : decode b_Mo_store 187 = .ok (.ireturn, 1) := by decide +kernel
theorem d_Mo_made_0 : decode b_Mo_made 0 = .ok (.aload_n 0, 1) := by decide +kernel
theorem d_Mo_made_1 : decode b_Mo_made 1 = .ok (.iload_n 1, 1) := by decide +kernel
theorem d_Mo_made_2 : decode b_Mo_made 2 = .ok (.invokevirtual 102, 3) := by decide +kernel
theorem d_Mo_made_5 : decode b_Mo_made 5 = .ok (.ifCond .ne 10, 3) := by decide +kernel
theorem d_Mo_made_8 : decode b_Mo_made 8 = .ok (.aload_n 0, 1) := by decide +kernel
theorem d_Mo_made_9 : decode b_Mo_made 9 = .ok (.bipush 6, 2) := by decide +kernel
theorem d_Mo_made_11 : decode b_Mo_made 11 = .ok (.invokevirtual 106, 3) := by decide +kernel
theorem d_Mo_made_14 : decode b_Mo_made 14 = .ok (.ireturn, 1) := by decide +kernel
theorem d_Mo_made_15 : decode b_Mo_made 15 = .ok (.aload_n 0, 1) := by decide +kernel
theorem d_Mo_made_16 : decode b_Mo_made 16 = .ok (.dup, 1) := by decide +kernel
theorem d_Mo_made_17 : decode b_Mo_made 17 = .ok (.getfield 110, 3) := by decide +kernel
theorem d_Mo_made_20 : decode b_Mo_made 20 = .ok (.aload_n 0, 1) := by decide +kernel
theorem d_Mo_made_21 : decode b_Mo_made 21 = .ok (.iload_n 1, 1) := by decide +kernel
theorem d_Mo_made_22 : decode b_Mo_made 22 = .ok (.invokevirtual 113, 3) := by decide +kernel
theorem d_Mo_made_25 : decode b_Mo_made 25 = .ok (.ifCond .eq 7, 3) := by decide +kernel
theorem d_Mo_made_28 : decode b_Mo_made 28 = .ok (.iconst 0, 1) := by decide +kernel
theorem d_Mo_made_29 : decode b_Mo_made 29 = .ok (.goto 4, 3) := by decide +kernel
theorem d_Mo_made_32 : decode b_Mo_made 32 = .ok (.iconst 1, 1) := by decide +kernel
theorem d_Mo_made_33 : decode b_Mo_made 33 = .ok (.iadd, 1) := by decide +kernel
theorem d_Mo_made_34 : decode b_Mo_made 34 = .ok (.putfield 110, 3) := by decide +kernel
theorem d_Mo_made_37 : decode b_Mo_made 37 = .ok (.aload_n 0, 1) := by decide +kernel
theorem d_Mo_made_38 : decode b_Mo_made 38 = .ok (.aload_n 0, 1) := by decide +kernel
theorem d_Mo_made_39 : decode b_Mo_made 39 = .ok (.getfield 13, 3) := by decide +kernel
theorem d_Mo_made_42 : decode b_Mo_made 42 = .ok (.iload_n 1, 1) := by decide +kernel
theorem d_Mo_made_43 : decode b_Mo_made 43 = .ok (.iaload, 1) := by decide +kernel
theorem d_Mo_made_44 : decode b_Mo_made 44 = .ok (.invokevirtual 116, 3) := by decide +kernel
theorem d_Mo_made_47 : decode b_Mo_made 47 = .ok (.ireturn, 1) := by decide +kernel
theorem d_Mo_isSmall_0 : decode b_Mo_isSmall 0 = .ok (.aload_n 0, 1) := by decide +kernel
theorem d_Mo_isSmall_1 : decode b_Mo_isSmall 1 = .ok (.iload_n 1, 1) := by decide +kernel
theorem d_Mo_isSmall_2 : decode b_Mo_isSmall 2 = .ok (.aload_n 0, 1) := by decide +kernel
theorem d_Mo_isSmall_3 : decode b_Mo_isSmall 3 = .ok (.getfield 32, 3) := by decide +kernel
theorem d_Mo_isSmall_6 : decode b_Mo_isSmall 6 = .ok (.aload_n 0, 1) := by decide +kernel
theorem d_Mo_isSmall_7 : decode b_Mo_isSmall 7 = .ok (.getfield 35, 3) := by decide +kernel
theorem d_Mo_isSmall_10 : decode b_Mo_isSmall 10 = .ok (.invokevirtual 119, 3) := by decide +kernel
theorem d_Mo_isSmall_13 : decode b_Mo_isSmall 13 = .ok (.aload_n 0, 1) := by decide +kernel
theorem d_Mo_isSmall_14 : decode b_Mo_isSmall 14 = .ok (.getfield 32, 3) := by decide +kernel
theorem d_Mo_isSmall_17 : decode b_Mo_isSmall 17 = .ok (.invokestatic 65, 3) := by decide +kernel
theorem d_Mo_isSmall_20 : decode b_Mo_isSmall 20 = .ok (.bipush 63, 2) := by decide +kernel
theorem d_Mo_isSmall_22 : decode b_Mo_isSmall 22 = .ok (.if_icmp .gt 19, 3) := by decide +kernel
theorem d_Mo_isSmall_25 : decode b_Mo_isSmall 25 = .ok (.aload_n 0, 1) := by decide +kernel
theorem d_Mo_isSmall_26 : decode b_Mo_isSmall 26 = .ok (.getfield 35, 3) := by decide +kernel
theorem d_Mo_isSmall_29 : decode b_Mo_isSmall 29 = .ok (.invokestatic 65, 3) := by decide +kernel
theorem d_Mo_isSmall_32 : decode b_Mo_isSmall 32 = .ok (.bipush 63, 2) := by decide +kernel
theorem d_Mo_isSmall_34 : decode b_Mo_isSmall 34 = .ok (.if_icmp .gt 7, 3) := by decide +kernel
theorem d_Mo_isSmall_37 : decode b_Mo_isSmall 37 = .ok (.iconst 1, 1) := by decide +kernel
theorem d_Mo_isSmall_38 : decode b_Mo_isSmall 38 = .ok (.goto 4, 3) := by decide +kernel
theorem d_Mo_isSmall_41 : decode b_Mo_isSmall 41 = .ok (.iconst 0, 1) := by decide +kernel
theorem d_Mo_isSmall_42 : decode b_Mo_isSmall 42 = .ok (.ireturn, 1) := by decide +kernel
theorem d_Mo_isFraction_0 : decode b_Mo_isFraction 0 = .ok (.iload_n 0, 1) := by decide +kernel
theorem d_Mo_isFraction_1 : decode b_Mo_isFraction 1 = .ok (.i2l, 1) := by decide +kernel
theorem d_Mo_isFraction_2 : decode b_Mo_isFraction 2 = .ok (.lconst 0, 1) := by decide +kernel
theorem d_Mo_isFraction_3 : decode b_Mo_isFraction 3 = .ok (.ldc2_w 123, 3) := by decide +kernel
theorem d_Mo_isFraction_6 : decode b_Mo_isFraction 6 = .ok (.invokestatic 125, 3) := by decide +kernel
theorem d_Mo_isFraction_9 : decode b_Mo_isFraction 9 = .ok (.ireturn, 1) := by decide +kernel
theorem d_Mo_isRow_0 : decode b_Mo_isRow 0 = .ok (.iload_n 0, 1) := by decide +kernel
theorem d_Mo_isRow_1 : decode b_Mo_isRow 1 = .ok (.i2l, 1) := by decide +kernel
theorem d_Mo_isRow_2 : decode b_Mo_isRow 2 = .ok (.lconst 0, 1) := by decide +kernel
theorem d_Mo_isRow_3 : decode b_Mo_isRow 3 = .ok (.ldc2_w 129, 3) := by decide +kernel
theorem d_Mo_isRow_6 : decode b_Mo_isRow 6 = .ok (.invokestatic 125, 3) := by decide +kernel
theorem d_Mo_isRow_9 : decode b_Mo_isRow 9 = .ok (.ireturn, 1) := by decide +kernel
theorem d_Mo_fail_0 : decode b_Mo_fail 0 = .ok (.aload_n 0, 1) := by decide +kernel
theorem d_Mo_fail_1 : decode b_Mo_fail 1 = .ok (.iload_n 1, 1) := by decide +kernel
theorem d_Mo_fail_2 : decode b_Mo_fail 2 = .ok (.putfield 50, 3) := by decide +kernel
theorem d_Mo_fail_5 : decode b_Mo_fail 5 = .ok (.iconst 0, 1) := by decide +kernel
theorem d_Mo_fail_6 : decode b_Mo_fail 6 = .ok (.ireturn, 1) := by decide +kernel
theorem d_Mo_done_0 : decode b_Mo_done 0 = .ok (.aload_n 0, 1) := by decide +kernel
theorem d_Mo_done_1 : decode b_Mo_done 1 = .ok (.iconst 0, 1) := by decide +kernel
theorem d_Mo_done_2 : decode b_Mo_done 2 = .ok (.putfield 50, 3) := by decide +kernel
theorem d_Mo_done_5 : decode b_Mo_done 5 = .ok (.iload_n 1, 1) := by decide +kernel
theorem d_Mo_done_6 : decode b_Mo_done 6 = .ok (.ireturn, 1) := by decide +kernel
theorem i2l_in (x : Int32) (a b : Int64) : (a.toInt ≤ x.toInt64.toInt ∧ x.toInt64.toInt ≤ b.toInt) ↔ inI x a.toInt b.toInt := by
  rw [Int32.toInt_toInt64]
theorem c_Mo_isFraction (l : Launch) (g : Gh) (nx : Nat) (x : Int32) : Ct l m_Mo_isFraction 0 0 [.int x] g nx (pP (some (.int (if inI x 0 15 then 1 else 0))) g nx) := by
  refine Ct.of (by decide) (Nat.le_of_ble_eq_true rfl) (fun E hE hQ => ?_)
  refine z_iload_n hE d_Mo_isFraction_0 rfl ?_
  refine z_i2l hE d_Mo_isFraction_1 (rfl) ?_
  refine z_lconst (v := 0) hE d_Mo_isFraction_2 (by decide) ?_
  refine z_ldc2 hE d_Mo_isFraction_3 cn_Mo_123 ?_
  refine z_callS hE d_Mo_isFraction_6 cl_Mo_125 (c_Mo_in l g nx x.toInt64 0 15) rfl (Nat.le_of_ble_eq_true rfl) ⟨by decide, by decide⟩ ⟨by omega, by omega⟩ (fun r_6 g_6 nx_6 hp_6 => ?_) rfl
  obtain ⟨rfl, rfl, rfl⟩ := hp_6
  try dsimp only [Option.toList, List.nil_append, List.cons_append]
  simp only [i2l_in]
  refine z_zret hE hQ d_Mo_isFraction_9 rfl (Nat.le_refl _) (Nat.le_refl _) (by split; exact Or.inr rfl; exact Or.inl rfl) ⟨rfl, rfl, rfl⟩
theorem c_Mo_isRow (l : Launch) (g : Gh) (nx : Nat) (x : Int32) : Ct l m_Mo_isRow 0 0 [.int x] g nx (pP (some (.int (if inI x 0 3 then 1 else 0))) g nx) := by
  refine Ct.of (by decide) (Nat.le_of_ble_eq_true rfl) (fun E hE hQ => ?_)
  refine z_iload_n hE d_Mo_isRow_0 rfl ?_
  refine z_i2l hE d_Mo_isRow_1 (rfl) ?_
  refine z_lconst (v := 0) hE d_Mo_isRow_2 (by decide) ?_
  refine z_ldc2 hE d_Mo_isRow_3 cn_Mo_129 ?_
  refine z_callS hE d_Mo_isRow_6 cl_Mo_125 (c_Mo_in l g nx x.toInt64 0 3) rfl (Nat.le_of_ble_eq_true rfl) ⟨by decide, by decide⟩ ⟨by omega, by omega⟩ (fun r_6 g_6 nx_6 hp_6 => ?_) rfl
  obtain ⟨rfl, rfl, rfl⟩ := hp_6
  try dsimp only [Option.toList, List.nil_append, List.cons_append]
  simp only [i2l_in]
  refine z_zret hE hQ d_Mo_isRow_9 rfl (Nat.le_refl _) (Nat.le_refl _) (by split; exact Or.inr rfl; exact Or.inl rfl) ⟨rfl, rfl, rfl⟩
theorem c_Mo_fail (l : Launch) {g : Gh} (nx : Nat) {P : Nat} {E0 : Nat → Option Qf} {pl : Nat → Int32} {c n ts : Int32} {t : Nat → Nat} (hV : MV g P E0 pl c n ts t) (x : Int32) : Ct l m_Mo_fail 0 0 [.ref P, .int x] g nx (fun r g' nx' => r = some (.int 0) ∧ nx = nx' ∧ MV g' P E0 pl x n ts t ∧ g1 g g' P) := by
  have h0 := hV.1
  refine Ct.of (by decide) (Nat.le_of_ble_eq_true rfl) (fun E hE hQ => ?_)
  refine z_aload_n hE d_Mo_fail_0 rfl ?_
  refine z_iload_n hE d_Mo_fail_1 rfl ?_
  refine z_put hE d_Mo_fail_2 fl_Mo_50 ct_Mo ff_Mo_5 (by assumption) rfl rfl (Nat.le_of_ble_eq_true rfl) ?_
  refine z_iconst (v := 0) hE d_Mo_fail_5 (by decide) ?_
  exact z_iret hE hQ d_Mo_fail_6 rfl (Nat.le_refl _) (Nat.le_refl _) ⟨rfl, rfl, MV_put hV x n ts, g1_S⟩
theorem c_Mo_done (l : Launch) {g : Gh} (nx : Nat) {P : Nat} {E0 : Nat → Option Qf} {pl : Nat → Int32} {c n ts : Int32} {t : Nat → Nat} (hV : MV g P E0 pl c n ts t) (x : Int32) : Ct l m_Mo_done 0 0 [.ref P, .int x] g nx (fun r g' nx' => r = some (.int x) ∧ nx = nx' ∧ MV g' P E0 pl 0 n ts t ∧ g1 g g' P) := by
  have h0 := hV.1
  refine Ct.of (by decide) (Nat.le_of_ble_eq_true rfl) (fun E hE hQ => ?_)
  refine z_aload_n hE d_Mo_done_0 rfl ?_
  refine z_iconst (v := 0) hE d_Mo_done_1 (by decide) ?_
  refine z_put hE d_Mo_done_2 fl_Mo_50 ct_Mo ff_Mo_5 (by assumption) rfl rfl (Nat.le_of_ble_eq_true rfl) ?_
  refine z_iload_n hE d_Mo_done_5 rfl ?_
  exact z_iret hE hQ d_Mo_done_6 rfl (Nat.le_refl _) (Nat.le_refl _) ⟨rfl, rfl, MV_put hV 0 n ts, g1_S⟩
/-! division bit by bit -/
theorem dig_bit {X j : Nat} (hj : j < 16) : X % 65536 / 2 ^ j % 2 = X / 2 ^ j % 2 := by
  have h := Nat.testBit_mod_two_pow X 16 j
  rw [Nat.testBit_eq_decide_div_mod_eq, Nat.testBit_eq_decide_div_mod_eq, decide_eq_true hj, Bool.true_and, decide_eq_decide] at h
  rw [show (2 : Nat) ^ 16 = 65536 from rfl] at h
  omega
theorem or_bit {e j : Nat} (h : e / 2 ^ j % 2 = 0) : e ||| 2 ^ j = e + 2 ^ j := by
  have h1 := mod_p2 e j
  rw [h, Nat.zero_mul, Nat.zero_add] at h1
  have h2 : e = e / 2 ^ (j + 1) * 2 ^ (j + 1) + e % 2 ^ j := by rw [← h1, Nat.mul_comm]; exact (Nat.div_add_mod e (2 ^ (j + 1))).symm
  have h3 := Nat.mod_lt e (p2_pos j)
  obtain ⟨L, hL⟩ : ∃ L, e % 2 ^ j = L := ⟨_, rfl⟩
  obtain ⟨H, hH⟩ : ∃ H, e / 2 ^ (j + 1) = H := ⟨_, rfl⟩
  rw [hL] at h2 h3
  rw [hH] at h2
  have h4 := Nat.shiftLeft_add_eq_or_of_lt (i := j + 1) (b := L) (by rw [Nat.pow_succ]; omega) H
  have h5 := Nat.shiftLeft_add_eq_or_of_lt (i := j + 1) (b := 2 ^ j + L) (by rw [Nat.pow_succ]; omega) H
  have h6 := Nat.shiftLeft_add_eq_or_of_lt (i := j) (b := L) h3 1
  rw [Nat.shiftLeft_eq] at h4 h5 h6
  rw [Nat.one_mul] at h6
  rw [h2, h4, Nat.or_assoc, Nat.or_comm L, ← h6, ← h5]
  omega
theorem w16_upm {d : Nat → Nat} {p z : Nat} : ∀ n, p < n → w16 (upN d p (d p + z)) n = w16 d n + z * 65536 ^ p := by
  intro n
  induction n with
  | zero => intro h; omega
  | succ n ih =>
    intro h
    by_cases hp : p = n
    · subst hp
      rw [w16_up, w16_s, Nat.add_mul]; omega
    · rw [w16_s, w16_s, upN_n (by omega), ih (by omega)]; omega
theorem div_st {x y k : Nat} (hy : 0 < y) : (2 * (x / 2 ^ (k + 1) % y) + x / 2 ^ k % 2 < y → x / 2 ^ k % y = 2 * (x / 2 ^ (k + 1) % y) + x / 2 ^ k % 2 ∧ x / 2 ^ k / y * 2 ^ k = x / 2 ^ (k + 1) / y * 2 ^ (k + 1)) ∧ (y ≤ 2 * (x / 2 ^ (k + 1) % y) + x / 2 ^ k % 2 → x / 2 ^ k % y = 2 * (x / 2 ^ (k + 1) % y) + x / 2 ^ k % 2 - y ∧ x / 2 ^ k / y * 2 ^ k = x / 2 ^ (k + 1) / y * 2 ^ (k + 1) + 2 ^ k) := by
  have e1 : x / 2 ^ (k + 1) = x / 2 ^ k / 2 := by rw [Nat.pow_succ, Nat.div_div_eq_div_mul]
  rw [e1]
  obtain ⟨X, hX⟩ : ∃ X, x / 2 ^ k = X := ⟨_, rfl⟩
  rw [hX]
  have e2 := Nat.div_add_mod (X / 2) y
  have e3 := Nat.mod_lt (X / 2) hy
  obtain ⟨q, hq⟩ : ∃ q, X / 2 / y = q := ⟨_, rfl⟩
  obtain ⟨r, hr⟩ : ∃ r, X / 2 % y = r := ⟨_, rfl⟩
  rw [hq, hr] at e2
  rw [hr] at e3
  rw [hq, hr]
  have e4 : X = y * (2 * q) + (2 * r + X % 2) := by rw [Nat.mul_left_comm]; omega
  have e5 : y * (2 * q + 1) = y * (2 * q) + y := by rw [Nat.mul_add, Nat.mul_one]
  refine ⟨fun h => ?_, fun h => ?_⟩
  · have h1 : X / y = 2 * q := Nat.div_eq_of_lt_le (by rw [Nat.mul_comm]; omega) (by rw [Nat.mul_comm, Nat.mul_add, Nat.mul_one]; omega)
    have h2 := Nat.div_add_mod X y
    rw [h1] at h2 ⊢
    refine ⟨by omega, by rw [Nat.pow_succ, Nat.mul_comm 2 q, Nat.mul_assoc, Nat.mul_comm 2]⟩
  · have h1 : X / y = 2 * q + 1 := Nat.div_eq_of_lt_le (by rw [Nat.mul_comm]; omega) (by rw [Nat.mul_comm, Nat.mul_add, Nat.mul_one]; omega)
    have h2 := Nat.div_add_mod X y
    rw [h1] at h2 ⊢
    refine ⟨by omega, by rw [Nat.pow_succ, Nat.add_mul, Nat.one_mul, Nat.mul_comm 2 q, Nat.mul_assoc, Nat.mul_comm 2]⟩
theorem pw16 (k : Nat) : 2 ^ (k % 16) * 65536 ^ (k / 16) = 2 ^ k := by
  rw [H2, ← Nat.pow_add]; congr 1; omega
theorem c_Mo_divide (l : Launch) {g : Gh} (nx : Nat) {P i j : Nat} {E0 : Nat → Option Qf} {pl : Nat → Int32} {c n ts : Int32} {t : Nat → Nat} (hV : MV g P E0 pl c n ts t) (hi : 6 ≤ i) (hi2 : i ≤ 11) (hj : 6 ≤ j) (hj2 : j ≤ 11) (hy : 0 < t j) (hyl : 2 * t j ≤ 65536 ^ 56) : Ct l m_Mo_divide 0 0 [.ref P, .ref (P + i), .ref (P + j)] g nx (fun r g' nx' => r = none ∧ nx = nx' ∧ MV g' P E0 pl c n ts (upN (upN t 12 (t i / t j)) 13 (t i % t j)) ∧ g2 g g' (P + 12) (P + 13)) := by
  have h0 := hV.1
  have hA := MV_m hV i hi (by omega)
  have hB := MV_m hV j hj (by omega)
  have hQ0 := MV_m hV 12 (by omega) (by omega)
  have hR0 := MV_m hV 13 (by omega) (by omega)
  obtain ⟨x, hx⟩ : ∃ x, t i = x := ⟨_, rfl⟩
  obtain ⟨y, hy0⟩ : ∃ y, t j = y := ⟨_, rfl⟩
  rw [hx] at hA ⊢
  rw [hy0] at hB hy hyl ⊢
  refine Ct.of (by decide) (Nat.le_of_ble_eq_true rfl) (fun E hE hQ => ?_)
  refine z_aload_n hE d_Mo_divide_0 rfl ?_
  refine z_get hE d_Mo_divide_1 fl_Mo_44 (by assumption) rfl ?_
  refine z_callS hE d_Mo_divide_4 cl_Mo_54 (c_Mo_clear l nx hQ0) rfl (Nat.le_of_ble_eq_true rfl) ⟨by decide, by decide⟩ ⟨by omega, by omega⟩ (fun r_1 g_1 nx_1 hp_1 => ?_) rfl
  try dsimp only [Option.toList, List.nil_append, List.cons_append]
  obtain ⟨rfl, rfl, Q1, G1⟩ := hp_1
  try dsimp only [Option.toList, List.nil_append, List.cons_append]
  have m1 : g_1 P = some (oM P c n ts) := (G1 P (by omega)).trans h0
  refine z_aload_n hE d_Mo_divide_7 rfl ?_
  refine z_get hE d_Mo_divide_8 fl_Mo_47 (by assumption) rfl ?_
  refine z_callS hE d_Mo_divide_11 cl_Mo_54 (c_Mo_clear l nx (MA_o hR0 G1 (by omega))) rfl (Nat.le_of_ble_eq_true rfl) ⟨by decide, by decide⟩ ⟨by omega, by omega⟩ (fun r_2 g_2 nx_2 hp_2 => ?_) rfl
  try dsimp only [Option.toList, List.nil_append, List.cons_append]
  obtain ⟨rfl, rfl, R2, G2⟩ := hp_2
  try dsimp only [Option.toList, List.nil_append, List.cons_append]
  have Q2 := MA_o Q1 G2 (by omega)
  have X2 : g2 g g_2 (P + 12) (P + 13) := fun q z1 z2 => (G2 q z2).trans (G1 q z1)
  have A2 : MA g_2 (P + i) x := MA_o (MA_o hA G1 (by omega)) G2 (by omega)
  have hbx : bl x ≤ 896 := by
    rw [bl_iff, show 2 ^ 896 = 65536 ^ 56 by rw [H2]]; exact MA_lt hA
  refine z_aload_n hE d_Mo_divide_14 rfl ?_
  refine z_callS hE d_Mo_divide_15 cl_Mo_65 (c_Mo_bitsOf l nx A2) rfl (Nat.le_of_ble_eq_true rfl) ⟨by decide, by decide⟩ ⟨by omega, by omega⟩ (fun r_15 g_15 nx_15 hp_15 => ?_) rfl
  obtain ⟨rfl, rfl, rfl⟩ := hp_15
  try dsimp only [Option.toList, List.nil_append, List.cons_append]
  refine z_iconst (v := nI 1) hE d_Mo_divide_18 (by decide) ?_
  refine z_isub hE d_Mo_divide_19 (rfl) ?_
  refine z_istore_n hE d_Mo_divide_20 rfl (by decide) ?_
  have loop : ∀ (m : Nat) (z : Int32) (g' : Gh), z.toInt = (m : Int) - 1 → m ≤ 896 → g2 g g' (P + 12) (P + 13) → MA g' (P + 13) (x / 2 ^ m % y) → MA g' (P + 12) (x / 2 ^ m / y * 2 ^ m) → ∀ lv, lG lv 0 = some (.ref P) → lG lv 1 = some (.ref (P + i)) → lG lv 2 = some (.ref (P + j)) → lG lv 3 = some (.int z) → zJ E g' nx 0 0 21 lv [] := by
    intro m
    induction m with
    | zero =>
      intro z g' hz hm X R Q lv l0 l1 l2 l3
      refine z_sub (lv' := [(0, .ref P), (1, .ref (P + i)), (2, .ref (P + j)), (3, .int z)]) (by simp only [List.map, l0, l1, l2, l3]) ?_
      refine z_iload_n hE d_Mo_divide_21 rfl ?_
      refine z_if_lt (tgt := 88) hE d_Mo_divide_22 (by decide) (fun _ => ?_) (fun c_ => absurd c_ (fun y => y (i_lt0.mpr (by omega))))
      rw [Nat.pow_zero, Nat.div_one] at R Q
      rw [Nat.mul_one] at Q
      exact z_vret hE hQ d_Mo_divide_88 rfl (Nat.le_refl _) (Nat.le_refl _) ⟨rfl, rfl, MV_up2 hV (by omega) (by omega) Q R X, X⟩
    | succ k ih =>
      intro z g' hz hm X R Q lv l0 l1 l2 l3
      have hzk : z = nI k := i_ge (by omega) (by omega)
      subst hzk
      refine z_sub (lv' := [(0, .ref P), (1, .ref (P + i)), (2, .ref (P + j)), (3, .int (nI k))]) (by simp only [List.map, l0, l1, l2, l3]) ?_
      have m3 : g' P = some (oM P c n ts) := (X P (by omega) (by omega)).trans h0
      obtain ⟨d, hd, hdx⟩ := id hA
      have hd3 : g' (P + i) = some (oI 56 d) := (X _ (by omega) (by omega)).trans hd.1
      have hp := Nat.mod_lt k (show 0 < 16 by decide)
      have hbit : d (k / 16) / 2 ^ (k % 16) % 2 = x / 2 ^ k % 2 := by
        rw [← w16_dig hd.2 (k / 16) 56 (by omega), hdx, dig_bit hp, Nat.div_div_eq_div_mul, Nat.mul_comm, pw16]
      have hdd := hd.2 (k / 16)
      have hrl : x / 2 ^ (k + 1) % y < y := Nat.mod_lt _ hy
      obtain ⟨s1, s2⟩ := div_st (x := x) (k := k) hy
      refine z_iload_n hE d_Mo_divide_21 rfl ?_
      refine z_if_lt (tgt := 88) hE d_Mo_divide_22 (by decide) (fun c_ => absurd c_ (fun y => absurd (i_lt0.mp y) (by omega))) (fun _ => ?_)
      refine z_aload_n hE d_Mo_divide_25 rfl ?_
      refine z_get hE d_Mo_divide_26 fl_Mo_47 (by assumption) rfl ?_
      refine z_aload_n hE d_Mo_divide_29 rfl ?_
      refine z_iload_n hE d_Mo_divide_30 rfl ?_
      refine z_bipush (v := nI 16) hE d_Mo_divide_31 (by decide) ?_
      refine z_idiv (v := nI (k / 16)) hE d_Mo_divide_33 (by decide) (pk_div (by omega) (by omega) (by omega)) ?_
      refine z_iald hE d_Mo_divide_34 (by assumption) (nI_in' (by omega : k / 16 < 56) (by omega)) ?_
      rw [nI_cl (by omega)]
      refine z_iload_n hE d_Mo_divide_35 rfl ?_
      refine z_bipush (v := nI 16) hE d_Mo_divide_36 (by decide) ?_
      refine z_irem (v := nI (k % 16)) hE d_Mo_divide_38 (by decide) (pk_rem (by omega) (by omega) (by omega)) ?_
      refine z_ishr (v := nI (d (k / 16) / 2 ^ (k % 16))) hE d_Mo_divide_39 (i_shr (by omega) (by omega)) ?_
      refine z_iconst (v := 1) hE d_Mo_divide_40 (by decide) ?_
      refine z_iand (v := nI (d (k / 16) / 2 ^ (k % 16) % 2)) hE d_Mo_divide_41 (i_and1 _) ?_
      rw [hbit]
      refine z_callS hE d_Mo_divide_42 cl_Mo_61 (c_Mo_doubled l nx R (bit := x / 2 ^ k % 2) (by omega) (by omega)) rfl (Nat.le_of_ble_eq_true rfl) ⟨by decide, by decide⟩ ⟨by omega, by omega⟩ (fun r_3 g_3 nx_3 hp_3 => ?_) rfl
      try dsimp only [Option.toList, List.nil_append, List.cons_append]
      obtain ⟨rfl, rfl, R3, G3⟩ := hp_3
      try dsimp only [Option.toList, List.nil_append, List.cons_append]
      have X3 : g2 g g_3 (P + 12) (P + 13) := fun q z1 z2 => (G3 q z2).trans (X q z1 z2)
      have Q3 := MA_o Q G3 (by omega)
      have m4 : g_3 P = some (oM P c n ts) := (X3 P (by omega) (by omega)).trans h0
      have B3 : MA g_3 (P + j) y := by
        obtain ⟨e, he, hey⟩ := id hB
        exact ⟨e, ⟨(X3 _ (by omega) (by omega)).trans he.1, he.2⟩, hey⟩
      refine z_aload_n hE d_Mo_divide_45 rfl ?_
      refine z_get hE d_Mo_divide_46 fl_Mo_47 (by assumption) rfl ?_
      refine z_aload_n hE d_Mo_divide_49 rfl ?_
      refine z_callS hE d_Mo_divide_50 cl_Mo_69 (c_Mo_compared l nx R3 B3) rfl (Nat.le_of_ble_eq_true rfl) ⟨by decide, by decide⟩ ⟨by omega, by omega⟩ (fun r_50 g_50 nx_50 hp_50 => ?_) rfl
      obtain ⟨rfl, rfl, rfl⟩ := hp_50
      try dsimp only [Option.toList, List.nil_append, List.cons_append]
      have next : ∀ (g4 : Gh), g2 g g4 (P + 12) (P + 13) → MA g4 (P + 13) (x / 2 ^ k % y) → MA g4 (P + 12) (x / 2 ^ k / y * 2 ^ k) → ∀ lv, lG lv 0 = some (.ref P) → lG lv 1 = some (.ref (P + i)) → lG lv 2 = some (.ref (P + j)) → lG lv 3 = some (.int (nI k)) → zJ E g4 nx 0 0 82 lv [] := by
        intro g4 X4 R4 Q4 lv l0 l1 l2 l3
        refine z_sub (lv' := [(0, .ref P), (1, .ref (P + i)), (2, .ref (P + j)), (3, .int (nI k))]) (by simp only [List.map, l0, l1, l2, l3]) ?_
        refine z_iinc hE d_Mo_divide_82 rfl (rfl) (by decide) ?_
        refine z_goto (tgt := 21) hE d_Mo_divide_85 (by decide) ?_
        exact ih _ g4 (by show (nI k + (-1)).toInt = _; rw [i_m1I (by rw [nI_ti (by omega)]; omega) (by rw [nI_ti (by omega)]; omega), nI_ti (by omega)]) (by omega) X4 R4 Q4 _ rfl rfl rfl rfl
      by_cases hc : 2 * (x / 2 ^ (k + 1) % y) + x / 2 ^ k % 2 < y
      · obtain ⟨e1, e2⟩ := s1 hc
        rw [show cmpN (2 * (x / 2 ^ (k + 1) % y) + x / 2 ^ k % 2) y = -1 from if_pos hc]
        refine z_if_lt (tgt := 82) hE d_Mo_divide_53 (by decide) (fun _ => ?_) (fun c_ => absurd c_ (by decide))
        exact next g_3 X3 (by rw [e1]; exact R3) (by rw [e2]; exact Q3) _ rfl rfl rfl rfl
      · obtain ⟨e1, e2⟩ := s2 (by omega)
        have hcm : ¬ cmpN (2 * (x / 2 ^ (k + 1) % y) + x / 2 ^ k % 2) y < 0 := by unfold cmpN; rw [if_neg hc]; split <;> decide
        refine z_if_lt (tgt := 82) hE d_Mo_divide_53 (by decide) (fun c_ => absurd c_ (hcm)) (fun _ => ?_)
        refine z_aload_n hE d_Mo_divide_56 rfl ?_
        refine z_get hE d_Mo_divide_57 fl_Mo_47 (by assumption) rfl ?_
        refine z_aload_n hE d_Mo_divide_60 rfl ?_
        refine z_callS hE d_Mo_divide_61 cl_Mo_73 (c_Mo_takeFrom l nx R3 B3 (by omega) (by omega)) rfl (Nat.le_of_ble_eq_true rfl) ⟨by decide, by decide⟩ ⟨by omega, by omega⟩ (fun r_4 g_4 nx_4 hp_4 => ?_) rfl
        try dsimp only [Option.toList, List.nil_append, List.cons_append]
        obtain ⟨rfl, rfl, R4, G4⟩ := hp_4
        try dsimp only [Option.toList, List.nil_append, List.cons_append]
        have m5 : g_4 P = some (oM P c n ts) := (G4 P (by omega)).trans m4
        have X4 : g2 g g_4 (P + 12) (P + 13) := fun q z1 z2 => (G4 q z2).trans (X3 q z1 z2)
        obtain ⟨e, he, hey⟩ := MA_o Q3 G4 (by omega)
        have he1 := he.1
        have hee := he.2 (k / 16)
        have heb : e (k / 16) / 2 ^ (k % 16) % 2 = 0 := by
          rw [← w16_dig he.2 (k / 16) 56 (by omega), hey, dig_bit hp, Nat.div_div_eq_div_mul, Nat.mul_comm (65536 ^ (k / 16)), pw16, Nat.pow_succ, Nat.mul_comm (2 ^ k) 2, ← Nat.mul_assoc, Nat.mul_div_cancel _ (p2_pos k)]
          omega
        have h2p : 2 ^ (k % 16) ≤ 32768 := Nat.pow_le_pow_right (by decide) (show k % 16 ≤ 15 by omega)
        have hor := or_bit heb
        have hlt16 : e (k / 16) ||| 2 ^ (k % 16) < 65536 := Nat.or_lt_two_pow (n := 16) hee (by omega)
        rw [hor] at hlt16
        refine z_aload_n hE d_Mo_divide_64 rfl ?_
        refine z_get hE d_Mo_divide_65 fl_Mo_44 (by assumption) rfl ?_
        refine z_iload_n hE d_Mo_divide_68 rfl ?_
        refine z_bipush (v := nI 16) hE d_Mo_divide_69 (by decide) ?_
        refine z_idiv (v := nI (k / 16)) hE d_Mo_divide_71 (by decide) (pk_div (by omega) (by omega) (by omega)) ?_
        refine z_dup2 hE d_Mo_divide_72 rfl rfl ?_
        refine z_iald hE d_Mo_divide_73 (by assumption) (nI_in' (by omega : k / 16 < 56) (by omega)) ?_
        rw [nI_cl (by omega)]
        refine z_iconst (v := nI 1) hE d_Mo_divide_74 (by decide) ?_
        refine z_iload_n hE d_Mo_divide_75 rfl ?_
        refine z_bipush (v := nI 16) hE d_Mo_divide_76 (by decide) ?_
        refine z_irem (v := nI (k % 16)) hE d_Mo_divide_78 (by decide) (pk_rem (by omega) (by omega) (by omega)) ?_
        refine z_ishl (v := nI (1 * 2 ^ (k % 16))) hE d_Mo_divide_79 (i_shl (by omega) (by omega)) ?_
        rw [Nat.one_mul]
        refine z_ior (v := nI (e (k / 16) + 2 ^ (k % 16))) hE d_Mo_divide_80 (by rw [i_or, hor]) ?_
        refine z_iast hE d_Mo_divide_81 (by assumption) (nI_in' (by omega : k / 16 < 56) (by omega)) ?_
        rw [nI_cl (by omega)]
        have hI := I56_S (k := k / 16) he hlt16
        refine next _ (fun q z1 z2 => ?_) (MA_o (by rw [e1]; exact R4) g1_S (by omega)) ⟨_, hI, ?_⟩ _ rfl rfl rfl rfl
        · rw [gS_n z1]; exact X4 q z1 z2
        · rw [w16_upm 56 (by omega), hey, e2, pw16]
  refine loop (bl x) _ g_2 ?_ hbx X2 ?_ ?_ _ rfl rfl rfl rfl
  · rw [pk_sub_toInt (by omega) (by omega)]; rfl
  · rw [Nat.div_eq_of_lt (bl_lt x), Nat.zero_mod]; exact R2
  · rw [Nat.div_eq_of_lt (bl_lt x), Nat.zero_div, Nat.zero_mul]; exact Q2
theorem c_Mo_take (l : Launch) {g : Gh} (nx : Nat) {P f i j : Nat} {E0 : Nat → Option Qf} {pl : Nat → Int32} {c n ts : Int32} {t : Nat → Nat} {q : Qf} (hV : MV g P E0 pl c n ts t) (hf : f < 58) (hq : E0 f = some q) (hi : 6 ≤ i) (hi2 : i ≤ 13) (hj : 6 ≤ j) (hj2 : j ≤ 13) (hij : i ≠ j) : Ct l m_Mo_take 0 0 [.ref P, .int (nI f), .ref (P + i), .ref (P + j)] g nx (fun r g' nx' => r = none ∧ nx = nx' ∧ MV g' P E0 pl c n ts (upN (upN t i q.2.1) j q.2.2) ∧ g2 g g' (P + i) (P + j)) := by
  have h0 := hV.1
  obtain ⟨-, -, ⟨sn, A, B, b1, b2, b3, b4, b5, b6⟩, -⟩ := id hV
  obtain ⟨-, qa, qb⟩ := b6 f hf q hq
  refine Ct.of (by decide) (Nat.le_of_ble_eq_true rfl) (fun E hE hQ => ?_)
  refine z_aload_n hE d_Mo_take_0 rfl ?_
  refine z_callS hE d_Mo_take_1 cl_Mo_54 (c_Mo_clear l nx (MV_m hV i hi hi2)) rfl (Nat.le_of_ble_eq_true rfl) ⟨by decide, by decide⟩ ⟨by omega, by omega⟩ (fun r_1 g_1 nx_1 hp_1 => ?_) rfl
  try dsimp only [Option.toList, List.nil_append, List.cons_append]
  obtain ⟨rfl, rfl, Q1, G1⟩ := hp_1
  try dsimp only [Option.toList, List.nil_append, List.cons_append]
  refine z_aload_n hE d_Mo_take_4 rfl ?_
  refine z_callS hE d_Mo_take_5 cl_Mo_54 (c_Mo_clear l nx (MA_o (MV_m hV j hj hj2) G1 (by omega))) rfl (Nat.le_of_ble_eq_true rfl) ⟨by decide, by decide⟩ ⟨by omega, by omega⟩ (fun r_2 g_2 nx_2 hp_2 => ?_) rfl
  try dsimp only [Option.toList, List.nil_append, List.cons_append]
  obtain ⟨rfl, rfl, R2, G2⟩ := hp_2
  try dsimp only [Option.toList, List.nil_append, List.cons_append]
  obtain ⟨d0, hd0, e0⟩ := MA_o Q1 G2 (by omega)
  obtain ⟨r0, hr0, e1⟩ := R2
  have z0 := w16_0 e0
  have z1 := w16_0 e1
  have X2 : g2 g g_2 (P + i) (P + j) := fun q z1 z2 => (G2 q z2).trans (G1 q z1)
  have loop : ∀ (u k : Nat) (g' : Gh) (d e : Nat → Nat), k + u = 16 → I56 g' (P + i) d → I56 g' (P + j) e → g2 g g' (P + i) (P + j) → (∀ x, x < k → d x = A (16 * f + x) ∧ e x = B (16 * f + x)) → (∀ x, k ≤ x → x < 56 → d x = 0 ∧ e x = 0) → ∀ lv, lG lv 0 = some (.ref P) → lG lv 1 = some (.int (nI f)) → lG lv 2 = some (.ref (P + i)) → lG lv 3 = some (.ref (P + j)) → lG lv 4 = some (.int (nI k)) → zJ E g' nx 0 0 11 lv [] := by
    intro u
    induction u with
    | zero =>
      intro k g' d e hu hD hE1 X h1 h2 lv l0 l1 l2 l3 l4
      refine z_sub (lv' := [(0, .ref P), (1, .int (nI f)), (2, .ref (P + i)), (3, .ref (P + j)), (4, .int (nI k))]) (by simp only [List.map, l0, l1, l2, l3, l4]) ?_
      obtain rfl : k = 16 := by omega
      have m1 : g' P = some (oM P c n ts) := (X P (by omega) (by omega)).trans h0
      have A1 : g' (P + 3) = some (oI 928 A) := (X _ (by omega) (by omega)).trans b2
      have B1 : g' (P + 4) = some (oI 928 B) := (X _ (by omega) (by omega)).trans b3
      have hD1 := hD.1
      have hE11 := hE1.1
      refine z_iload hE d_Mo_take_11 rfl ?_
      refine z_bipush (v := nI 16) hE d_Mo_take_13 (by decide) ?_
      refine z_icmp_ge (tgt := 56) hE d_Mo_take_15 (by decide) (fun _ => ?_) (fun c_ => absurd c_ (fun z => z ((nI_LE (by omega) (by omega)).mpr (by omega))))
      refine z_vret hE hQ d_Mo_take_56 rfl (Nat.le_refl _) (Nat.le_refl _) ⟨rfl, rfl, MV_up2 hV hi hj ⟨d, hD, ?_⟩ ⟨e, hE1, ?_⟩ X, X⟩
      · rw [show 56 = 16 + 40 from rfl, w16_zs 40 (fun x x1 x2 => (h2 x x1 (by omega)).1), ← qa]
        exact w16_ext 16 (fun x hx => (h1 x hx).1)
      · rw [show 56 = 16 + 40 from rfl, w16_zs 40 (fun x x1 x2 => (h2 x x1 (by omega)).2), ← qb]
        exact w16_ext 16 (fun x hx => (h1 x hx).2)
    | succ u ih =>
      intro k g' d e hu hD hE1 X h1 h2 lv l0 l1 l2 l3 l4
      refine z_sub (lv' := [(0, .ref P), (1, .int (nI f)), (2, .ref (P + i)), (3, .ref (P + j)), (4, .int (nI k))]) (by simp only [List.map, l0, l1, l2, l3, l4]) ?_
      have m1 : g' P = some (oM P c n ts) := (X P (by omega) (by omega)).trans h0
      have A1 : g' (P + 3) = some (oI 928 A) := (X _ (by omega) (by omega)).trans b2
      have B1 : g' (P + 4) = some (oI 928 B) := (X _ (by omega) (by omega)).trans b3
      have hD1 := hD.1
      have hE11 := hE1.1
      refine z_iload hE d_Mo_take_11 rfl ?_
      refine z_bipush (v := nI 16) hE d_Mo_take_13 (by decide) ?_
      refine z_icmp_ge (tgt := 56) hE d_Mo_take_15 (by decide) (fun c_ => absurd c_ (fun z => absurd ((nI_LE (by omega) (by omega)).mp z) (by omega))) (fun _ => ?_)
      refine z_aload_n hE d_Mo_take_18 rfl ?_
      refine z_iload hE d_Mo_take_19 rfl ?_
      refine z_aload_n hE d_Mo_take_21 rfl ?_
      refine z_get hE d_Mo_take_22 fl_Mo_17 (by assumption) rfl ?_
      refine z_bipush (v := nI 16) hE d_Mo_take_25 (by decide) ?_
      refine z_iload_n hE d_Mo_take_27 rfl ?_
      refine z_imul (v := nI (16 * f)) hE d_Mo_take_28 (pk_mul 16 f) ?_
      refine z_iload hE d_Mo_take_29 rfl ?_
      refine z_iadd (v := nI (16 * f + k)) hE d_Mo_take_31 (nI_add _ _) ?_
      refine z_iald hE d_Mo_take_32 (by assumption) (nI_in' (by omega : 16 * f + k < 928) (by omega)) ?_
      rw [nI_cl (by omega)]
      refine z_iast hE d_Mo_take_33 (by assumption) (nI_in' (by omega : k < 56) (by omega)) ?_
      rw [nI_cl (by omega)]
      have hD2 := I56_S (k := k) hD (b4 (16 * f + k))
      have hE2 := I56_o hE1 (g1_S (g := g') (a := P + i) (e := .inl (1, 56, .inl (upd (fun j => nI (d j)) k (nI (A (16 * f + k))))))) (by omega)
      have hE21 := hE2.1
      have m2 := (gS_n (g := g') (a := P + i) (e := .inl (1, 56, .inl (upd (fun j => nI (d j)) k (nI (A (16 * f + k))))) ) (b := P) (by omega)).trans m1
      have B2 := (gS_n (g := g') (a := P + i) (e := .inl (1, 56, .inl (upd (fun j => nI (d j)) k (nI (A (16 * f + k))))) ) (b := P + 4) (by omega)).trans B1
      refine z_aload_n hE d_Mo_take_34 rfl ?_
      refine z_iload hE d_Mo_take_35 rfl ?_
      refine z_aload_n hE d_Mo_take_37 rfl ?_
      refine z_get hE d_Mo_take_38 fl_Mo_20 (by assumption) rfl ?_
      refine z_bipush (v := nI 16) hE d_Mo_take_41 (by decide) ?_
      refine z_iload_n hE d_Mo_take_43 rfl ?_
      refine z_imul (v := nI (16 * f)) hE d_Mo_take_44 (pk_mul 16 f) ?_
      refine z_iload hE d_Mo_take_45 rfl ?_
      refine z_iadd (v := nI (16 * f + k)) hE d_Mo_take_47 (nI_add _ _) ?_
      refine z_iald hE d_Mo_take_48 (by assumption) (nI_in' (by omega : 16 * f + k < 928) (by omega)) ?_
      rw [nI_cl (by omega)]
      refine z_iast hE d_Mo_take_49 (by assumption) (nI_in' (by omega : k < 56) (by omega)) ?_
      rw [nI_cl (by omega)]
      refine z_iinc (v := nI (k + 1)) hE d_Mo_take_50 rfl (nI_1 k) (by decide) ?_
      refine z_goto (tgt := 11) hE d_Mo_take_53 (by decide) ?_
      refine ih (k + 1) _ _ _ (by omega) (I56_o hD2 g1_S (by omega)) (I56_S hE2 (b5 (16 * f + k))) (fun q z1 z2 => ?_) (fun x hx => ?_) (fun x x1 x2 => ?_) _ rfl rfl rfl rfl rfl
      · rw [gS_n z2, gS_n z1]; exact X q z1 z2
      · unfold upN
        by_cases hxk : x = k
        · rw [if_pos hxk, if_pos hxk, hxk]; exact ⟨rfl, rfl⟩
        · rw [if_neg hxk, if_neg hxk]; exact h1 x (by omega)
      · rw [upN_n (by omega), upN_n (by omega)]; exact h2 x (by omega) x2
  refine z_iconst (v := nI 0) hE d_Mo_take_8 (by decide) ?_
  refine z_istore hE d_Mo_take_9 (by decide) ?_
  exact loop 16 0 g_2 d0 r0 (by omega) hd0 hr0 X2 (fun x hx => by omega) (fun x _ x2 => ⟨z0 x x2, z1 x x2⟩) _ rfl rfl rfl rfl rfl

