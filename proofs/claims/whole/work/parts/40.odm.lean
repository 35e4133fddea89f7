/-! OddsFractions: the calls -/
section ZM
variable {E : zE} {l : Launch} {M : mI} {tc ts : Nat} {g : Gh} {nx cells slots pc : Nat} {lv : List (Nat × Value)} {rest : List Value}
theorem z_ifnonnullR (hE : zOk E l M tc ts) {a : Nat} {off : Int} {tgt : Nat} (hd : decode M.2.1 pc = .ok (.ifnonnull off, 3)) (ht : (pc : Int) + off = (tgt : Int)) (k : zJ E g nx cells slots tgt lv rest) : zJ E g nx cells slots pc lv (.ref a :: rest) :=
  z_ifnonnull (r := some a) hE hd ht (fun _ _ => k) (fun c => by cases c)
theorem z_ifnonnullZ (hE : zOk E l M tc ts) {off : Int} {tgt : Nat} (hd : decode M.2.1 pc = .ok (.ifnonnull off, 3)) (ht : (pc : Int) + off = (tgt : Int)) (k : zJ E g nx cells slots (pc + 3) lv rest) : zJ E g nx cells slots pc lv (.null :: rest) :=
  z_ifnonnull (r := none) hE hd ht (fun _ c => by cases c) (fun _ => k)
theorem z_ifnullR (hE : zOk E l M tc ts) {a : Nat} {off : Int} {tgt : Nat} (hd : decode M.2.1 pc = .ok (.ifnull off, 3)) (ht : (pc : Int) + off = (tgt : Int)) (k : zJ E g nx cells slots (pc + 3) lv rest) : zJ E g nx cells slots pc lv (.ref a :: rest) :=
  z_ifnull (r := some a) hE hd ht (fun c => by cases c) (fun _ _ => k)
theorem z_ifnullZ (hE : zOk E l M tc ts) {off : Int} {tgt : Nat} (hd : decode M.2.1 pc = .ok (.ifnull off, 3)) (ht : (pc : Int) + off = (tgt : Int)) (k : zJ E g nx cells slots tgt lv rest) : zJ E g nx cells slots pc lv (.null :: rest) :=
  z_ifnull (r := none) hE hd ht (fun _ => k) (fun _ c => by cases c)
theorem z_astore_nN (hE : zOk E l M tc ts) {j : Fin 4} {i : Nat} (hd : decode M.2.1 pc = .ok (.astore_n j, 1)) (hj : (j : Nat) = i) (hn : i < M.2.2.1) (k : zJ E g nx cells slots (pc + 1) (lS1 lv i .null) rest) : zJ E g nx cells slots pc lv (.null :: rest) :=
  z_astore_nq (r := none) hE hd hj hn k
theorem z_astoreN (hE : zOk E l M tc ts) {i : Nat} (hd : decode M.2.1 pc = .ok (.astore i, 2)) (hn : i < M.2.2.1) (k : zJ E g nx cells slots (pc + 2) (lS1 lv i .null) rest) : zJ E g nx cells slots pc lv (.null :: rest) :=
  z_astoreq (r := none) hE hd hn k
theorem mkS_int (S : Sx) (f : Nat) (q : Qf) : ∃ a, (mkS S f q).1 = .int a := by
  unfold mkS
  split
  · exact ⟨_, rfl⟩
  · exact ⟨_, rfl⟩
theorem pO_of {g g' : Gh} {O nx nx' : Nat} {p : Vx} {r : Value} {S' : Sx} {sg : Int32} {v w : Nat → Nat} (e : p = (r, S')) (hn : nx ≤ nx') (C : OV g' O nx' S' sg v w) (x : gX g g' O nx) : pO g O nx p (some r) g' nx' := by
  subst e
  exact ⟨rfl, hn, ⟨sg, v, w, C⟩, x⟩
/-- a call that ends with make's answer -/
theorem z_mkret (hE : zOk E l M tc ts) {g0 g1 : Gh} {O n0 : Nat} {p : Vx} {S : Sx} {f : Nat} {q : Qf} {r : Option Value} (hQ : zRt E tc ts (pO g0 O n0 p)) (hd : decode M.2.1 pc = .ok (.ireturn, 1)) (hret : M.2.2.2.1 = some .int) (hc : cells ≤ tc) (hs : slots ≤ ts) (hx : gX g0 g1 O n0) (e : p = mkS S f q) (hp : pO g1 O n0 (mkS S f q) r g nx) : zJ E g nx cells slots pc lv (r.toList ++ []) := by
  obtain ⟨a, ha⟩ := mkS_int S f q
  obtain ⟨h1, h2, h3, h4⟩ := hp
  rw [ha] at h1
  subst h1
  subst e
  exact z_iret hE hQ hd hret hc hs ⟨by rw [ha], h2, h3, gX_t hx h4 (Nat.le_refl _)⟩
end ZM
theorem sgL_sm {x : Int64} (h : x ≠ 0) : sm (sgL x) := by
  unfold sgL
  by_cases hx : x < 0
  · rw [if_pos hx]; exact Or.inr rfl
  · rw [if_neg hx, if_neg h]; exact Or.inl rfl
theorem sm_mul {s t : Int32} (hs : sm s) (ht : sm t) : sm (s * t) := by
  rcases hs with rfl | rfl <;> rcases ht with rfl | rfl
  · exact Or.inl (by decide)
  · exact Or.inr (by decide)
  · exact Or.inr (by decide)
  · exact Or.inl (by decide)
theorem d_Od_value_0 : decode b_Od_value 0 = .ok (.iload_n 1, 1) := by decide +kernel
theorem d_Od_value_1 : decode b_Od_value 1 = .ok (.invokestatic 43, 3) := by decide +kernel
theorem d_Od_value_4 : decode b_Od_value 4 = .ok (.ifCond .eq 6, 3) := by decide +kernel
theorem d_Od_value_7 : decode b_Od_value 7 = .ok (.ldc 47, 2) := by decide +kernel
theorem d_Od_value_9 : decode b_Od_value 9 = .ok (.ireturn, 1) := by decide +kernel
theorem d_Od_value_10 : decode b_Od_value 10 = .ok (.lload 4, 2) := by decide +kernel
theorem d_Od_value_12 : decode b_Od_value 12 = .ok (.lconst 0, 1) := by decide +kernel
theorem d_Od_value_13 : decode b_Od_value 13 = .ok (.lcmp, 1) := by decide +kernel
theorem d_Od_value_14 : decode b_Od_value 14 = .ok (.ifCond .ne 9, 3) := by decide +kernel
theorem d_Od_value_17 : decode b_Od_value 17 = .ok (.aload_n 0, 1) := by decide +kernel
theorem d_Od_value_18 : decode b_Od_value 18 = .ok (.iconst 5, 1) := by decide +kernel
theorem d_Od_value_19 : decode b_Od_value 19 = .ok (.invokevirtual 48, 3) := by decide +kernel
theorem d_Od_value_22 : decode b_Od_value 22 = .ok (.ireturn, 1) := by decide +kernel
theorem d_Od_value_23 : decode b_Od_value 23 = .ok (.aload_n 0, 1) := by decide +kernel
theorem d_Od_value_24 : decode b_Od_value 24 = .ok (.getfield 25, 3) := by decide +kernel
theorem d_Od_value_27 : decode b_Od_value 27 = .ok (.lload_n 2, 1) := by decide +kernel
theorem d_Od_value_28 : decode b_Od_value 28 = .ok (.lload 4, 2) := by decide +kernel
theorem d_Od_value_30 : decode b_Od_value 30 = .ok (.invokevirtual 52, 3) := by decide +kernel
theorem d_Od_value_33 : decode b_Od_value 33 = .ok (.aload_n 0, 1) := by decide +kernel
theorem d_Od_value_34 : decode b_Od_value 34 = .ok (.iload_n 1, 1) := by decide +kernel
theorem d_Od_value_35 : decode b_Od_value 35 = .ok (.invokevirtual 56, 3) := by decide +kernel
theorem d_Od_value_38 : decode b_Od_value 38 = .ok (.ireturn, 1) := by decide +kernel
theorem d_Od_copy_0 : decode b_Od_copy 0 = .ok (.iload_n 1, 1) := by decide +kernel
theorem d_Od_copy_1 : decode b_Od_copy 1 = .ok (.invokestatic 43, 3) := by decide +kernel
theorem d_Od_copy_4 : decode b_Od_copy 4 = .ok (.ifCond .ne 10, 3) := by decide +kernel
theorem d_Od_copy_7 : decode b_Od_copy 7 = .ok (.iload_n 2, 1) := by decide +kernel
theorem d_Od_copy_8 : decode b_Od_copy 8 = .ok (.invokestatic 43, 3) := by decide +kernel
theorem d_Od_copy_11 : decode b_Od_copy 11 = .ok (.ifCond .eq 6, 3) := by decide +kernel
theorem d_Od_copy_14 : decode b_Od_copy 14 = .ok (.ldc 47, 2) := by decide +kernel
theorem d_Od_copy_16 : decode b_Od_copy 16 = .ok (.ireturn, 1) := by decide +kernel
theorem d_Od_copy_17 : decode b_Od_copy 17 = .ok (.aload_n 0, 1) := by decide +kernel
theorem d_Od_copy_18 : decode b_Od_copy 18 = .ok (.iload_n 2, 1) := by decide +kernel
theorem d_Od_copy_19 : decode b_Od_copy 19 = .ok (.invokevirtual 59, 3) := by decide +kernel
theorem d_Od_copy_22 : decode b_Od_copy 22 = .ok (.astore_n 3, 1) := by decide +kernel
theorem d_Od_copy_23 : decode b_Od_copy 23 = .ok (.aload_n 3, 1) := by decide +kernel
theorem d_Od_copy_24 : decode b_Od_copy 24 = .ok (.ifnonnull 9, 3) := by decide +kernel
theorem d_Od_copy_27 : decode b_Od_copy 27 = .ok (.aload_n 0, 1) := by decide +kernel
theorem d_Od_copy_28 : decode b_Od_copy 28 = .ok (.iconst 1, 1) := by decide +kernel
theorem d_Od_copy_29 : decode b_Od_copy 29 = .ok (.invokevirtual 48, 3) := by decide +kernel
theorem d_Od_copy_32 : decode b_Od_copy 32 = .ok (.ireturn, 1) := by decide +kernel
theorem d_Od_copy_33 : decode b_Od_copy 33 = .ok (.aload_n 0, 1) := by decide +kernel
theorem d_Od_copy_34 : decode b_Od_copy 34 = .ok (.iload_n 1, 1) := by decide +kernel
theorem d_Od_copy_35 : decode b_Od_copy 35 = .ok (.aload_n 3, 1) := by decide +kernel
theorem d_Od_copy_36 : decode b_Od_copy 36 = .ok (.invokevirtual 63, 3) := by decide +kernel
theorem d_Od_copy_39 : decode b_Od_copy 39 = .ok (.aload_n 0, 1) := by decide +kernel
theorem d_Od_copy_40 : decode b_Od_copy 40 = .ok (.aload_n 3, 1) := by decide +kernel
theorem d_Od_copy_41 : decode b_Od_copy 41 = .ok (.getfield 67, 3) := by decide +kernel
theorem d_Od_copy_44 : decode b_Od_copy 44 = .ok (.invokevirtual 70, 3) := by decide +kernel
theorem d_Od_copy_47 : decode b_Od_copy 47 = .ok (.ireturn, 1) := by decide +kernel
theorem d_Od_nothing_0 : decode b_Od_nothing 0 = .ok (.iload_n 1, 1) := by decide +kernel
theorem d_Od_nothing_1 : decode b_Od_nothing 1 = .ok (.invokestatic 43, 3) := by decide +kernel
theorem d_Od_nothing_4 : decode b_Od_nothing 4 = .ok (.ifCond .eq 6, 3) := by decide +kernel
theorem d_Od_nothing_7 : decode b_Od_nothing 7 = .ok (.ldc 47, 2) := by decide +kernel
theorem d_Od_nothing_9 : decode b_Od_nothing 9 = .ok (.ireturn, 1) := by decide +kernel
theorem d_Od_nothing_10 : decode b_Od_nothing 10 = .ok (.aload_n 0, 1) := by decide +kernel
theorem d_Od_nothing_11 : decode b_Od_nothing 11 = .ok (.iload_n 1, 1) := by decide +kernel
theorem d_Od_nothing_12 : decode b_Od_nothing 12 = .ok (.invokevirtual 59, 3) := by decide +kernel
theorem d_Od_nothing_15 : decode b_Od_nothing 15 = .ok (.ifnonnull 7, 3) := by decide +kernel
theorem d_Od_nothing_18 : decode b_Od_nothing 18 = .ok (.iconst 0, 1) := by decide +kernel
theorem d_Od_nothing_19 : decode b_Od_nothing 19 = .ok (.goto 4, 3) := by decide +kernel
theorem d_Od_nothing_22 : decode b_Od_nothing 22 = .ok (.iconst 1, 1) := by decide +kernel
theorem d_Od_nothing_23 : decode b_Od_nothing 23 = .ok (.istore_n 2, 1) := by decide +kernel
theorem d_Od_nothing_24 : decode b_Od_nothing 24 = .ok (.aload_n 0, 1) := by decide +kernel
theorem d_Od_nothing_25 : decode b_Od_nothing 25 = .ok (.iload_n 1, 1) := by decide +kernel
theorem d_Od_nothing_26 : decode b_Od_nothing 26 = .ok (.aconst_null, 1) := by decide +kernel
theorem d_Od_nothing_27 : decode b_Od_nothing 27 = .ok (.invokevirtual 63, 3) := by decide +kernel
theorem d_Od_nothing_30 : decode b_Od_nothing 30 = .ok (.iload_n 2, 1) := by decide +kernel
theorem d_Od_nothing_31 : decode b_Od_nothing 31 = .ok (.ireturn, 1) := by decide +kernel
theorem d_Od_power_0 : decode b_Od_power 0 = .ok (.iload_n 1, 1) := by decide +kernel
theorem d_Od_power_1 : decode b_Od_power 1 = .ok (.invokestatic 43, 3) := by decide +kernel
theorem d_Od_power_4 : decode b_Od_power 4 = .ok (.ifCond .ne 23, 3) := by decide +kernel
theorem d_Od_power_7 : decode b_Od_power 7 = .ok (.iload_n 2, 1) := by decide +kernel
theorem d_Od_power_8 : decode b_Od_power 8 = .ok (.invokestatic 43, 3) := by decide +kernel
theorem d_Od_power_11 : decode b_Od_power 11 = .ok (.ifCond .ne 16, 3) := by decide +kernel
theorem d_Od_power_14 : decode b_Od_power 14 = .ok (.iload_n 3, 1) := by decide +kernel
theorem d_Od_power_15 : decode b_Od_power 15 = .ok (.sipush (-300), 3) := by decide +kernel
theorem d_Od_power_18 : decode b_Od_power 18 = .ok (.sipush 300, 3) := by decide +kernel
theorem d_Od_power_21 : decode b_Od_power 21 = .ok (.invokestatic 73, 3) := by decide +kernel
theorem d_Od_power_24 : decode b_Od_power 24 = .ok (.ifCond .eq 6, 3) := by decide +kernel
theorem d_Od_power_27 : decode b_Od_power 27 = .ok (.ldc 47, 2) := by decide +kernel
theorem d_Od_power_29 : decode b_Od_power 29 = .ok (.ireturn, 1) := by decide +kernel
theorem d_Od_power_30 : decode b_Od_power 30 = .ok (.aload_n 0, 1) := by decide +kernel
theorem d_Od_power_31 : decode b_Od_power 31 = .ok (.iload_n 2, 1) := by decide +kernel
theorem d_Od_power_32 : decode b_Od_power 32 = .ok (.invokevirtual 59, 3) := by decide +kernel
theorem d_Od_power_35 : decode b_Od_power 35 = .ok (.astore 4, 2) := by decide +kernel
theorem d_Od_power_37 : decode b_Od_power 37 = .ok (.aload 4, 2) := by decide +kernel
theorem d_Od_power_39 : decode b_Od_power 39 = .ok (.ifnonnull 9, 3) := by decide +kernel
theorem d_Od_power_42 : decode b_Od_power 42 = .ok (.aload_n 0, 1) := by decide +kernel
theorem d_Od_power_43 : decode b_Od_power 43 = .ok (.iconst 1, 1) := by decide +kernel
theorem d_Od_power_44 : decode b_Od_power 44 = .ok (.invokevirtual 48, 3) := by decide +kernel
theorem d_Od_power_47 : decode b_Od_power 47 = .ok (.ireturn, 1) := by decide +kernel
theorem d_Od_power_48 : decode b_Od_power 48 = .ok (.iload_n 3, 1) := by decide +kernel
theorem d_Od_power_49 : decode b_Od_power 49 = .ok (.ifCond .ge 17, 3) := by decide +kernel
theorem d_Od_power_52 : decode b_Od_power 52 = .ok (.aload 4, 2) := by decide +kernel
theorem d_Od_power_54 : decode b_Od_power 54 = .ok (.getfield 67, 3) := by decide +kernel
theorem d_Od_power_57 : decode b_Od_power 57 = .ok (.ifCond .ne 9, 3) := by decide +kernel
theorem d_Od_power_60 : decode b_Od_power 60 = .ok (.aload_n 0, 1) := by decide +kernel
theorem d_Od_power_61 : decode b_Od_power 61 = .ok (.iconst 5, 1) := by decide +kernel
theorem d_Od_power_62 : decode b_Od_power 62 = .ok (.invokevirtual 48, 3) := by decide +kernel
theorem d_Od_power_65 : decode b_Od_power 65 = .ok (.ireturn, 1) := by decide +kernel
theorem d_Od_power_66 : decode b_Od_power 66 = .ok (.aload_n 0, 1) := by decide +kernel
theorem d_Od_power_67 : decode b_Od_power 67 = .ok (.getfield 25, 3) := by decide +kernel
theorem d_Od_power_70 : decode b_Od_power 70 = .ok (.aload 4, 2) := by decide +kernel
theorem d_Od_power_72 : decode b_Od_power 72 = .ok (.iload_n 3, 1) := by decide +kernel
theorem d_Od_power_73 : decode b_Od_power 73 = .ok (.invokevirtual 81, 3) := by decide +kernel
theorem d_Od_power_76 : decode b_Od_power 76 = .ok (.ifCond .ne 10, 3) := by decide +kernel
theorem d_Od_power_79 : decode b_Od_power 79 = .ok (.aload_n 0, 1) := by decide +kernel
theorem d_Od_power_80 : decode b_Od_power 80 = .ok (.bipush 6, 2) := by decide +kernel
theorem d_Od_power_82 : decode b_Od_power 82 = .ok (.invokevirtual 48, 3) := by decide +kernel
theorem d_Od_power_85 : decode b_Od_power 85 = .ok (.ireturn, 1) := by decide +kernel
theorem d_Od_power_86 : decode b_Od_power 86 = .ok (.aload_n 0, 1) := by decide +kernel
theorem d_Od_power_87 : decode b_Od_power 87 = .ok (.iload_n 1, 1) := by decide +kernel
theorem d_Od_power_88 : decode b_Od_power 88 = .ok (.invokevirtual 56, 3) := by decide +kernel
theorem d_Od_power_91 : decode b_Od_power 91 = .ok (.ireturn, 1) := by decide +kernel
theorem d_Od_binomial_0 : decode b_Od_binomial 0 = .ok (.iload_n 1, 1) := by decide +kernel
theorem d_Od_binomial_1 : decode b_Od_binomial 1 = .ok (.invokestatic 43, 3) := by decide +kernel
theorem d_Od_binomial_4 : decode b_Od_binomial 4 = .ok (.ifCond .ne 14, 3) := by decide +kernel
theorem d_Od_binomial_7 : decode b_Od_binomial 7 = .ok (.iload_n 2, 1) := by decide +kernel
theorem d_Od_binomial_8 : decode b_Od_binomial 8 = .ok (.iconst 0, 1) := by decide +kernel
theorem d_Od_binomial_9 : decode b_Od_binomial 9 = .ok (.sipush 250, 3) := by decide +kernel
theorem d_Od_binomial_12 : decode b_Od_binomial 12 = .ok (.invokestatic 73, 3) := by decide +kernel
theorem d_Od_binomial_15 : decode b_Od_binomial 15 = .ok (.ifCond .eq 6, 3) := by decide +kernel
theorem d_Od_binomial_18 : decode b_Od_binomial 18 = .ok (.ldc 47, 2) := by decide +kernel
theorem d_Od_binomial_20 : decode b_Od_binomial 20 = .ok (.ireturn, 1) := by decide +kernel
theorem d_Od_binomial_21 : decode b_Od_binomial 21 = .ok (.aload_n 0, 1) := by decide +kernel
theorem d_Od_binomial_22 : decode b_Od_binomial 22 = .ok (.getfield 25, 3) := by decide +kernel
theorem d_Od_binomial_25 : decode b_Od_binomial 25 = .ok (.iload_n 2, 1) := by decide +kernel
theorem d_Od_binomial_26 : decode b_Od_binomial 26 = .ok (.iload_n 3, 1) := by decide +kernel
theorem d_Od_binomial_27 : decode b_Od_binomial 27 = .ok (.invokevirtual 85, 3) := by decide +kernel
theorem d_Od_binomial_30 : decode b_Od_binomial 30 = .ok (.aload_n 0, 1) := by decide +kernel
theorem d_Od_binomial_31 : decode b_Od_binomial 31 = .ok (.iload_n 1, 1) := by decide +kernel
theorem d_Od_binomial_32 : decode b_Od_binomial 32 = .ok (.invokevirtual 56, 3) := by decide +kernel
theorem d_Od_binomial_35 : decode b_Od_binomial 35 = .ok (.ireturn, 1) := by decide +kernel
theorem d_Od_common_0 : decode b_Od_common 0 = .ok (.iload_n 1, 1) := by decide +kernel
theorem d_Od_common_1 : decode b_Od_common 1 = .ok (.invokestatic 43, 3) := by decide +kernel
theorem d_Od_common_4 : decode b_Od_common 4 = .ok (.ifCond .ne 17, 3) := by decide +kernel
theorem d_Od_common_7 : decode b_Od_common 7 = .ok (.iload_n 2, 1) := by decide +kernel
theorem d_Od_common_8 : decode b_Od_common 8 = .ok (.invokestatic 43, 3) := by decide +kernel
theorem d_Od_common_11 : decode b_Od_common 11 = .ok (.ifCond .ne 10, 3) := by decide +kernel
theorem d_Od_common_14 : decode b_Od_common 14 = .ok (.iload_n 3, 1) := by decide +kernel
theorem d_Od_common_15 : decode b_Od_common 15 = .ok (.invokestatic 43, 3) := by decide +kernel
theorem d_Od_common_18 : decode b_Od_common 18 = .ok (.ifCond .eq 6, 3) := by decide +kernel
theorem d_Od_common_21 : decode b_Od_common 21 = .ok (.ldc 47, 2) := by decide +kernel
theorem d_Od_common_23 : decode b_Od_common 23 = .ok (.ireturn, 1) := by decide +kernel
theorem d_Od_common_24 : decode b_Od_common 24 = .ok (.aload_n 0, 1) := by decide +kernel
theorem d_Od_common_25 : decode b_Od_common 25 = .ok (.iload_n 2, 1) := by decide +kernel
theorem d_Od_common_26 : decode b_Od_common 26 = .ok (.invokevirtual 59, 3) := by decide +kernel
theorem d_Od_common_29 : decode b_Od_common 29 = .ok (.astore 4, 2) := by decide +kernel
theorem d_Od_common_31 : decode b_Od_common 31 = .ok (.aload_n 0, 1) := by decide +kernel
theorem d_Od_common_32 : decode b_Od_common 32 = .ok (.iload_n 3, 1) := by decide +kernel
theorem d_Od_common_33 : decode b_Od_common 33 = .ok (.invokevirtual 59, 3) := by decide +kernel
theorem d_Od_common_36 : decode b_Od_common 36 = .ok (.astore 5, 2) := by decide +kernel
theorem d_Od_common_38 : decode b_Od_common 38 = .ok (.aload 4, 2) := by decide +kernel
theorem d_Od_common_40 : decode b_Od_common 40 = .ok (.ifnull 8, 3) := by decide +kernel
theorem d_Od_common_43 : decode b_Od_common 43 = .ok (.aload 5, 2) := by decide +kernel
theorem d_Od_common_45 : decode b_Od_common 45 = .ok (.ifnonnull 9, 3) := by decide +kernel
theorem d_Od_common_48 : decode b_Od_common 48 = .ok (.aload_n 0, 1) := by decide +kernel
theorem d_Od_common_49 : decode b_Od_common 49 = .ok (.iconst 1, 1) := by decide +kernel
theorem d_Od_common_50 : decode b_Od_common 50 = .ok (.invokevirtual 48, 3) := by decide +kernel
theorem d_Od_common_53 : decode b_Od_common 53 = .ok (.ireturn, 1) := by decide +kernel
theorem d_Od_common_54 : decode b_Od_common 54 = .ok (.aload 4, 2) := by decide +kernel
theorem d_Od_common_56 : decode b_Od_common 56 = .ok (.invokevirtual 89, 3) := by decide +kernel
theorem d_Od_common_59 : decode b_Od_common 59 = .ok (.ifCond .eq 11, 3) := by decide +kernel
theorem d_Od_common_62 : decode b_Od_common 62 = .ok (.aload 5, 2) := by decide +kernel
theorem d_Od_common_64 : decode b_Od_common 64 = .ok (.invokevirtual 89, 3) := by decide +kernel
theorem d_Od_common_67 : decode b_Od_common 67 = .ok (.ifCond .ne 9, 3) := by decide +kernel
theorem d_Od_common_70 : decode b_Od_common 70 = .ok (.aload_n 0, 1) := by decide +kernel
theorem d_Od_common_71 : decode b_Od_common 71 = .ok (.iconst 2, 1) := by decide +kernel
theorem d_Od_common_72 : decode b_Od_common 72 = .ok (.invokevirtual 48, 3) := by decide +kernel
theorem d_Od_common_75 : decode b_Od_common 75 = .ok (.ireturn, 1) := by decide +kernel
theorem d_Od_common_76 : decode b_Od_common 76 = .ok (.aload_n 0, 1) := by decide +kernel
theorem d_Od_common_77 : decode b_Od_common 77 = .ok (.getfield 25, 3) := by decide +kernel
theorem d_Od_common_80 : decode b_Od_common 80 = .ok (.aload 4, 2) := by decide +kernel
theorem d_Od_common_82 : decode b_Od_common 82 = .ok (.aload 5, 2) := by decide +kernel
theorem d_Od_common_84 : decode b_Od_common 84 = .ok (.invokevirtual 93, 3) := by decide +kernel
theorem d_Od_common_87 : decode b_Od_common 87 = .ok (.aload_n 0, 1) := by decide +kernel
theorem d_Od_common_88 : decode b_Od_common 88 = .ok (.iload_n 1, 1) := by decide +kernel
theorem d_Od_common_89 : decode b_Od_common 89 = .ok (.invokevirtual 56, 3) := by decide +kernel
theorem d_Od_common_92 : decode b_Od_common 92 = .ok (.ireturn, 1) := by decide +kernel
theorem d_Od_order_0 : decode b_Od_order 0 = .ok (.iload_n 1, 1) := by decide +kernel
theorem d_Od_order_1 : decode b_Od_order 1 = .ok (.invokestatic 43, 3) := by decide +kernel
theorem d_Od_order_4 : decode b_Od_order 4 = .ok (.ifCond .ne 10, 3) := by decide +kernel
theorem d_Od_order_7 : decode b_Od_order 7 = .ok (.iload_n 2, 1) := by decide +kernel
theorem d_Od_order_8 : decode b_Od_order 8 = .ok (.invokestatic 43, 3) := by decide +kernel
theorem d_Od_order_11 : decode b_Od_order 11 = .ok (.ifCond .eq 6, 3) := by decide +kernel
theorem d_Od_order_14 : decode b_Od_order 14 = .ok (.ldc 47, 2) := by decide +kernel
theorem d_Od_order_16 : decode b_Od_order 16 = .ok (.ireturn, 1) := by decide +kernel
theorem d_Od_order_17 : decode b_Od_order 17 = .ok (.aload_n 0, 1) := by decide +kernel
theorem d_Od_order_18 : decode b_Od_order 18 = .ok (.iload_n 1, 1) := by decide +kernel
theorem d_Od_order_19 : decode b_Od_order 19 = .ok (.invokevirtual 59, 3) := by decide +kernel
theorem d_Od_order_22 : decode b_Od_order 22 = .ok (.astore_n 3, 1) := by decide +kernel
theorem d_Od_order_23 : decode b_Od_order 23 = .ok (.aload_n 0, 1) := by decide +kernel
theorem d_Od_order_24 : decode b_Od_order 24 = .ok (.iload_n 2, 1) := by decide +kernel
theorem d_Od_order_25 : decode b_Od_order 25 = .ok (.invokevirtual 59, 3) := by decide +kernel
theorem d_Od_order_28 : decode b_Od_order 28 = .ok (.astore 4, 2) := by decide +kernel
theorem d_Od_order_30 : decode b_Od_order 30 = .ok (.aload_n 3, 1) := by decide +kernel
theorem d_Od_order_31 : decode b_Od_order 31 = .ok (.ifnull 8, 3) := by decide +kernel
theorem d_Od_order_34 : decode b_Od_order 34 = .ok (.aload 4, 2) := by decide +kernel
theorem d_Od_order_36 : decode b_Od_order 36 = .ok (.ifnonnull 9, 3) := by decide +kernel
theorem d_Od_order_39 : decode b_Od_order 39 = .ok (.aload_n 0, 1) := by decide +kernel
theorem d_Od_order_40 : decode b_Od_order 40 = .ok (.iconst 1, 1) := by decide +kernel
theorem d_Od_order_41 : decode b_Od_order 41 = .ok (.invokevirtual 48, 3) := by decide +kernel
theorem d_Od_order_44 : decode b_Od_order 44 = .ok (.ireturn, 1) := by decide +kernel
theorem d_Od_order_45 : decode b_Od_order 45 = .ok (.aload_n 0, 1) := by decide +kernel
theorem d_Od_order_46 : decode b_Od_order 46 = .ok (.aload_n 0, 1) := by decide +kernel
theorem d_Od_order_47 : decode b_Od_order 47 = .ok (.getfield 25, 3) := by decide +kernel
theorem d_Od_order_50 : decode b_Od_order 50 = .ok (.aload_n 3, 1) := by decide +kernel
theorem d_Od_order_51 : decode b_Od_order 51 = .ok (.aload 4, 2) := by decide +kernel
theorem d_Od_order_53 : decode b_Od_order 53 = .ok (.invokevirtual 97, 3) := by decide +kernel
theorem d_Od_order_56 : decode b_Od_order 56 = .ok (.invokevirtual 70, 3) := by decide +kernel
theorem d_Od_order_59 : decode b_Od_order 59 = .ok (.ireturn, 1) := by decide +kernel
theorem d_Od_sign_0 : decode b_Od_sign 0 = .ok (.iload_n 1, 1) := by decide +kernel
theorem d_Od_sign_1 : decode b_Od_sign 1 = .ok (.invokestatic 43, 3) := by decide +kernel
theorem d_Od_sign_4 : decode b_Od_sign 4 = .ok (.ifCond .eq 6, 3) := by decide +kernel
theorem d_Od_sign_7 : decode b_Od_sign 7 = .ok (.ldc 47, 2) := by decide +kernel
theorem d_Od_sign_9 : decode b_Od_sign 9 = .ok (.ireturn, 1) := by decide +kernel
theorem d_Od_sign_10 : decode b_Od_sign 10 = .ok (.aload_n 0, 1) := by decide +kernel
theorem d_Od_sign_11 : decode b_Od_sign 11 = .ok (.iload_n 1, 1) := by decide +kernel
theorem d_Od_sign_12 : decode b_Od_sign 12 = .ok (.invokevirtual 59, 3) := by decide +kernel
theorem d_Od_sign_15 : decode b_Od_sign 15 = .ok (.astore_n 2, 1) := by decide +kernel
theorem d_Od_sign_16 : decode b_Od_sign 16 = .ok (.aload_n 2, 1) := by decide +kernel
theorem d_Od_sign_17 : decode b_Od_sign 17 = .ok (.ifnonnull 9, 3) := by decide +kernel
theorem d_Od_sign_20 : decode b_Od_sign 20 = .ok (.aload_n 0, 1) := by decide +kernel
theorem d_Od_sign_21 : decode b_Od_sign 21 = .ok (.iconst 1, 1) := by decide +kernel
theorem d_Od_sign_22 : decode b_Od_sign 22 = .ok (.invokevirtual 48, 3) := by decide +kernel
theorem d_Od_sign_25 : decode b_Od_sign 25 = .ok (.ireturn, 1) := by decide +kernel
theorem d_Od_sign_26 : decode b_Od_sign 26 = .ok (.aload_n 0, 1) := by decide +kernel
theorem d_Od_sign_27 : decode b_Od_sign 27 = .ok (.aload_n 2, 1) := by decide +kernel
theorem d_Od_sign_28 : decode b_Od_sign 28 = .ok (.getfield 67, 3) := by decide +kernel
theorem d_Od_sign_31 : decode b_Od_sign 31 = .ok (.invokevirtual 70, 3) := by decide +kernel
theorem d_Od_sign_34 : decode b_Od_sign 34 = .ok (.ireturn, 1) := by decide +kernel
theorem d_Od_small_0 : decode b_Od_small 0 = .ok (.iload_n 1, 1) := by decide +kernel
theorem d_Od_small_1 : decode b_Od_small 1 = .ok (.invokestatic 43, 3) := by decide +kernel
theorem d_Od_small_4 : decode b_Od_small 4 = .ok (.ifCond .eq 6, 3) := by decide +kernel
theorem d_Od_small_7 : decode b_Od_small 7 = .ok (.ldc 47, 2) := by decide +kernel
theorem d_Od_small_9 : decode b_Od_small 9 = .ok (.ireturn, 1) := by decide +kernel
theorem d_Od_small_10 : decode b_Od_small 10 = .ok (.aload_n 0, 1) := by decide +kernel
theorem d_Od_small_11 : decode b_Od_small 11 = .ok (.iload_n 1, 1) := by decide +kernel
theorem d_Od_small_12 : decode b_Od_small 12 = .ok (.invokevirtual 59, 3) := by decide +kernel
theorem d_Od_small_15 : decode b_Od_small 15 = .ok (.astore_n 2, 1) := by decide +kernel
theorem d_Od_small_16 : decode b_Od_small 16 = .ok (.aload_n 2, 1) := by decide +kernel
theorem d_Od_small_17 : decode b_Od_small 17 = .ok (.ifnonnull 9, 3) := by decide +kernel
theorem d_Od_small_20 : decode b_Od_small 20 = .ok (.aload_n 0, 1) := by decide +kernel
theorem d_Od_small_21 : decode b_Od_small 21 = .ok (.iconst 1, 1) := by decide +kernel
theorem d_Od_small_22 : decode b_Od_small 22 = .ok (.invokevirtual 48, 3) := by decide +kernel
theorem d_Od_small_25 : decode b_Od_small 25 = .ok (.ireturn, 1) := by decide +kernel
theorem d_Od_small_26 : decode b_Od_small 26 = .ok (.aload_n 0, 1) := by decide +kernel
theorem d_Od_small_27 : decode b_Od_small 27 = .ok (.aload_n 2, 1) := by decide +kernel
theorem d_Od_small_28 : decode b_Od_small 28 = .ok (.invokevirtual 101, 3) := by decide +kernel
theorem d_Od_small_31 : decode b_Od_small 31 = .ok (.ifCond .eq 7, 3) := by decide +kernel
theorem d_Od_small_34 : decode b_Od_small 34 = .ok (.iconst 1, 1) := by decide +kernel
theorem d_Od_small_35 : decode b_Od_small 35 = .ok (.goto 4, 3) := by decide +kernel
theorem d_Od_small_38 : decode b_Od_small 38 = .ok (.iconst 0, 1) := by decide +kernel
theorem d_Od_small_39 : decode b_Od_small 39 = .ok (.invokevirtual 70, 3) := by decide +kernel
theorem d_Od_small_42 : decode b_Od_small 42 = .ok (.ireturn, 1) := by decide +kernel
theorem d_Od_limbs_0 : decode b_Od_limbs 0 = .ok (.iload_n 1, 1) := by decide +kernel
theorem d_Od_limbs_1 : decode b_Od_limbs 1 = .ok (.invokestatic 43, 3) := by decide +kernel
theorem d_Od_limbs_4 : decode b_Od_limbs 4 = .ok (.ifCond .ne 12, 3) := by decide +kernel
theorem d_Od_limbs_7 : decode b_Od_limbs 7 = .ok (.iload_n 2, 1) := by decide +kernel
theorem d_Od_limbs_8 : decode b_Od_limbs 8 = .ok (.iconst 0, 1) := by decide +kernel
theorem d_Od_limbs_9 : decode b_Od_limbs 9 = .ok (.iconst 1, 1) := by decide +kernel
theorem d_Od_limbs_10 : decode b_Od_limbs 10 = .ok (.invokestatic 73, 3) := by decide +kernel
theorem d_Od_limbs_13 : decode b_Od_limbs 13 = .ok (.ifCond .eq 6, 3) := by decide +kernel
theorem d_Od_limbs_16 : decode b_Od_limbs 16 = .ok (.ldc 47, 2) := by decide +kernel
theorem d_Od_limbs_18 : decode b_Od_limbs 18 = .ok (.ireturn, 1) := by decide +kernel
theorem d_Od_limbs_19 : decode b_Od_limbs 19 = .ok (.aload_n 0, 1) := by decide +kernel
theorem d_Od_limbs_20 : decode b_Od_limbs 20 = .ok (.iload_n 1, 1) := by decide +kernel
theorem d_Od_limbs_21 : decode b_Od_limbs 21 = .ok (.invokevirtual 59, 3) := by decide +kernel
theorem d_Od_limbs_24 : decode b_Od_limbs 24 = .ok (.astore_n 3, 1) := by decide +kernel
theorem d_Od_limbs_25 : decode b_Od_limbs 25 = .ok (.aload_n 3, 1) := by decide +kernel
theorem d_Od_limbs_26 : decode b_Od_limbs 26 = .ok (.ifnonnull 9, 3) := by decide +kernel
theorem d_Od_limbs_29 : decode b_Od_limbs 29 = .ok (.aload_n 0, 1) := by decide +kernel
theorem d_Od_limbs_30 : decode b_Od_limbs 30 = .ok (.iconst 1, 1) := by decide +kernel
theorem d_Od_limbs_31 : decode b_Od_limbs 31 = .ok (.invokevirtual 48, 3) := by decide +kernel
theorem d_Od_limbs_34 : decode b_Od_limbs 34 = .ok (.ireturn, 1) := by decide +kernel
theorem d_Od_limbs_35 : decode b_Od_limbs 35 = .ok (.aload_n 0, 1) := by decide +kernel
theorem d_Od_limbs_36 : decode b_Od_limbs 36 = .ok (.aload_n 3, 1) := by decide +kernel
theorem d_Od_limbs_37 : decode b_Od_limbs 37 = .ok (.iload_n 2, 1) := by decide +kernel
theorem d_Od_limbs_38 : decode b_Od_limbs 38 = .ok (.invokevirtual 104, 3) := by decide +kernel
theorem d_Od_limbs_41 : decode b_Od_limbs 41 = .ok (.getfield 108, 3) := by decide +kernel
theorem d_Od_limbs_44 : decode b_Od_limbs 44 = .ok (.invokevirtual 70, 3) := by decide +kernel
theorem d_Od_limbs_47 : decode b_Od_limbs 47 = .ok (.ireturn, 1) := by decide +kernel
theorem d_Od_limb_0 : decode b_Od_limb 0 = .ok (.iload_n 1, 1) := by decide +kernel
theorem d_Od_limb_1 : decode b_Od_limb 1 = .ok (.invokestatic 43, 3) := by decide +kernel
theorem d_Od_limb_4 : decode b_Od_limb 4 = .ok (.ifCond .ne 12, 3) := by decide +kernel
theorem d_Od_limb_7 : decode b_Od_limb 7 = .ok (.iload_n 2, 1) := by decide +kernel
theorem d_Od_limb_8 : decode b_Od_limb 8 = .ok (.iconst 0, 1) := by decide +kernel
theorem d_Od_limb_9 : decode b_Od_limb 9 = .ok (.iconst 1, 1) := by decide +kernel
theorem d_Od_limb_10 : decode b_Od_limb 10 = .ok (.invokestatic 73, 3) := by decide +kernel
theorem d_Od_limb_13 : decode b_Od_limb 13 = .ok (.ifCond .eq 7, 3) := by decide +kernel
theorem d_Od_limb_16 : decode b_Od_limb 16 = .ok (.ldc2_w 113, 3) := by decide +kernel
theorem d_Od_limb_19 : decode b_Od_limb 19 = .ok (.lreturn, 1) := by decide +kernel
theorem d_Od_limb_20 : decode b_Od_limb 20 = .ok (.aload_n 0, 1) := by decide +kernel
theorem d_Od_limb_21 : decode b_Od_limb 21 = .ok (.iload_n 1, 1) := by decide +kernel
theorem d_Od_limb_22 : decode b_Od_limb 22 = .ok (.invokevirtual 59, 3) := by decide +kernel
theorem d_Od_limb_25 : decode b_Od_limb 25 = .ok (.astore 4, 2) := by decide +kernel
theorem d_Od_limb_27 : decode b_Od_limb 27 = .ok (.aload 4, 2) := by decide +kernel
theorem d_Od_limb_29 : decode b_Od_limb 29 = .ok (.ifnonnull 10, 3) := by decide +kernel
theorem d_Od_limb_32 : decode b_Od_limb 32 = .ok (.aload_n 0, 1) := by decide +kernel
theorem d_Od_limb_33 : decode b_Od_limb 33 = .ok (.iconst 1, 1) := by decide +kernel
theorem d_Od_limb_34 : decode b_Od_limb 34 = .ok (.invokevirtual 48, 3) := by decide +kernel
theorem d_Od_limb_37 : decode b_Od_limb 37 = .ok (.i2l, 1) := by decide +kernel
theorem d_Od_limb_38 : decode b_Od_limb 38 = .ok (.lreturn, 1) := by decide +kernel
theorem d_Od_limb_39 : decode b_Od_limb 39 = .ok (.aload 4, 2) := by decide +kernel
theorem d_Od_limb_41 : decode b_Od_limb 41 = .ok (.iload_n 2, 1) := by decide +kernel
theorem d_Od_limb_42 : decode b_Od_limb 42 = .ok (.invokevirtual 104, 3) := by decide +kernel
theorem d_Od_limb_45 : decode b_Od_limb 45 = .ok (.astore 5, 2) := by decide +kernel
theorem d_Od_limb_47 : decode b_Od_limb 47 = .ok (.iload_n 3, 1) := by decide +kernel
theorem d_Od_limb_48 : decode b_Od_limb 48 = .ok (.iconst 0, 1) := by decide +kernel
theorem d_Od_limb_49 : decode b_Od_limb 49 = .ok (.aload 5, 2) := by decide +kernel
theorem d_Od_limb_51 : decode b_Od_limb 51 = .ok (.getfield 108, 3) := by decide +kernel
theorem d_Od_limb_54 : decode b_Od_limb 54 = .ok (.iconst 1, 1) := by decide +kernel
theorem d_Od_limb_55 : decode b_Od_limb 55 = .ok (.isub, 1) := by decide +kernel
theorem d_Od_limb_56 : decode b_Od_limb 56 = .ok (.invokestatic 73, 3) := by decide +kernel
theorem d_Od_limb_59 : decode b_Od_limb 59 = .ok (.ifCond .eq 10, 3) := by decide +kernel
theorem d_Od_limb_62 : decode b_Od_limb 62 = .ok (.aload_n 0, 1) := by decide +kernel
theorem d_Od_limb_63 : decode b_Od_limb 63 = .ok (.iconst 3, 1) := by decide +kernel
theorem d_Od_limb_64 : decode b_Od_limb 64 = .ok (.invokevirtual 48, 3) := by decide +kernel
theorem d_Od_limb_67 : decode b_Od_limb 67 = .ok (.i2l, 1) := by decide +kernel
theorem d_Od_limb_68 : decode b_Od_limb 68 = .ok (.lreturn, 1) := by decide +kernel
theorem d_Od_limb_69 : decode b_Od_limb 69 = .ok (.aload_n 0, 1) := by decide +kernel
theorem d_Od_limb_70 : decode b_Od_limb 70 = .ok (.iconst 0, 1) := by decide +kernel
theorem d_Od_limb_71 : decode b_Od_limb 71 = .ok (.invokevirtual 48, 3) := by decide +kernel
theorem d_Od_limb_74 : decode b_Od_limb 74 = .ok (.pop, 1) := by decide +kernel
theorem d_Od_limb_75 : decode b_Od_limb 75 = .ok (.aload 5, 2) := by decide +kernel
theorem d_Od_limb_77 : decode b_Od_limb 77 = .ok (.iload_n 3, 1) := by decide +kernel
theorem d_Od_limb_78 : decode b_Od_limb 78 = .ok (.invokevirtual 115, 3) := by decide +kernel
theorem d_Od_limb_81 : decode b_Od_limb 81 = .ok (.lreturn, 1) := by decide +kernel
theorem c_Od_value (l : Launch) {g : Gh} {nx O : Nat} {S : Sx} (hC : CW g O nx S) (f : Int32) (x y : Int64) : Ct l m_Od_value 5 47 [.ref O, .int f, .long x, .long y] g nx (pO g O nx (spValue S f x y)) := by
  obtain ⟨sg, v, w, hV⟩ := hC
  have h0 := hV.1
  refine Ct.of (by decide) (Nat.le_of_ble_eq_true rfl) (fun E hE hQ => ?_)
  refine z_iload_n hE d_Od_value_0 rfl ?_
  refine z_callS hE d_Od_value_1 cl_Od_43 (c_Od_isNoFraction l g nx f) rfl (Nat.le_of_ble_eq_true rfl) ⟨by decide, by decide⟩ ⟨by omega, by omega⟩ (fun r_1 g_1 nx_1 hp_1 => ?_) rfl
  obtain ⟨rfl, rfl, rfl⟩ := hp_1
  try dsimp only [Option.toList, List.nil_append, List.cons_append]
  by_cases hf : inI f 0 15
  case neg =>
    rw [if_neg hf]
    refine z_if_eq (tgt := 10) hE d_Od_value_4 (by decide) (fun c_ => absurd c_ (by decide)) (fun _ => ?_)
    refine z_ldc hE d_Od_value_7 cn_Od_47 ?_
    exact z_iret hE hQ d_Od_value_9 rfl (by omega) (by omega) (pO_of (if_neg hf) (Nat.le_refl _) hV gX_r)
  rw [if_pos hf]
  obtain ⟨ef, -, hf2⟩ := fx_of hf (by omega) (by omega)
  refine z_if_eq (tgt := 10) hE d_Od_value_4 (by decide) (fun _ => ?_) (fun c_ => absurd c_ (by decide))
  refine z_lload hE d_Od_value_10 rfl ?_
  refine z_lconst (v := (0 : Int64)) hE d_Od_value_12 (by decide) ?_
  refine z_lcmp hE d_Od_value_13 ?_
  refine z_if_ne (tgt := 23) hE d_Od_value_14 (by decide) (fun c_14 => ?_) (fun c_14 => ?_)
  · rw [lg_cmp_eq] at c_14
    have R1 := hV.2.2.2.2.1
    have R11 := R1.1
    unfold RE at R11
    refine z_aload_n hE d_Od_value_23 rfl ?_
    refine z_get hE d_Od_value_24 fl_Od_25 (by assumption) rfl ?_
    refine z_lload_n hE d_Od_value_27 rfl ?_
    refine z_lload hE d_Od_value_28 rfl ?_
    refine z_callV hE d_Od_value_30 cl_Od_52 (c_Re_divideLongs l nx R1 x y c_14) (by assumption) cb_Re rfl (Nat.le_of_ble_eq_true rfl) ⟨by decide, by decide⟩ ⟨by omega, by omega⟩ (fun r_1 g_1 nx_1 hp_1 => ?_) rfl
    try dsimp only [Option.toList, List.nil_append, List.cons_append]
    obtain ⟨rfl, rfl, W1, v1, V1, e2, e4⟩ := hp_1
    try dsimp only [Option.toList, List.nil_append, List.cons_append]
    have C1 := OV_re hV W1 V1
    have m0 := C1.1
    have eq : mk (sgL x * sgL y) (szL x) (szL y) = (sgL x * sgL y, v1 2, v1 4) := by
      unfold mk
      rw [e2, e4]
      by_cases hz : szL x = 0
      · have hx0 : x = 0 := Decidable.byContradiction (fun q => szL_0 q hz)
        rw [if_pos hz, hx0]
        show _ = (0 * sgL y, _, _)
        rw [Int32.zero_mul]; rfl
      · rw [if_neg hz]; rfl
    have hy := szL_0 c_14
    have hok : QOK (mk (sgL x * sgL y) (szL x) (szL y)) := mk_ok (fun h => sm_mul (sgL_sm (fun q => h (by rw [q]; rfl))) (sgL_sm c_14)) (by omega)
    refine z_aload_n hE d_Od_value_33 rfl ?_
    refine z_iload_n hE d_Od_value_34 rfl ?_
    rw [ef]
    refine z_callV hE d_Od_value_35 cl_Od_56 (c_Od_make l C1 eq hok (fx f) (by omega)) (by assumption) cb_Od rfl (Nat.le_of_ble_eq_true rfl) ⟨by decide, by decide⟩ ⟨by omega, by omega⟩ (fun r_2 g_2 nx_2 hp_2 => ?_) rfl
    try dsimp only [Option.toList, List.nil_append, List.cons_append]
    exact z_mkret hE hQ d_Od_value_38 rfl (by omega) (by omega) (gX_W W1 (by omega) (by omega)) (by unfold spValue; rw [if_pos hf, if_neg c_14]) hp_2
  · rw [lg_cmp_eq] at c_14
    refine z_aload_n hE d_Od_value_17 rfl ?_
    refine z_iconst (v := 5) hE d_Od_value_18 (by decide) ?_
    refine z_callV hE d_Od_value_19 cl_Od_48 (c_Od_tell l hV 5) (by assumption) cb_Od rfl (Nat.le_of_ble_eq_true rfl) ⟨by decide, by decide⟩ ⟨by omega, by omega⟩ (fun r_1 g_1 nx_1 hp_1 => ?_) rfl
    try dsimp only [Option.toList, List.nil_append, List.cons_append]
    obtain ⟨rfl, rfl, C1, W1⟩ := hp_1
    try dsimp only [Option.toList, List.nil_append, List.cons_append]
    exact z_iret hE hQ d_Od_value_22 rfl (by omega) (by omega) (pO_of (by unfold spValue; rw [if_pos hf, if_pos c_14]; rfl) (Nat.le_refl _) C1 (gX_W W1 (Nat.le_refl _) (by omega)))
theorem c_Od_copy (l : Launch) {g : Gh} {nx O : Nat} {S : Sx} (hC : CW g O nx S) (f a : Int32) : Ct l m_Od_copy 0 0 [.ref O, .int f, .int a] g nx (pO g O nx (spCopy S f a)) := by
  obtain ⟨sg, v, w, hV⟩ := hC
  have h0 := hV.1
  refine Ct.of (by decide) (Nat.le_of_ble_eq_true rfl) (fun E hE hQ => ?_)
  have out : ∀ lv, ¬ (inI f 0 15 ∧ inI a 0 15) → zJ E g nx 0 0 14 lv [] := by
    intro lv h
    refine z_ldc hE d_Od_copy_14 cn_Od_47 ?_
    exact z_iret hE hQ d_Od_copy_16 rfl (by omega) (by omega) (pO_of (if_neg h) (Nat.le_refl _) hV gX_r)
  refine z_iload_n hE d_Od_copy_0 rfl ?_
  refine z_callS hE d_Od_copy_1 cl_Od_43 (c_Od_isNoFraction l g nx f) rfl (Nat.le_of_ble_eq_true rfl) ⟨by decide, by decide⟩ ⟨by omega, by omega⟩ (fun r_1 g_1 nx_1 hp_1 => ?_) rfl
  obtain ⟨rfl, rfl, rfl⟩ := hp_1
  try dsimp only [Option.toList, List.nil_append, List.cons_append]
  by_cases hf : inI f 0 15
  case neg =>
    rw [if_neg hf]
    refine z_if_ne (tgt := 14) hE d_Od_copy_4 (by decide) (fun _ => ?_) (fun c_ => absurd c_ (by decide))
    exact out _ (fun q => hf q.1)
  rw [if_pos hf]
  refine z_if_ne (tgt := 14) hE d_Od_copy_4 (by decide) (fun c_ => absurd c_ (by decide)) (fun _ => ?_)
  refine z_iload_n hE d_Od_copy_7 rfl ?_
  refine z_callS hE d_Od_copy_8 cl_Od_43 (c_Od_isNoFraction l g nx a) rfl (Nat.le_of_ble_eq_true rfl) ⟨by decide, by decide⟩ ⟨by omega, by omega⟩ (fun r_8 g_8 nx_8 hp_8 => ?_) rfl
  obtain ⟨rfl, rfl, rfl⟩ := hp_8
  try dsimp only [Option.toList, List.nil_append, List.cons_append]
  by_cases ha : inI a 0 15
  case neg =>
    rw [if_neg ha]
    refine z_if_eq (tgt := 17) hE d_Od_copy_11 (by decide) (fun c_ => absurd c_ (by decide)) (fun _ => ?_)
    exact out _ (fun q => ha q.2)
  rw [if_pos ha]
  refine z_if_eq (tgt := 17) hE d_Od_copy_11 (by decide) (fun _ => ?_) (fun c_ => absurd c_ (by decide))
  obtain ⟨ef, -, hf2⟩ := fx_of hf (by omega) (by omega)
  obtain ⟨ea, -, ha2⟩ := fx_of ha (by omega) (by omega)
  refine z_aload_n hE d_Od_copy_17 rfl ?_
  refine z_iload_n hE d_Od_copy_18 rfl ?_
  rw [ea]
  refine z_callV hE d_Od_copy_19 cl_Od_59 (c_Od_fractionAt l hV (fx a) (by omega)) (by assumption) cb_Od rfl (Nat.le_of_ble_eq_true rfl) ⟨by decide, by decide⟩ ⟨by omega, by omega⟩ (fun r_1 g_1 nx_1 hp_1 => ?_) rfl
  try dsimp only [Option.toList, List.nil_append, List.cons_append]
  obtain ⟨rfl, rfl, ⟨rfl, hq⟩ | ⟨b, q, rfl, hq, hK⟩⟩ := hp_1
  · try dsimp only [Option.toList, List.nil_append, List.cons_append]
    refine z_astore_nN hE d_Od_copy_22 rfl (by decide) ?_
    refine z_aload_nN hE d_Od_copy_23 rfl ?_
    refine z_ifnonnullZ (tgt := 33) hE d_Od_copy_24 (by decide) ?_
    refine z_aload_n hE d_Od_copy_27 rfl ?_
    refine z_iconst (v := 1) hE d_Od_copy_28 (by decide) ?_
    refine z_callV hE d_Od_copy_29 cl_Od_48 (c_Od_tell l hV 1) (by assumption) cb_Od rfl (Nat.le_of_ble_eq_true rfl) ⟨by decide, by decide⟩ ⟨by omega, by omega⟩ (fun r_1 g_1 nx_1 hp_1 => ?_) rfl
    try dsimp only [Option.toList, List.nil_append, List.cons_append]
    obtain ⟨rfl, rfl, C1, W1⟩ := hp_1
    try dsimp only [Option.toList, List.nil_append, List.cons_append]
    exact z_iret hE hQ d_Od_copy_32 rfl (by omega) (by omega) (pO_of (by unfold spCopy; rw [if_pos ⟨hf, ha⟩, hq]; rfl) (Nat.le_refl _) C1 (gX_W W1 (Nat.le_refl _) (by omega)))
  · try dsimp only [Option.toList, List.nil_append, List.cons_append]
    refine z_astore_n hE d_Od_copy_22 rfl (by decide) ?_
    refine z_aload_n hE d_Od_copy_23 rfl ?_
    refine z_ifnonnullR (tgt := 33) hE d_Od_copy_24 (by decide) ?_
    refine z_aload_n hE d_Od_copy_33 rfl ?_
    refine z_iload_n hE d_Od_copy_34 rfl ?_
    refine z_aload_n hE d_Od_copy_35 rfl ?_
    rw [ef]
    refine z_callV hE d_Od_copy_36 cl_Od_63 (c_Od_keep l hV (fx f) (by omega) (some b) (some q) (Or.inr ⟨b, q, rfl, rfl, hK⟩)) (by assumption) cb_Od rfl (Nat.le_of_ble_eq_true rfl) ⟨by decide, by decide⟩ ⟨by omega, by omega⟩ (fun r_1 g_1 nx_1 hp_1 => ?_) rfl
    try dsimp only [Option.toList, List.nil_append, List.cons_append]
    obtain ⟨rfl, rfl, C1, W1⟩ := hp_1
    try dsimp only [Option.toList, List.nil_append, List.cons_append]
    obtain ⟨k1, k2, ⟨N, M, k3⟩, k4⟩ := KF_X hK (fun p a b => W1 p (by omega)) (Nat.le_refl nx)
    have k31 := k3.1
    have m0 := C1.1
    refine z_aload_n hE d_Od_copy_39 rfl ?_
    refine z_aload_n hE d_Od_copy_40 rfl ?_
    refine z_getN hE d_Od_copy_41 fl_Od_67 (by assumption) rfl ?_
    refine z_callV hE d_Od_copy_44 cl_Od_70 (c_Od_done l C1 q.1) (by assumption) cb_Od rfl (Nat.le_of_ble_eq_true rfl) ⟨by decide, by decide⟩ ⟨by omega, by omega⟩ (fun r_2 g_2 nx_2 hp_2 => ?_) rfl
    try dsimp only [Option.toList, List.nil_append, List.cons_append]
    obtain ⟨rfl, rfl, C2, W2⟩ := hp_2
    try dsimp only [Option.toList, List.nil_append, List.cons_append]
    exact z_iret hE hQ d_Od_copy_47 rfl (by omega) (by omega) (pO_of (by unfold spCopy; rw [if_pos ⟨hf, ha⟩, hq]; rfl) (Nat.le_refl _) C2 (gX_t (gX_W W1 (by omega) (by omega)) (gX_W W2 (Nat.le_refl _) (by omega)) (Nat.le_refl nx)))
theorem c_Od_nothing (l : Launch) {g : Gh} {nx O : Nat} {S : Sx} (hC : CW g O nx S) (f : Int32) : Ct l m_Od_nothing 0 0 [.ref O, .int f] g nx (pO g O nx (spNothing S f)) := by
  obtain ⟨sg, v, w, hV⟩ := hC
  have h0 := hV.1
  refine Ct.of (by decide) (Nat.le_of_ble_eq_true rfl) (fun E hE hQ => ?_)
  refine z_iload_n hE d_Od_nothing_0 rfl ?_
  refine z_callS hE d_Od_nothing_1 cl_Od_43 (c_Od_isNoFraction l g nx f) rfl (Nat.le_of_ble_eq_true rfl) ⟨by decide, by decide⟩ ⟨by omega, by omega⟩ (fun r_1 g_1 nx_1 hp_1 => ?_) rfl
  obtain ⟨rfl, rfl, rfl⟩ := hp_1
  try dsimp only [Option.toList, List.nil_append, List.cons_append]
  by_cases hf : inI f 0 15
  case neg =>
    rw [if_neg hf]
    refine z_if_eq (tgt := 10) hE d_Od_nothing_4 (by decide) (fun c_ => absurd c_ (by decide)) (fun _ => ?_)
    refine z_ldc hE d_Od_nothing_7 cn_Od_47 ?_
    exact z_iret hE hQ d_Od_nothing_9 rfl (by omega) (by omega) (pO_of (if_neg hf) (Nat.le_refl _) hV gX_r)
  rw [if_pos hf]
  obtain ⟨ef, -, hf2⟩ := fx_of hf (by omega) (by omega)
  refine z_if_eq (tgt := 10) hE d_Od_nothing_4 (by decide) (fun _ => ?_) (fun c_ => absurd c_ (by decide))
  refine z_aload_n hE d_Od_nothing_10 rfl ?_
  refine z_iload_n hE d_Od_nothing_11 rfl ?_
  rw [ef]
  have go : ∀ (z : Int32) lv, z = (if (S.1 (fx f)).isSome then 1 else 0) → lG lv 0 = some (.ref O) → lG lv 1 = some (.int (nI (fx f))) → zJ E g nx 0 0 23 lv [.int z] := by
    intro z lv hz l0 l1
    refine z_sub (lv' := [(0, .ref O), (1, .int (nI (fx f)))]) (by simp only [List.map, l0, l1]) ?_
    refine z_istore_n hE d_Od_nothing_23 rfl (by decide) ?_
    refine z_aload_n hE d_Od_nothing_24 rfl ?_
    refine z_iload_n hE d_Od_nothing_25 rfl ?_
    refine z_null hE d_Od_nothing_26 ?_
    refine z_callV hE d_Od_nothing_27 cl_Od_63 (c_Od_keep l hV (fx f) (by omega) none none (Or.inl ⟨rfl, rfl⟩)) (by assumption) cb_Od rfl (Nat.le_of_ble_eq_true rfl) ⟨by decide, by decide⟩ ⟨by omega, by omega⟩ (fun r_1 g_1 nx_1 hp_1 => ?_) rfl
    try dsimp only [Option.toList, List.nil_append, List.cons_append]
    obtain ⟨rfl, rfl, C1, W1⟩ := hp_1
    try dsimp only [Option.toList, List.nil_append, List.cons_append]
    refine z_iload_n hE d_Od_nothing_30 rfl ?_
    exact z_iret hE hQ d_Od_nothing_31 rfl (by omega) (by omega) (pO_of (by unfold spNothing; rw [if_pos hf, hz]) (Nat.le_refl _) C1 (gX_W W1 (by omega) (by omega)))
  refine z_callV hE d_Od_nothing_12 cl_Od_59 (c_Od_fractionAt l hV (fx f) (by omega)) (by assumption) cb_Od rfl (Nat.le_of_ble_eq_true rfl) ⟨by decide, by decide⟩ ⟨by omega, by omega⟩ (fun r_1 g_1 nx_1 hp_1 => ?_) rfl
  try dsimp only [Option.toList, List.nil_append, List.cons_append]
  obtain ⟨rfl, rfl, ⟨rfl, hq⟩ | ⟨b, q, rfl, hq, hK⟩⟩ := hp_1
  · try dsimp only [Option.toList, List.nil_append, List.cons_append]
    refine z_ifnonnullZ (tgt := 22) hE d_Od_nothing_15 (by decide) ?_
    refine z_iconst (v := 0) hE d_Od_nothing_18 (by decide) ?_
    refine z_goto (tgt := 23) hE d_Od_nothing_19 (by decide) ?_
    exact go 0 _ (by rw [hq]; rfl) rfl (by rw [← ef]; rfl)
  · try dsimp only [Option.toList, List.nil_append, List.cons_append]
    refine z_ifnonnullR (tgt := 22) hE d_Od_nothing_15 (by decide) ?_
    refine z_iconst (v := 1) hE d_Od_nothing_22 (by decide) ?_
    exact go 1 _ (by rw [hq]; rfl) rfl (by rw [← ef]; rfl)
theorem c_Od_sign (l : Launch) {g : Gh} {nx O : Nat} {S : Sx} (hC : CW g O nx S) (f : Int32) : Ct l m_Od_sign 0 0 [.ref O, .int f] g nx (pO g O nx (spSign S f)) := by
  obtain ⟨sg, v, w, hV⟩ := hC
  have h0 := hV.1
  refine Ct.of (by decide) (Nat.le_of_ble_eq_true rfl) (fun E hE hQ => ?_)
  refine z_iload_n hE d_Od_sign_0 rfl ?_
  refine z_callS hE d_Od_sign_1 cl_Od_43 (c_Od_isNoFraction l g nx f) rfl (Nat.le_of_ble_eq_true rfl) ⟨by decide, by decide⟩ ⟨by omega, by omega⟩ (fun r_1 g_1 nx_1 hp_1 => ?_) rfl
  obtain ⟨rfl, rfl, rfl⟩ := hp_1
  try dsimp only [Option.toList, List.nil_append, List.cons_append]
  by_cases hf : inI f 0 15
  case neg =>
    rw [if_neg hf]
    refine z_if_eq (tgt := 10) hE d_Od_sign_4 (by decide) (fun c_ => absurd c_ (by decide)) (fun _ => ?_)
    refine z_ldc hE d_Od_sign_7 cn_Od_47 ?_
    exact z_iret hE hQ d_Od_sign_9 rfl (by omega) (by omega) (pO_of (if_neg hf) (Nat.le_refl _) hV gX_r)
  rw [if_pos hf]
  obtain ⟨ef, -, hf2⟩ := fx_of hf (by omega) (by omega)
  refine z_if_eq (tgt := 10) hE d_Od_sign_4 (by decide) (fun _ => ?_) (fun c_ => absurd c_ (by decide))
  refine z_aload_n hE d_Od_sign_10 rfl ?_
  refine z_iload_n hE d_Od_sign_11 rfl ?_
  rw [ef]
  refine z_callV hE d_Od_sign_12 cl_Od_59 (c_Od_fractionAt l hV (fx f) (by omega)) (by assumption) cb_Od rfl (Nat.le_of_ble_eq_true rfl) ⟨by decide, by decide⟩ ⟨by omega, by omega⟩ (fun r_1 g_1 nx_1 hp_1 => ?_) rfl
  try dsimp only [Option.toList, List.nil_append, List.cons_append]
  obtain ⟨rfl, rfl, ⟨rfl, hq⟩ | ⟨b, q, rfl, hq, hK⟩⟩ := hp_1
  · try dsimp only [Option.toList, List.nil_append, List.cons_append]
    refine z_astore_nN hE d_Od_sign_15 rfl (by decide) ?_
    refine z_aload_nN hE d_Od_sign_16 rfl ?_
    refine z_ifnonnullZ (tgt := 26) hE d_Od_sign_17 (by decide) ?_
    refine z_aload_n hE d_Od_sign_20 rfl ?_
    refine z_iconst (v := 1) hE d_Od_sign_21 (by decide) ?_
    refine z_callV hE d_Od_sign_22 cl_Od_48 (c_Od_tell l hV 1) (by assumption) cb_Od rfl (Nat.le_of_ble_eq_true rfl) ⟨by decide, by decide⟩ ⟨by omega, by omega⟩ (fun r_1 g_1 nx_1 hp_1 => ?_) rfl
    try dsimp only [Option.toList, List.nil_append, List.cons_append]
    obtain ⟨rfl, rfl, C1, W1⟩ := hp_1
    try dsimp only [Option.toList, List.nil_append, List.cons_append]
    exact z_iret hE hQ d_Od_sign_25 rfl (by omega) (by omega) (pO_of (by unfold spSign; rw [if_pos hf, hq]; rfl) (Nat.le_refl _) C1 (gX_W W1 (Nat.le_refl _) (by omega)))
  · try dsimp only [Option.toList, List.nil_append, List.cons_append]
    obtain ⟨k1, k2, ⟨N, M, k3⟩, k4⟩ := id hK
    have k31 := k3.1
    refine z_astore_n hE d_Od_sign_15 rfl (by decide) ?_
    refine z_aload_n hE d_Od_sign_16 rfl ?_
    refine z_ifnonnullR (tgt := 26) hE d_Od_sign_17 (by decide) ?_
    refine z_aload_n hE d_Od_sign_26 rfl ?_
    refine z_aload_n hE d_Od_sign_27 rfl ?_
    refine z_getN hE d_Od_sign_28 fl_Od_67 (by assumption) rfl ?_
    refine z_callV hE d_Od_sign_31 cl_Od_70 (c_Od_done l hV q.1) (by assumption) cb_Od rfl (Nat.le_of_ble_eq_true rfl) ⟨by decide, by decide⟩ ⟨by omega, by omega⟩ (fun r_2 g_2 nx_2 hp_2 => ?_) rfl
    try dsimp only [Option.toList, List.nil_append, List.cons_append]
    obtain ⟨rfl, rfl, C2, W2⟩ := hp_2
    try dsimp only [Option.toList, List.nil_append, List.cons_append]
    exact z_iret hE hQ d_Od_sign_34 rfl (by omega) (by omega) (pO_of (by unfold spSign; rw [if_pos hf, hq]; rfl) (Nat.le_refl _) C2 (gX_W W2 (Nat.le_refl _) (by omega)))
theorem c_Od_small (l : Launch) {g : Gh} {nx O : Nat} {S : Sx} (hC : CW g O nx S) (f : Int32) : Ct l m_Od_small 0 0 [.ref O, .int f] g nx (pO g O nx (spSmall S f)) := by
  obtain ⟨sg, v, w, hV⟩ := hC
  have h0 := hV.1
  refine Ct.of (by decide) (Nat.le_of_ble_eq_true rfl) (fun E hE hQ => ?_)
  refine z_iload_n hE d_Od_small_0 rfl ?_
  refine z_callS hE d_Od_small_1 cl_Od_43 (c_Od_isNoFraction l g nx f) rfl (Nat.le_of_ble_eq_true rfl) ⟨by decide, by decide⟩ ⟨by omega, by omega⟩ (fun r_1 g_1 nx_1 hp_1 => ?_) rfl
  obtain ⟨rfl, rfl, rfl⟩ := hp_1
  try dsimp only [Option.toList, List.nil_append, List.cons_append]
  by_cases hf : inI f 0 15
  case neg =>
    rw [if_neg hf]
    refine z_if_eq (tgt := 10) hE d_Od_small_4 (by decide) (fun c_ => absurd c_ (by decide)) (fun _ => ?_)
    refine z_ldc hE d_Od_small_7 cn_Od_47 ?_
    exact z_iret hE hQ d_Od_small_9 rfl (by omega) (by omega) (pO_of (if_neg hf) (Nat.le_refl _) hV gX_r)
  rw [if_pos hf]
  obtain ⟨ef, -, hf2⟩ := fx_of hf (by omega) (by omega)
  refine z_if_eq (tgt := 10) hE d_Od_small_4 (by decide) (fun _ => ?_) (fun c_ => absurd c_ (by decide))
  refine z_aload_n hE d_Od_small_10 rfl ?_
  refine z_iload_n hE d_Od_small_11 rfl ?_
  rw [ef]
  refine z_callV hE d_Od_small_12 cl_Od_59 (c_Od_fractionAt l hV (fx f) (by omega)) (by assumption) cb_Od rfl (Nat.le_of_ble_eq_true rfl) ⟨by decide, by decide⟩ ⟨by omega, by omega⟩ (fun r_1 g_1 nx_1 hp_1 => ?_) rfl
  try dsimp only [Option.toList, List.nil_append, List.cons_append]
  obtain ⟨rfl, rfl, ⟨rfl, hq⟩ | ⟨b, q, rfl, hq, hK⟩⟩ := hp_1
  · try dsimp only [Option.toList, List.nil_append, List.cons_append]
    refine z_astore_nN hE d_Od_small_15 rfl (by decide) ?_
    refine z_aload_nN hE d_Od_small_16 rfl ?_
    refine z_ifnonnullZ (tgt := 26) hE d_Od_small_17 (by decide) ?_
    refine z_aload_n hE d_Od_small_20 rfl ?_
    refine z_iconst (v := 1) hE d_Od_small_21 (by decide) ?_
    refine z_callV hE d_Od_small_22 cl_Od_48 (c_Od_tell l hV 1) (by assumption) cb_Od rfl (Nat.le_of_ble_eq_true rfl) ⟨by decide, by decide⟩ ⟨by omega, by omega⟩ (fun r_1 g_1 nx_1 hp_1 => ?_) rfl
    try dsimp only [Option.toList, List.nil_append, List.cons_append]
    obtain ⟨rfl, rfl, C1, W1⟩ := hp_1
    try dsimp only [Option.toList, List.nil_append, List.cons_append]
    exact z_iret hE hQ d_Od_small_25 rfl (by omega) (by omega) (pO_of (by unfold spSmall; rw [if_pos hf, hq]; rfl) (Nat.le_refl _) C1 (gX_W W1 (Nat.le_refl _) (by omega)))
  · try dsimp only [Option.toList, List.nil_append, List.cons_append]
    obtain ⟨k1, k2, ⟨N, M, k3⟩, k4⟩ := id hK
    have k31 := k3.1
    refine z_astore_n hE d_Od_small_15 rfl (by decide) ?_
    refine z_aload_n hE d_Od_small_16 rfl ?_
    refine z_ifnonnullR (tgt := 26) hE d_Od_small_17 (by decide) ?_
    refine z_aload_n hE d_Od_small_26 rfl ?_
    refine z_aload_n hE d_Od_small_27 rfl ?_
    refine z_callV hE d_Od_small_28 cl_Od_101 (c_Fr_isSmall l nx k3) (by assumption) cb_Fr rfl (Nat.le_of_ble_eq_true rfl) ⟨by decide, by decide⟩ ⟨by omega, by omega⟩ (fun r_28 g_28 nx_28 hp_28 => ?_) rfl
    obtain ⟨rfl, rfl, rfl⟩ := hp_28
    try dsimp only [Option.toList, List.nil_append, List.cons_append]
    have go : ∀ (z : Int32) lv, z = (if bl q.2.1 ≤ 63 ∧ bl q.2.2 ≤ 63 then 1 else 0) → zJ E g nx 0 0 39 lv [.int z, .ref O] := by
      intro z lv hz
      refine z_callV hE d_Od_small_39 cl_Od_70 (c_Od_done l hV z) (by assumption) cb_Od rfl (Nat.le_of_ble_eq_true rfl) ⟨by decide, by decide⟩ ⟨by omega, by omega⟩ (fun r_2 g_2 nx_2 hp_2 => ?_) rfl
      try dsimp only [Option.toList, List.nil_append, List.cons_append]
      obtain ⟨rfl, rfl, C2, W2⟩ := hp_2
      try dsimp only [Option.toList, List.nil_append, List.cons_append]
      exact z_iret hE hQ d_Od_small_42 rfl (by omega) (by omega) (pO_of (by unfold spSmall; rw [if_pos hf, hq, hz]; rfl) (Nat.le_refl _) C2 (gX_W W2 (Nat.le_refl _) (by omega)))
    by_cases hs : bl q.2.1 ≤ 63 ∧ bl q.2.2 ≤ 63
    · rw [if_pos hs]
      refine z_if_eq (tgt := 38) hE d_Od_small_31 (by decide) (fun c_ => absurd c_ (by decide)) (fun _ => ?_)
      refine z_iconst (v := 1) hE d_Od_small_34 (by decide) ?_
      refine z_goto (tgt := 39) hE d_Od_small_35 (by decide) ?_
      exact go 1 _ (by rw [if_pos hs])
    · rw [if_neg hs]
      refine z_if_eq (tgt := 38) hE d_Od_small_31 (by decide) (fun _ => ?_) (fun c_ => absurd c_ (by decide))
      refine z_iconst (v := 0) hE d_Od_small_38 (by decide) ?_
      exact go 0 _ (by rw [if_neg hs])
theorem c_Od_order (l : Launch) {g : Gh} {nx O : Nat} {S : Sx} (hC : CW g O nx S) (f a : Int32) : Ct l m_Od_order 0 0 [.ref O, .int f, .int a] g nx (pO g O nx (spOrder S f a)) := by
  obtain ⟨sg, v, w, hV⟩ := hC
  have h0 := hV.1
  refine Ct.of (by decide) (Nat.le_of_ble_eq_true rfl) (fun E hE hQ => ?_)
  have out : ∀ lv, ¬ (inI f 0 15 ∧ inI a 0 15) → zJ E g nx 0 0 14 lv [] := by
    intro lv h
    refine z_ldc hE d_Od_order_14 cn_Od_47 ?_
    exact z_iret hE hQ d_Od_order_16 rfl (by omega) (by omega) (pO_of (if_neg h) (Nat.le_refl _) hV gX_r)
  refine z_iload_n hE d_Od_order_0 rfl ?_
  refine z_callS hE d_Od_order_1 cl_Od_43 (c_Od_isNoFraction l g nx f) rfl (Nat.le_of_ble_eq_true rfl) ⟨by decide, by decide⟩ ⟨by omega, by omega⟩ (fun r_1 g_1 nx_1 hp_1 => ?_) rfl
  obtain ⟨rfl, rfl, rfl⟩ := hp_1
  try dsimp only [Option.toList, List.nil_append, List.cons_append]
  by_cases hf : inI f 0 15
  case neg =>
    rw [if_neg hf]
    refine z_if_ne (tgt := 14) hE d_Od_order_4 (by decide) (fun _ => ?_) (fun c_ => absurd c_ (by decide))
    exact out _ (fun q => hf q.1)
  rw [if_pos hf]
  refine z_if_ne (tgt := 14) hE d_Od_order_4 (by decide) (fun c_ => absurd c_ (by decide)) (fun _ => ?_)
  refine z_iload_n hE d_Od_order_7 rfl ?_
  refine z_callS hE d_Od_order_8 cl_Od_43 (c_Od_isNoFraction l g nx a) rfl (Nat.le_of_ble_eq_true rfl) ⟨by decide, by decide⟩ ⟨by omega, by omega⟩ (fun r_8 g_8 nx_8 hp_8 => ?_) rfl
  obtain ⟨rfl, rfl, rfl⟩ := hp_8
  try dsimp only [Option.toList, List.nil_append, List.cons_append]
  by_cases ha : inI a 0 15
  case neg =>
    rw [if_neg ha]
    refine z_if_eq (tgt := 17) hE d_Od_order_11 (by decide) (fun c_ => absurd c_ (by decide)) (fun _ => ?_)
    exact out _ (fun q => ha q.2)
  rw [if_pos ha]
  refine z_if_eq (tgt := 17) hE d_Od_order_11 (by decide) (fun _ => ?_) (fun c_ => absurd c_ (by decide))
  obtain ⟨ef, -, hf2⟩ := fx_of hf (by omega) (by omega)
  obtain ⟨ea, -, ha2⟩ := fx_of ha (by omega) (by omega)
  have none1 : ∀ lv, (S.1 (fx f) = none ∨ S.1 (fx a) = none) → lG lv 0 = some (.ref O) → zJ E g nx 0 0 39 lv [] := by
    intro lv h l0
    refine z_sub (lv' := [(0, .ref O)]) (by simp only [List.map, l0]) ?_
    refine z_aload_n hE d_Od_order_39 rfl ?_
    refine z_iconst (v := 1) hE d_Od_order_40 (by decide) ?_
    refine z_callV hE d_Od_order_41 cl_Od_48 (c_Od_tell l hV 1) (by assumption) cb_Od rfl (Nat.le_of_ble_eq_true rfl) ⟨by decide, by decide⟩ ⟨by omega, by omega⟩ (fun r_1 g_1 nx_1 hp_1 => ?_) rfl
    try dsimp only [Option.toList, List.nil_append, List.cons_append]
    obtain ⟨rfl, rfl, C1, W1⟩ := hp_1
    try dsimp only [Option.toList, List.nil_append, List.cons_append]
    refine z_iret hE hQ d_Od_order_44 rfl (by omega) (by omega) (pO_of ?_ (Nat.le_refl _) C1 (gX_W W1 (Nat.le_refl _) (by omega)))
    unfold spOrder
    rw [if_pos ⟨hf, ha⟩]
    rcases h with h | h
    · rw [h]; rfl
    · rw [h]; cases S.1 (fx f) <;> rfl
  refine z_aload_n hE d_Od_order_17 rfl ?_
  refine z_iload_n hE d_Od_order_18 rfl ?_
  rw [ef]
  refine z_callV hE d_Od_order_19 cl_Od_59 (c_Od_fractionAt l hV (fx f) (by omega)) (by assumption) cb_Od rfl (Nat.le_of_ble_eq_true rfl) ⟨by decide, by decide⟩ ⟨by omega, by omega⟩ (fun r_1 g_1 nx_1 hp_1 => ?_) rfl
  try dsimp only [Option.toList, List.nil_append, List.cons_append]
  obtain ⟨rfl, rfl, H1⟩ := hp_1
  obtain ⟨x1, hx1⟩ : ∃ x : Option Nat, r_1 = some (va_rf x) := by
    rcases H1 with ⟨h, -⟩ | ⟨b, q, h, -⟩
    · exact ⟨none, h⟩
    · exact ⟨some b, h⟩
  subst hx1
  try dsimp only [Option.toList, List.nil_append, List.cons_append]
  refine z_astore_nq hE d_Od_order_22 rfl (by decide) ?_
  refine z_aload_n hE d_Od_order_23 rfl ?_
  refine z_iload_n hE d_Od_order_24 rfl ?_
  rw [ea]
  refine z_callV hE d_Od_order_25 cl_Od_59 (c_Od_fractionAt l hV (fx a) (by omega)) (by assumption) cb_Od rfl (Nat.le_of_ble_eq_true rfl) ⟨by decide, by decide⟩ ⟨by omega, by omega⟩ (fun r_2 g_2 nx_2 hp_2 => ?_) rfl
  try dsimp only [Option.toList, List.nil_append, List.cons_append]
  obtain ⟨rfl, rfl, H2⟩ := hp_2
  obtain ⟨x2, hx2⟩ : ∃ x : Option Nat, r_2 = some (va_rf x) := by
    rcases H2 with ⟨h, -⟩ | ⟨b, q, h, -⟩
    · exact ⟨none, h⟩
    · exact ⟨some b, h⟩
  subst hx2
  try dsimp only [Option.toList, List.nil_append, List.cons_append]
  refine z_astoreq hE d_Od_order_28 (by decide) ?_
  rcases H1 with ⟨hr1, hq1⟩ | ⟨b, q, hr1, hq1, hK1⟩
  · cases x1
    · refine z_aload_nN hE d_Od_order_30 rfl ?_
      refine z_ifnullZ (tgt := 39) hE d_Od_order_31 (by decide) ?_
      exact none1 _ (Or.inl hq1) (by rw [← ef]; cases x2 <;> rfl)
    · cases hr1
  · cases x1
    · cases hr1
    · cases hr1
      rcases H2 with ⟨hr2, hq2⟩ | ⟨b2, q2, hr2, hq2, hK2⟩
      · cases x2
        · refine z_aload_n hE d_Od_order_30 rfl ?_
          refine z_ifnullR (tgt := 39) hE d_Od_order_31 (by decide) ?_
          refine z_aloadN hE d_Od_order_34 rfl ?_
          refine z_ifnonnullZ (tgt := 45) hE d_Od_order_36 (by decide) ?_
          exact none1 _ (Or.inr hq2) rfl
        · cases hr2
      · cases x2
        · cases hr2
        · cases hr2
          obtain ⟨k1, k2, ⟨N, M, k3⟩, k4⟩ := id hK1
          obtain ⟨j1, j2, ⟨N', M', j3⟩, j4⟩ := id hK2
          have R1 := hV.2.2.2.2.1
          have R11 := R1.1
          unfold RE at R11
          refine z_aload_n hE d_Od_order_30 rfl ?_
          refine z_ifnullR (tgt := 39) hE d_Od_order_31 (by decide) ?_
          refine z_aload hE d_Od_order_34 rfl ?_
          refine z_ifnonnullR (tgt := 45) hE d_Od_order_36 (by decide) ?_
          refine z_aload_n hE d_Od_order_45 rfl ?_
          refine z_aload_n hE d_Od_order_46 rfl ?_
          refine z_get hE d_Od_order_47 fl_Od_25 (by assumption) rfl ?_
          refine z_aload_n hE d_Od_order_50 rfl ?_
          refine z_aload hE d_Od_order_51 rfl ?_
          refine z_callV hE d_Od_order_53 cl_Od_97 (c_Re_compare l nx R1 k3 j3 (by omega) (by omega) k4.2.1 k4.2.2 j4.2.1 j4.2.2) (by assumption) cb_Re rfl (Nat.le_of_ble_eq_true rfl) ⟨by decide, by decide⟩ ⟨by omega, by omega⟩ (fun r_3 g_3 nx_3 hp_3 => ?_) rfl
          try dsimp only [Option.toList, List.nil_append, List.cons_append]
          obtain ⟨rfl, rfl, W3, v3, V3, -⟩ := hp_3
          try dsimp only [Option.toList, List.nil_append, List.cons_append]
          have W3' : gW g g_3 (O + 11) (O + 11 + 25) := gW_le W3 (by omega) (by omega)
          have C3 := OV_re hV W3' V3
          have m0 := C3.1
          refine z_callV hE d_Od_order_56 cl_Od_70 (c_Od_done l C3 (cmpQ q q2)) (by assumption) cb_Od rfl (Nat.le_of_ble_eq_true rfl) ⟨by decide, by decide⟩ ⟨by omega, by omega⟩ (fun r_4 g_4 nx_4 hp_4 => ?_) rfl
          try dsimp only [Option.toList, List.nil_append, List.cons_append]
          obtain ⟨rfl, rfl, C4, W4⟩ := hp_4
          try dsimp only [Option.toList, List.nil_append, List.cons_append]
          exact z_iret hE hQ d_Od_order_59 rfl (by omega) (by omega) (pO_of (by unfold spOrder; rw [if_pos ⟨hf, ha⟩, hq1, hq2]; rfl) (Nat.le_refl _) C4 (gX_t (gX_W W3' (by omega) (by omega)) (gX_W W4 (Nat.le_refl _) (by omega)) (Nat.le_refl nx)))

