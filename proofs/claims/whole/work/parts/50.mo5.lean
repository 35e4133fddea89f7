/-! the reference: calls -/
theorem c_Mo_inI (l : Launch) (g : Gh) (nx : Nat) (x : Int32) (a b : Int64) (A B : Int) (ha : a.toInt = A) (hb : b.toInt = B) : Ct l m_Mo_in 0 0 [.long x.toInt64, .long a, .long b] g nx (pP (some (.int (if inI x A B then 1 else 0))) g nx) := by
  have h := c_Mo_in l g nx x.toInt64 a b
  have e : (a.toInt ≤ x.toInt64.toInt ∧ x.toInt64.toInt ≤ b.toInt) ↔ inI x A B := by rw [Int32.toInt_toInt64, ha, hb]
  simp only [e] at h
  exact h
theorem w816 {a b : Nat} (ha : a < 4294967296 ^ 8) (hb : b < 4294967296 ^ 8) : a * b < 65536 ^ 32 := by
  have h := Nat.mul_lt_mul_of_lt_of_lt ha hb
  have e : 4294967296 ^ 8 * 4294967296 ^ 8 = 65536 ^ 32 := by decide
  omega
theorem isS_mulR {s : Int32} {a b : Nat} (h : isS s a) (hb : 0 < b) : isS s (a * b) := by
  rcases h with ⟨z, y⟩ | ⟨z, y⟩ | ⟨z, y⟩
  · exact Or.inl ⟨z, by rw [y, Nat.zero_mul]⟩
  · exact Or.inr (Or.inl ⟨z, Nat.mul_pos y hb⟩)
  · exact Or.inr (Or.inr ⟨z, Nat.mul_pos y hb⟩)
theorem sum_1 {sx sy : Int32} {X Y : Nat} (hx : isS sx X) (hy : isS sy Y) (h : sx = sy ∨ sx = 0 ∨ sy = 0) : X + Y = (sv sx X + sv sy Y).natAbs ∧ (X + Y ≠ 0 → (if sx = 0 then sy else sx) = sgI (sv sx X + sv sy Y)) := by
  rcases hx with ⟨rfl, x0⟩ | ⟨rfl, x0⟩ | ⟨rfl, x0⟩ <;> rcases hy with ⟨rfl, y0⟩ | ⟨rfl, y0⟩ | ⟨rfl, y0⟩
  · simp only [sv_0]; exact ⟨by omega, fun q => absurd (by omega) q⟩
  · simp only [sv_0, sv_1]; exact ⟨by omega, fun _ => by rw [if_pos trivial, sgI_p (by omega)]⟩
  · simp only [sv_0, sv_m]; exact ⟨by omega, fun _ => by rw [if_pos trivial, sgI_n (by omega)]⟩
  · simp only [sv_0, sv_1]; exact ⟨by omega, fun _ => by rw [if_neg (by decide), sgI_p (by omega)]⟩
  · simp only [sv_1]; exact ⟨by omega, fun _ => by rw [if_neg (by decide), sgI_p (by omega)]⟩
  · exact absurd h (by decide)
  · simp only [sv_0, sv_m]; exact ⟨by omega, fun _ => by rw [if_neg (by decide), sgI_n (by omega)]⟩
  · exact absurd h (by decide)
  · simp only [sv_m]; exact ⟨by omega, fun _ => by rw [if_neg (by decide), sgI_n (by omega)]⟩
theorem sum_2 {sx sy : Int32} {X Y : Nat} (hx : isS sx X) (hy : isS sy Y) (h : ¬ (sx = sy ∨ sx = 0 ∨ sy = 0)) : (Y ≤ X → X - Y = (sv sx X + sv sy Y).natAbs ∧ (X - Y ≠ 0 → sx = sgI (sv sx X + sv sy Y))) ∧ (X < Y → Y - X = (sv sx X + sv sy Y).natAbs ∧ (Y - X ≠ 0 → sy = sgI (sv sx X + sv sy Y))) := by
  rcases hx with ⟨rfl, x0⟩ | ⟨rfl, x0⟩ | ⟨rfl, x0⟩ <;> rcases hy with ⟨rfl, y0⟩ | ⟨rfl, y0⟩ | ⟨rfl, y0⟩
  · exact absurd (by decide) h
  · exact absurd (by decide) h
  · exact absurd (by decide) h
  · exact absurd (by decide) h
  · exact absurd (by decide) h
  · simp only [sv_1, sv_m]
    exact ⟨fun q => ⟨by omega, fun _ => by rw [sgI_p (by omega)]⟩, fun q => ⟨by omega, fun _ => by rw [sgI_n (by omega)]⟩⟩
  · exact absurd (by decide) h
  · simp only [sv_1, sv_m]
    exact ⟨fun q => ⟨by omega, fun _ => by rw [sgI_n (by omega)]⟩, fun q => ⟨by omega, fun _ => by rw [sgI_p (by omega)]⟩⟩
  · exact absurd (by decide) h
theorem mk_n {s s' : Int32} {t t' b : Nat} (ht : t = t') (h : t ≠ 0 → s = s') : mk s t b = mk s' t' b := by
  subst ht
  exact mk_s h
theorem cmpQ_0 {x y : Qf} (hx : QOK x) (hy : QOK y) (h : cmpQ x y = 0) : x = y := by
  obtain ⟨sa, aa, ab⟩ := x
  obtain ⟨sb, ba, bb⟩ := y
  obtain ⟨x1, x2, x3⟩ := hx
  obtain ⟨y1, y2, y3⟩ := hy
  dsimp only at *
  unfold cmpQ cmpF at h
  dsimp only at h
  by_cases hs : sa = sb
  · rw [if_pos hs] at h
    have hc : aa * bb = ba * ab := by
      unfold cmpN at h
      rcases Nat.lt_trichotomy (aa * bb) (ba * ab) with q | q | q
      · rw [if_pos q] at h
        split at h <;> exact absurd h (by decide)
      · exact q
      · rw [if_neg (show ¬ aa * bb < ba * ab by omega), if_neg (show ¬ aa * bb = ba * ab by omega)] at h
        split at h <;> exact absurd h (by decide)
    have d1 : ab ∣ bb := Nat.Coprime.dvd_of_dvd_mul_left (Nat.Coprime.symm x2) ⟨ba, by rw [hc, Nat.mul_comm]⟩
    have d2 : bb ∣ ab := Nat.Coprime.dvd_of_dvd_mul_left (Nat.Coprime.symm y2) ⟨aa, by rw [← hc, Nat.mul_comm]⟩
    have e := Nat.dvd_antisymm d1 d2
    subst e
    have e2 := Nat.eq_of_mul_eq_mul_right x3 hc
    rw [hs, e2]
  · rw [if_neg hs] at h
    split at h <;> exact absurd h (by decide)
theorem S_q {S : Sx} (h : SOK S) {k : Nat} {q : Qf} (hk : k < 16) (e : S.1 k = some q) : QK q := h.1 k hk q e
section ZR
variable {E : zE} {l : Launch} {M : mI} {tc ts : Nat} {g : Gh} {nx cells slots pc : Nat} {lv : List (Nat × Value)} {rest : List Value}
/-- a call that ends with made's answer -/
theorem z_mret (hE : zOk E l M tc ts) {g0 g1 : Gh} {P n0 : Nat} {p : Vx} {S : Sx} {f : Nat} {q : Qf} {r : Option Value} (hQ : zRt E tc ts (pM g0 P n0 p)) (hd : decode M.2.1 pc = .ok (.ireturn, 1)) (hret : M.2.2.2.1 = some .int) (hc : cells ≤ tc) (hs : slots ≤ ts) (hx : gW g0 g1 P (P + 14)) (e : p = mkS S f q) (hp : pM g1 P n0 (mkS S f q) r g nx) : zJ E g nx cells slots pc lv (r.toList ++ []) := by
  obtain ⟨a, ha⟩ := mkS_int S f q
  obtain ⟨h1, h2, h3, h4⟩ := hp
  rw [ha] at h1
  subst h1
  subst e
  exact z_iret hE hQ hd hret hc hs ⟨by rw [ha], h2, h3, gW_t hx h4⟩
end ZR
theorem d_Mo_sumOf_0 : decode b_Mo_sumOf 0 = .ok (.aload_n 0, 1) := by decide +kernel
theorem d_Mo_sumOf_1 : decode b_Mo_sumOf 1 = .ok (.iload_n 1, 1) := by decide +kernel
theorem d_Mo_sumOf_2 : decode b_Mo_sumOf 2 = .ok (.aload_n 0, 1) := by decide +kernel
theorem d_Mo_sumOf_3 : decode b_Mo_sumOf 3 = .ok (.getfield 32, 3) := by decide +kernel
theorem d_Mo_sumOf_6 : decode b_Mo_sumOf 6 = .ok (.aload_n 0, 1) := by decide +kernel
theorem d_Mo_sumOf_7 : decode b_Mo_sumOf 7 = .ok (.getfield 35, 3) := by decide +kernel
theorem d_Mo_sumOf_10 : decode b_Mo_sumOf 10 = .ok (.invokevirtual 119, 3) := by decide +kernel
theorem d_Mo_sumOf_13 : decode b_Mo_sumOf 13 = .ok (.aload_n 0, 1) := by decide +kernel
theorem d_Mo_sumOf_14 : decode b_Mo_sumOf 14 = .ok (.iload_n 2, 1) := by decide +kernel
theorem d_Mo_sumOf_15 : decode b_Mo_sumOf 15 = .ok (.aload_n 0, 1) := by decide +kernel
theorem d_Mo_sumOf_16 : decode b_Mo_sumOf 16 = .ok (.getfield 38, 3) := by decide +kernel
theorem d_Mo_sumOf_19 : decode b_Mo_sumOf 19 = .ok (.aload_n 0, 1) := by decide +kernel
theorem d_Mo_sumOf_20 : decode b_Mo_sumOf 20 = .ok (.getfield 41, 3) := by decide +kernel
theorem d_Mo_sumOf_23 : decode b_Mo_sumOf 23 = .ok (.invokevirtual 119, 3) := by decide +kernel
theorem d_Mo_sumOf_26 : decode b_Mo_sumOf 26 = .ok (.aload_n 0, 1) := by decide +kernel
theorem d_Mo_sumOf_27 : decode b_Mo_sumOf 27 = .ok (.getfield 35, 3) := by decide +kernel
theorem d_Mo_sumOf_30 : decode b_Mo_sumOf 30 = .ok (.aload_n 0, 1) := by decide +kernel
theorem d_Mo_sumOf_31 : decode b_Mo_sumOf 31 = .ok (.getfield 41, 3) := by decide +kernel
theorem d_Mo_sumOf_34 : decode b_Mo_sumOf 34 = .ok (.aload_n 0, 1) := by decide +kernel
theorem d_Mo_sumOf_35 : decode b_Mo_sumOf 35 = .ok (.getfield 29, 3) := by decide +kernel
theorem d_Mo_sumOf_38 : decode b_Mo_sumOf 38 = .ok (.invokestatic 131, 3) := by decide +kernel
theorem d_Mo_sumOf_41 : decode b_Mo_sumOf 41 = .ok (.aload_n 0, 1) := by decide +kernel
theorem d_Mo_sumOf_42 : decode b_Mo_sumOf 42 = .ok (.getfield 32, 3) := by decide +kernel
theorem d_Mo_sumOf_45 : decode b_Mo_sumOf 45 = .ok (.aload_n 0, 1) := by decide +kernel
theorem d_Mo_sumOf_46 : decode b_Mo_sumOf 46 = .ok (.getfield 41, 3) := by decide +kernel
theorem d_Mo_sumOf_49 : decode b_Mo_sumOf 49 = .ok (.aload_n 0, 1) := by decide +kernel
theorem d_Mo_sumOf_50 : decode b_Mo_sumOf 50 = .ok (.getfield 26, 3) := by decide +kernel
theorem d_Mo_sumOf_53 : decode b_Mo_sumOf 53 = .ok (.invokestatic 131, 3) := by decide +kernel
theorem d_Mo_sumOf_56 : decode b_Mo_sumOf 56 = .ok (.aload_n 0, 1) := by decide +kernel
theorem d_Mo_sumOf_57 : decode b_Mo_sumOf 57 = .ok (.getfield 38, 3) := by decide +kernel
theorem d_Mo_sumOf_60 : decode b_Mo_sumOf 60 = .ok (.aload_n 0, 1) := by decide +kernel
theorem d_Mo_sumOf_61 : decode b_Mo_sumOf 61 = .ok (.getfield 35, 3) := by decide +kernel
theorem d_Mo_sumOf_64 : decode b_Mo_sumOf 64 = .ok (.aload_n 0, 1) := by decide +kernel
theorem d_Mo_sumOf_65 : decode b_Mo_sumOf 65 = .ok (.getfield 32, 3) := by decide +kernel
theorem d_Mo_sumOf_68 : decode b_Mo_sumOf 68 = .ok (.invokestatic 131, 3) := by decide +kernel
theorem d_Mo_sumOf_71 : decode b_Mo_sumOf 71 = .ok (.aload_n 0, 1) := by decide +kernel
theorem d_Mo_sumOf_72 : decode b_Mo_sumOf 72 = .ok (.getfield 13, 3) := by decide +kernel
theorem d_Mo_sumOf_75 : decode b_Mo_sumOf 75 = .ok (.iload_n 1, 1) := by decide +kernel
theorem d_Mo_sumOf_76 : decode b_Mo_sumOf 76 = .ok (.iaload, 1) := by decide +kernel
theorem d_Mo_sumOf_77 : decode b_Mo_sumOf 77 = .ok (.istore 4, 2) := by decide +kernel
theorem d_Mo_sumOf_79 : decode b_Mo_sumOf 79 = .ok (.aload_n 0, 1) := by decide +kernel
theorem d_Mo_sumOf_80 : decode b_Mo_sumOf 80 = .ok (.getfield 13, 3) := by decide +kernel
theorem d_Mo_sumOf_83 : decode b_Mo_sumOf 83 = .ok (.iload_n 2, 1) := by decide +kernel
theorem d_Mo_sumOf_84 : decode b_Mo_sumOf 84 = .ok (.iaload, 1) := by decide +kernel
theorem d_Mo_sumOf_85 : decode b_Mo_sumOf 85 = .ok (.iload_n 3, 1) := by decide +kernel
theorem d_Mo_sumOf_86 : decode b_Mo_sumOf 86 = .ok (.imul, 1) := by decide +kernel
theorem d_Mo_sumOf_87 : decode b_Mo_sumOf 87 = .ok (.istore 5, 2) := by decide +kernel
theorem d_Mo_sumOf_89 : decode b_Mo_sumOf 89 = .ok (.iload 4, 2) := by decide +kernel
theorem d_Mo_sumOf_91 : decode b_Mo_sumOf 91 = .ok (.iload 5, 2) := by decide +kernel
theorem d_Mo_sumOf_93 : decode b_Mo_sumOf 93 = .ok (.if_icmp .eq 13, 3) := by decide +kernel
theorem d_Mo_sumOf_96 : decode b_Mo_sumOf 96 = .ok (.iload 4, 2) := by decide +kernel
theorem d_Mo_sumOf_98 : decode b_Mo_sumOf 98 = .ok (.ifCond .eq 8, 3) := by decide +kernel
theorem d_Mo_sumOf_101 : decode b_Mo_sumOf 101 = .ok (.iload 5, 2) := by decide +kernel
theorem d_Mo_sumOf_103 : decode b_Mo_sumOf 103 = .ok (.ifCond .ne 33, 3) := by decide +kernel
theorem d_Mo_sumOf_106 : decode b_Mo_sumOf 106 = .ok (.aload_n 0, 1) := by decide +kernel
theorem d_Mo_sumOf_107 : decode b_Mo_sumOf 107 = .ok (.getfield 26, 3) := by decide +kernel
theorem d_Mo_sumOf_110 : decode b_Mo_sumOf 110 = .ok (.aload_n 0, 1) := by decide +kernel
theorem d_Mo_sumOf_111 : decode b_Mo_sumOf 111 = .ok (.getfield 32, 3) := by decide +kernel
theorem d_Mo_sumOf_114 : decode b_Mo_sumOf 114 = .ok (.invokestatic 135, 3) := by decide +kernel
theorem d_Mo_sumOf_117 : decode b_Mo_sumOf 117 = .ok (.aload_n 0, 1) := by decide +kernel
theorem d_Mo_sumOf_118 : decode b_Mo_sumOf 118 = .ok (.iload 4, 2) := by decide +kernel
theorem d_Mo_sumOf_120 : decode b_Mo_sumOf 120 = .ok (.ifCond .ne 8, 3) := by decide +kernel
theorem d_Mo_sumOf_123 : decode b_Mo_sumOf 123 = .ok (.iload 5, 2) := by decide +kernel
theorem d_Mo_sumOf_125 : decode b_Mo_sumOf 125 = .ok (.goto 5, 3) := by decide +kernel
theorem d_Mo_sumOf_128 : decode b_Mo_sumOf 128 = .ok (.iload 4, 2) := by decide +kernel
theorem d_Mo_sumOf_130 : decode b_Mo_sumOf 130 = .ok (.putfield 99, 3) := by decide +kernel
theorem d_Mo_sumOf_133 : decode b_Mo_sumOf 133 = .ok (.goto 65, 3) := by decide +kernel
theorem d_Mo_sumOf_136 : decode b_Mo_sumOf 136 = .ok (.aload_n 0, 1) := by decide +kernel
theorem d_Mo_sumOf_137 : decode b_Mo_sumOf 137 = .ok (.getfield 26, 3) := by decide +kernel
theorem d_Mo_sumOf_140 : decode b_Mo_sumOf 140 = .ok (.aload_n 0, 1) := by decide +kernel
theorem d_Mo_sumOf_141 : decode b_Mo_sumOf 141 = .ok (.getfield 32, 3) := by decide +kernel
theorem d_Mo_sumOf_144 : decode b_Mo_sumOf 144 = .ok (.invokestatic 69, 3) := by decide +kernel
theorem d_Mo_sumOf_147 : decode b_Mo_sumOf 147 = .ok (.ifCond .lt 23, 3) := by decide +kernel
theorem d_Mo_sumOf_150 : decode b_Mo_sumOf 150 = .ok (.aload_n 0, 1) := by decide +kernel
theorem d_Mo_sumOf_151 : decode b_Mo_sumOf 151 = .ok (.getfield 26, 3) := by decide +kernel
theorem d_Mo_sumOf_154 : decode b_Mo_sumOf 154 = .ok (.aload_n 0, 1) := by decide +kernel
theorem d_Mo_sumOf_155 : decode b_Mo_sumOf 155 = .ok (.getfield 32, 3) := by decide +kernel
theorem d_Mo_sumOf_158 : decode b_Mo_sumOf 158 = .ok (.invokestatic 73, 3) := by decide +kernel
theorem d_Mo_sumOf_161 : decode b_Mo_sumOf 161 = .ok (.aload_n 0, 1) := by decide +kernel
theorem d_Mo_sumOf_162 : decode b_Mo_sumOf 162 = .ok (.iload 4, 2) := by decide +kernel
theorem d_Mo_sumOf_164 : decode b_Mo_sumOf 164 = .ok (.putfield 99, 3) := by decide +kernel
theorem d_Mo_sumOf_167 : decode b_Mo_sumOf 167 = .ok (.goto 31, 3) := by decide +kernel
theorem d_Mo_sumOf_170 : decode b_Mo_sumOf 170 = .ok (.aload_n 0, 1) := by decide +kernel
theorem d_Mo_sumOf_171 : decode b_Mo_sumOf 171 = .ok (.getfield 32, 3) := by decide +kernel
theorem d_Mo_sumOf_174 : decode b_Mo_sumOf 174 = .ok (.aload_n 0, 1) := by decide +kernel
theorem d_Mo_sumOf_175 : decode b_Mo_sumOf 175 = .ok (.getfield 26, 3) := by decide +kernel
theorem d_Mo_sumOf_178 : decode b_Mo_sumOf 178 = .ok (.invokestatic 73, 3) := by decide +kernel
theorem d_Mo_sumOf_181 : decode b_Mo_sumOf 181 = .ok (.aload_n 0, 1) := by decide +kernel
theorem d_Mo_sumOf_182 : decode b_Mo_sumOf 182 = .ok (.getfield 32, 3) := by decide +kernel
theorem d_Mo_sumOf_185 : decode b_Mo_sumOf 185 = .ok (.aload_n 0, 1) := by decide +kernel
theorem d_Mo_sumOf_186 : decode b_Mo_sumOf 186 = .ok (.getfield 26, 3) := by decide +kernel
theorem d_Mo_sumOf_189 : decode b_Mo_sumOf 189 = .ok (.invokestatic 81, 3) := by decide +kernel
theorem d_Mo_sumOf_192 : decode b_Mo_sumOf 192 = .ok (.aload_n 0, 1) := by decide +kernel
theorem d_Mo_sumOf_193 : decode b_Mo_sumOf 193 = .ok (.iload 5, 2) := by decide +kernel
theorem d_Mo_sumOf_195 : decode b_Mo_sumOf 195 = .ok (.putfield 99, 3) := by decide +kernel
theorem d_Mo_sumOf_198 : decode b_Mo_sumOf 198 = .ok (.return_, 1) := by decide +kernel
theorem d_Mo_productOf_0 : decode b_Mo_productOf 0 = .ok (.aload_n 0, 1) := by decide +kernel
theorem d_Mo_productOf_1 : decode b_Mo_productOf 1 = .ok (.iload_n 1, 1) := by decide +kernel
theorem d_Mo_productOf_2 : decode b_Mo_productOf 2 = .ok (.aload_n 0, 1) := by decide +kernel
theorem d_Mo_productOf_3 : decode b_Mo_productOf 3 = .ok (.getfield 32, 3) := by decide +kernel
theorem d_Mo_productOf_6 : decode b_Mo_productOf 6 = .ok (.aload_n 0, 1) := by decide +kernel
theorem d_Mo_productOf_7 : decode b_Mo_productOf 7 = .ok (.getfield 35, 3) := by decide +kernel
theorem d_Mo_productOf_10 : decode b_Mo_productOf 10 = .ok (.invokevirtual 119, 3) := by decide +kernel
theorem d_Mo_productOf_13 : decode b_Mo_productOf 13 = .ok (.aload_n 0, 1) := by decide +kernel
theorem d_Mo_productOf_14 : decode b_Mo_productOf 14 = .ok (.iload_n 2, 1) := by decide +kernel
theorem d_Mo_productOf_15 : decode b_Mo_productOf 15 = .ok (.aload_n 0, 1) := by decide +kernel
theorem d_Mo_productOf_16 : decode b_Mo_productOf 16 = .ok (.getfield 38, 3) := by decide +kernel
theorem d_Mo_productOf_19 : decode b_Mo_productOf 19 = .ok (.aload_n 0, 1) := by decide +kernel
theorem d_Mo_productOf_20 : decode b_Mo_productOf 20 = .ok (.getfield 41, 3) := by decide +kernel
theorem d_Mo_productOf_23 : decode b_Mo_productOf 23 = .ok (.invokevirtual 119, 3) := by decide +kernel
theorem d_Mo_productOf_26 : decode b_Mo_productOf 26 = .ok (.aload_n 0, 1) := by decide +kernel
theorem d_Mo_productOf_27 : decode b_Mo_productOf 27 = .ok (.getfield 32, 3) := by decide +kernel
theorem d_Mo_productOf_30 : decode b_Mo_productOf 30 = .ok (.aload_n 0, 1) := by decide +kernel
theorem d_Mo_productOf_31 : decode b_Mo_productOf 31 = .ok (.getfield 38, 3) := by decide +kernel
theorem d_Mo_productOf_34 : decode b_Mo_productOf 34 = .ok (.aload_n 0, 1) := by decide +kernel
theorem d_Mo_productOf_35 : decode b_Mo_productOf 35 = .ok (.getfield 26, 3) := by decide +kernel
theorem d_Mo_productOf_38 : decode b_Mo_productOf 38 = .ok (.invokestatic 131, 3) := by decide +kernel
theorem d_Mo_productOf_41 : decode b_Mo_productOf 41 = .ok (.aload_n 0, 1) := by decide +kernel
theorem d_Mo_productOf_42 : decode b_Mo_productOf 42 = .ok (.getfield 35, 3) := by decide +kernel
theorem d_Mo_productOf_45 : decode b_Mo_productOf 45 = .ok (.aload_n 0, 1) := by decide +kernel
theorem d_Mo_productOf_46 : decode b_Mo_productOf 46 = .ok (.getfield 41, 3) := by decide +kernel
theorem d_Mo_productOf_49 : decode b_Mo_productOf 49 = .ok (.aload_n 0, 1) := by decide +kernel
theorem d_Mo_productOf_50 : decode b_Mo_productOf 50 = .ok (.getfield 29, 3) := by decide +kernel
theorem d_Mo_productOf_53 : decode b_Mo_productOf 53 = .ok (.invokestatic 131, 3) := by decide +kernel
theorem d_Mo_productOf_56 : decode b_Mo_productOf 56 = .ok (.aload_n 0, 1) := by decide +kernel
theorem d_Mo_productOf_57 : decode b_Mo_productOf 57 = .ok (.aload_n 0, 1) := by decide +kernel
theorem d_Mo_productOf_58 : decode b_Mo_productOf 58 = .ok (.getfield 13, 3) := by decide +kernel
theorem d_Mo_productOf_61 : decode b_Mo_productOf 61 = .ok (.iload_n 1, 1) := by decide +kernel
theorem d_Mo_productOf_62 : decode b_Mo_productOf 62 = .ok (.iaload, 1) := by decide +kernel
theorem d_Mo_productOf_63 : decode b_Mo_productOf 63 = .ok (.aload_n 0, 1) := by decide +kernel
theorem d_Mo_productOf_64 : decode b_Mo_productOf 64 = .ok (.getfield 13, 3) := by decide +kernel
theorem d_Mo_productOf_67 : decode b_Mo_productOf 67 = .ok (.iload_n 2, 1) := by decide +kernel
theorem d_Mo_productOf_68 : decode b_Mo_productOf 68 = .ok (.iaload, 1) := by decide +kernel
theorem d_Mo_productOf_69 : decode b_Mo_productOf 69 = .ok (.imul, 1) := by decide +kernel
theorem d_Mo_productOf_70 : decode b_Mo_productOf 70 = .ok (.putfield 99, 3) := by decide +kernel
theorem d_Mo_productOf_73 : decode b_Mo_productOf 73 = .ok (.return_, 1) := by decide +kernel
theorem d_Mo_quotientOf_0 : decode b_Mo_quotientOf 0 = .ok (.aload_n 0, 1) := by decide +kernel
theorem d_Mo_quotientOf_1 : decode b_Mo_quotientOf 1 = .ok (.iload_n 1, 1) := by decide +kernel
theorem d_Mo_quotientOf_2 : decode b_Mo_quotientOf 2 = .ok (.aload_n 0, 1) := by decide +kernel
theorem d_Mo_quotientOf_3 : decode b_Mo_quotientOf 3 = .ok (.getfield 32, 3) := by decide +kernel
theorem d_Mo_quotientOf_6 : decode b_Mo_quotientOf 6 = .ok (.aload_n 0, 1) := by decide +kernel
theorem d_Mo_quotientOf_7 : decode b_Mo_quotientOf 7 = .ok (.getfield 35, 3) := by decide +kernel
theorem d_Mo_quotientOf_10 : decode b_Mo_quotientOf 10 = .ok (.invokevirtual 119, 3) := by decide +kernel
theorem d_Mo_quotientOf_13 : decode b_Mo_quotientOf 13 = .ok (.aload_n 0, 1) := by decide +kernel
theorem d_Mo_quotientOf_14 : decode b_Mo_quotientOf 14 = .ok (.iload_n 2, 1) := by decide +kernel
theorem d_Mo_quotientOf_15 : decode b_Mo_quotientOf 15 = .ok (.aload_n 0, 1) := by decide +kernel
theorem d_Mo_quotientOf_16 : decode b_Mo_quotientOf 16 = .ok (.getfield 38, 3) := by decide +kernel
theorem d_Mo_quotientOf_19 : decode b_Mo_quotientOf 19 = .ok (.aload_n 0, 1) := by decide +kernel
theorem d_Mo_quotientOf_20 : decode b_Mo_quotientOf 20 = .ok (.getfield 41, 3) := by decide +kernel
theorem d_Mo_quotientOf_23 : decode b_Mo_quotientOf 23 = .ok (.invokevirtual 119, 3) := by decide +kernel
theorem d_Mo_quotientOf_26 : decode b_Mo_quotientOf 26 = .ok (.aload_n 0, 1) := by decide +kernel
theorem d_Mo_quotientOf_27 : decode b_Mo_quotientOf 27 = .ok (.getfield 32, 3) := by decide +kernel
theorem d_Mo_quotientOf_30 : decode b_Mo_quotientOf 30 = .ok (.aload_n 0, 1) := by decide +kernel
theorem d_Mo_quotientOf_31 : decode b_Mo_quotientOf 31 = .ok (.getfield 41, 3) := by decide +kernel
theorem d_Mo_quotientOf_34 : decode b_Mo_quotientOf 34 = .ok (.aload_n 0, 1) := by decide +kernel
theorem d_Mo_quotientOf_35 : decode b_Mo_quotientOf 35 = .ok (.getfield 26, 3) := by decide +kernel
theorem d_Mo_quotientOf_38 : decode b_Mo_quotientOf 38 = .ok (.invokestatic 131, 3) := by decide +kernel
theorem d_Mo_quotientOf_41 : decode b_Mo_quotientOf 41 = .ok (.aload_n 0, 1) := by decide +kernel
theorem d_Mo_quotientOf_42 : decode b_Mo_quotientOf 42 = .ok (.getfield 35, 3) := by decide +kernel
theorem d_Mo_quotientOf_45 : decode b_Mo_quotientOf 45 = .ok (.aload_n 0, 1) := by decide +kernel
theorem d_Mo_quotientOf_46 : decode b_Mo_quotientOf 46 = .ok (.getfield 38, 3) := by decide +kernel
theorem d_Mo_quotientOf_49 : decode b_Mo_quotientOf 49 = .ok (.aload_n 0, 1) := by decide +kernel
theorem d_Mo_quotientOf_50 : decode b_Mo_quotientOf 50 = .ok (.getfield 29, 3) := by decide +kernel
theorem d_Mo_quotientOf_53 : decode b_Mo_quotientOf 53 = .ok (.invokestatic 131, 3) := by decide +kernel
theorem d_Mo_quotientOf_56 : decode b_Mo_quotientOf 56 = .ok (.aload_n 0, 1) := by decide +kernel
theorem d_Mo_quotientOf_57 : decode b_Mo_quotientOf 57 = .ok (.aload_n 0, 1) := by decide +kernel
theorem d_Mo_quotientOf_58 : decode b_Mo_quotientOf 58 = .ok (.getfield 13, 3) := by decide +kernel
theorem d_Mo_quotientOf_61 : decode b_Mo_quotientOf 61 = .ok (.iload_n 1, 1) := by decide +kernel
theorem d_Mo_quotientOf_62 : decode b_Mo_quotientOf 62 = .ok (.iaload, 1) := by decide +kernel
theorem d_Mo_quotientOf_63 : decode b_Mo_quotientOf 63 = .ok (.aload_n 0, 1) := by decide +kernel
theorem d_Mo_quotientOf_64 : decode b_Mo_quotientOf 64 = .ok (.getfield 13, 3) := by decide +kernel
theorem d_Mo_quotientOf_67 : decode b_Mo_quotientOf 67 = .ok (.iload_n 2, 1) := by decide +kernel
theorem d_Mo_quotientOf_68 : decode b_Mo_quotientOf 68 = .ok (.iaload, 1) := by decide +kernel
theorem d_Mo_quotientOf_69 : decode b_Mo_quotientOf 69 = .ok (.imul, 1) := by decide +kernel
theorem d_Mo_quotientOf_70 : decode b_Mo_quotientOf 70 = .ok (.putfield 99, 3) := by decide +kernel
theorem d_Mo_quotientOf_73 : decode b_Mo_quotientOf 73 = .ok (.return_, 1) := by decide +kernel
theorem d_Mo_orderOf_0 : decode b_Mo_orderOf 0 = .ok (.aload_n 0, 1) := by decide +kernel
theorem d_Mo_orderOf_1 : decode b_Mo_orderOf 1 = .ok (.getfield 13, 3) := by decide +kernel
theorem d_Mo_orderOf_4 : decode b_Mo_orderOf 4 = .ok (.iload_n 1, 1) := by decide +kernel
theorem d_Mo_orderOf_5 : decode b_Mo_orderOf 5 = .ok (.iaload, 1) := by decide +kernel
theorem d_Mo_orderOf_6 : decode b_Mo_orderOf 6 = .ok (.aload_n 0, 1) := by decide +kernel
theorem d_Mo_orderOf_7 : decode b_Mo_orderOf 7 = .ok (.getfield 13, 3) := by decide +kernel
theorem d_Mo_orderOf_10 : decode b_Mo_orderOf 10 = .ok (.iload_n 2, 1) := by decide +kernel
theorem d_Mo_orderOf_11 : decode b_Mo_orderOf 11 = .ok (.iaload, 1) := by decide +kernel
theorem d_Mo_orderOf_12 : decode b_Mo_orderOf 12 = .ok (.if_icmp .eq 24, 3) := by decide +kernel
theorem d_Mo_orderOf_15 : decode b_Mo_orderOf 15 = .ok (.aload_n 0, 1) := by decide +kernel
theorem d_Mo_orderOf_16 : decode b_Mo_orderOf 16 = .ok (.getfield 13, 3) := by decide +kernel
theorem d_Mo_orderOf_19 : decode b_Mo_orderOf 19 = .ok (.iload_n 1, 1) := by decide +kernel
theorem d_Mo_orderOf_20 : decode b_Mo_orderOf 20 = .ok (.iaload, 1) := by decide +kernel
theorem d_Mo_orderOf_21 : decode b_Mo_orderOf 21 = .ok (.aload_n 0, 1) := by decide +kernel
theorem d_Mo_orderOf_22 : decode b_Mo_orderOf 22 = .ok (.getfield 13, 3) := by decide +kernel
theorem d_Mo_orderOf_25 : decode b_Mo_orderOf 25 = .ok (.iload_n 2, 1) := by decide +kernel
theorem d_Mo_orderOf_26 : decode b_Mo_orderOf 26 = .ok (.iaload, 1) := by decide +kernel
theorem d_Mo_orderOf_27 : decode b_Mo_orderOf 27 = .ok (.if_icmp .ge 7, 3) := by decide +kernel
theorem d_Mo_orderOf_30 : decode b_Mo_orderOf 30 = .ok (.iconst (-1), 1) := by decide +kernel
theorem d_Mo_orderOf_31 : decode b_Mo_orderOf 31 = .ok (.goto 4, 3) := by decide +kernel
theorem d_Mo_orderOf_34 : decode b_Mo_orderOf 34 = .ok (.iconst 1, 1) := by decide +kernel
theorem d_Mo_orderOf_35 : decode b_Mo_orderOf 35 = .ok (.ireturn, 1) := by decide +kernel
theorem d_Mo_orderOf_36 : decode b_Mo_orderOf 36 = .ok (.aload_n 0, 1) := by decide +kernel
theorem d_Mo_orderOf_37 : decode b_Mo_orderOf 37 = .ok (.iload_n 1, 1) := by decide +kernel
theorem d_Mo_orderOf_38 : decode b_Mo_orderOf 38 = .ok (.aload_n 0, 1) := by decide +kernel
theorem d_Mo_orderOf_39 : decode b_Mo_orderOf 39 = .ok (.getfield 32, 3) := by decide +kernel
theorem d_Mo_orderOf_42 : decode b_Mo_orderOf 42 = .ok (.aload_n 0, 1) := by decide +kernel
theorem d_Mo_orderOf_43 : decode b_Mo_orderOf 43 = .ok (.getfield 35, 3) := by decide +kernel
theorem d_Mo_orderOf_46 : decode b_Mo_orderOf 46 = .ok (.invokevirtual 119, 3) := by decide +kernel
theorem d_Mo_orderOf_49 : decode b_Mo_orderOf 49 = .ok (.aload_n 0, 1) := by decide +kernel
theorem d_Mo_orderOf_50 : decode b_Mo_orderOf 50 = .ok (.iload_n 2, 1) := by decide +kernel
theorem d_Mo_orderOf_51 : decode b_Mo_orderOf 51 = .ok (.aload_n 0, 1) := by decide +kernel
theorem d_Mo_orderOf_52 : decode b_Mo_orderOf 52 = .ok (.getfield 38, 3) := by decide +kernel
theorem d_Mo_orderOf_55 : decode b_Mo_orderOf 55 = .ok (.aload_n 0, 1) := by decide +kernel
theorem d_Mo_orderOf_56 : decode b_Mo_orderOf 56 = .ok (.getfield 41, 3) := by decide +kernel
theorem d_Mo_orderOf_59 : decode b_Mo_orderOf 59 = .ok (.invokevirtual 119, 3) := by decide +kernel
theorem d_Mo_orderOf_62 : decode b_Mo_orderOf 62 = .ok (.aload_n 0, 1) := by decide +kernel
theorem d_Mo_orderOf_63 : decode b_Mo_orderOf 63 = .ok (.getfield 32, 3) := by decide +kernel
theorem d_Mo_orderOf_66 : decode b_Mo_orderOf 66 = .ok (.aload_n 0, 1) := by decide +kernel
theorem d_Mo_orderOf_67 : decode b_Mo_orderOf 67 = .ok (.getfield 41, 3) := by decide +kernel
theorem d_Mo_orderOf_70 : decode b_Mo_orderOf 70 = .ok (.aload_n 0, 1) := by decide +kernel
theorem d_Mo_orderOf_71 : decode b_Mo_orderOf 71 = .ok (.getfield 26, 3) := by decide +kernel
theorem d_Mo_orderOf_74 : decode b_Mo_orderOf 74 = .ok (.invokestatic 131, 3) := by decide +kernel
theorem d_Mo_orderOf_77 : decode b_Mo_orderOf 77 = .ok (.aload_n 0, 1) := by decide +kernel
theorem d_Mo_orderOf_78 : decode b_Mo_orderOf 78 = .ok (.getfield 38, 3) := by decide +kernel
theorem d_Mo_orderOf_81 : decode b_Mo_orderOf 81 = .ok (.aload_n 0, 1) := by decide +kernel
theorem d_Mo_orderOf_82 : decode b_Mo_orderOf 82 = .ok (.getfield 35, 3) := by decide +kernel
theorem d_Mo_orderOf_85 : decode b_Mo_orderOf 85 = .ok (.aload_n 0, 1) := by decide +kernel
theorem d_Mo_orderOf_86 : decode b_Mo_orderOf 86 = .ok (.getfield 29, 3) := by decide +kernel
theorem d_Mo_orderOf_89 : decode b_Mo_orderOf 89 = .ok (.invokestatic 131, 3) := by decide +kernel
theorem d_Mo_orderOf_92 : decode b_Mo_orderOf 92 = .ok (.aload_n 0, 1) := by decide +kernel
theorem d_Mo_orderOf_93 : decode b_Mo_orderOf 93 = .ok (.getfield 26, 3) := by decide +kernel
theorem d_Mo_orderOf_96 : decode b_Mo_orderOf 96 = .ok (.aload_n 0, 1) := by decide +kernel
theorem d_Mo_orderOf_97 : decode b_Mo_orderOf 97 = .ok (.getfield 29, 3) := by decide +kernel
theorem d_Mo_orderOf_100 : decode b_Mo_orderOf 100 = .ok (.invokestatic 69, 3) := by decide +kernel
theorem d_Mo_orderOf_103 : decode b_Mo_orderOf 103 = .ok (.aload_n 0, 1) := by decide +kernel
theorem d_Mo_orderOf_104 : decode b_Mo_orderOf 104 = .ok (.getfield 13, 3) := by decide +kernel
theorem d_Mo_orderOf_107 : decode b_Mo_orderOf 107 = .ok (.iload_n 1, 1) := by decide +kernel
theorem d_Mo_orderOf_108 : decode b_Mo_orderOf 108 = .ok (.iaload, 1) := by decide +kernel
theorem d_Mo_orderOf_109 : decode b_Mo_orderOf 109 = .ok (.ifCond .ge 7, 3) := by decide +kernel
theorem d_Mo_orderOf_112 : decode b_Mo_orderOf 112 = .ok (.iconst (-1), 1) := by decide +kernel
theorem d_Mo_orderOf_113 : decode b_Mo_orderOf 113 = .ok (.goto 4, 3) := by decide +kernel
theorem d_Mo_orderOf_116 : decode b_Mo_orderOf 116 = .ok (.iconst 1, 1) := by decide +kernel
theorem d_Mo_orderOf_117 : decode b_Mo_orderOf 117 = .ok (.imul, 1) := by decide +kernel
theorem d_Mo_orderOf_118 : decode b_Mo_orderOf 118 = .ok (.ireturn, 1) := by decide +kernel
theorem d_Mo_value_0 : decode b_Mo_value 0 = .ok (.iload_n 1, 1) := by decide +kernel
theorem d_Mo_value_1 : decode b_Mo_value 1 = .ok (.invokestatic 138, 3) := by decide +kernel
theorem d_Mo_value_4 : decode b_Mo_value 4 = .ok (.ifCond .ne 6, 3) := by decide +kernel
theorem d_Mo_value_7 : decode b_Mo_value 7 = .ok (.ldc 141, 2) := by decide +kernel
theorem d_Mo_value_9 : decode b_Mo_value 9 = .ok (.ireturn, 1) := by decide +kernel
theorem d_Mo_value_10 : decode b_Mo_value 10 = .ok (.lload 4, 2) := by decide +kernel
theorem d_Mo_value_12 : decode b_Mo_value 12 = .ok (.lconst 0, 1) := by decide +kernel
theorem d_Mo_value_13 : decode b_Mo_value 13 = .ok (.lcmp, 1) := by decide +kernel
theorem d_Mo_value_14 : decode b_Mo_value 14 = .ok (.ifCond .ne 9, 3) := by decide +kernel
theorem d_Mo_value_17 : decode b_Mo_value 17 = .ok (.aload_n 0, 1) := by decide +kernel
theorem d_Mo_value_18 : decode b_Mo_value 18 = .ok (.iconst 5, 1) := by decide +kernel
theorem d_Mo_value_19 : decode b_Mo_value 19 = .ok (.invokevirtual 106, 3) := by decide +kernel
theorem d_Mo_value_22 : decode b_Mo_value 22 = .ok (.ireturn, 1) := by decide +kernel
theorem d_Mo_value_23 : decode b_Mo_value 23 = .ok (.aload_n 0, 1) := by decide +kernel
theorem d_Mo_value_24 : decode b_Mo_value 24 = .ok (.getfield 26, 3) := by decide +kernel
theorem d_Mo_value_27 : decode b_Mo_value 27 = .ok (.lload_n 2, 1) := by decide +kernel
theorem d_Mo_value_28 : decode b_Mo_value 28 = .ok (.lconst 0, 1) := by decide +kernel
theorem d_Mo_value_29 : decode b_Mo_value 29 = .ok (.lcmp, 1) := by decide +kernel
theorem d_Mo_value_30 : decode b_Mo_value 30 = .ok (.ifCond .ge 8, 3) := by decide +kernel
theorem d_Mo_value_33 : decode b_Mo_value 33 = .ok (.lload_n 2, 1) := by decide +kernel
theorem d_Mo_value_34 : decode b_Mo_value 34 = .ok (.lneg, 1) := by decide +kernel
theorem d_Mo_value_35 : decode b_Mo_value 35 = .ok (.goto 4, 3) := by decide +kernel
theorem d_Mo_value_38 : decode b_Mo_value 38 = .ok (.lload_n 2, 1) := by decide +kernel
theorem d_Mo_value_39 : decode b_Mo_value 39 = .ok (.invokestatic 142, 3) := by decide +kernel
theorem d_Mo_value_42 : decode b_Mo_value 42 = .ok (.aload_n 0, 1) := by decide +kernel
theorem d_Mo_value_43 : decode b_Mo_value 43 = .ok (.getfield 29, 3) := by decide +kernel
theorem d_Mo_value_46 : decode b_Mo_value 46 = .ok (.lload 4, 2) := by decide +kernel
theorem d_Mo_value_48 : decode b_Mo_value 48 = .ok (.lconst 0, 1) := by decide +kernel
theorem d_Mo_value_49 : decode b_Mo_value 49 = .ok (.lcmp, 1) := by decide +kernel
theorem d_Mo_value_50 : decode b_Mo_value 50 = .ok (.ifCond .ge 9, 3) := by decide +kernel
theorem d_Mo_value_53 : decode b_Mo_value 53 = .ok (.lload 4, 2) := by decide +kernel
theorem d_Mo_value_55 : decode b_Mo_value 55 = .ok (.lneg, 1) := by decide +kernel
theorem d_Mo_value_56 : decode b_Mo_value 56 = .ok (.goto 5, 3) := by decide +kernel
theorem d_Mo_value_59 : decode b_Mo_value 59 = .ok (.lload 4, 2) := by decide +kernel
theorem d_Mo_value_61 : decode b_Mo_value 61 = .ok (.invokestatic 142, 3) := by decide +kernel
theorem d_Mo_value_64 : decode b_Mo_value 64 = .ok (.aload_n 0, 1) := by decide +kernel
theorem d_Mo_value_65 : decode b_Mo_value 65 = .ok (.lload_n 2, 1) := by decide +kernel
theorem d_Mo_value_66 : decode b_Mo_value 66 = .ok (.lconst 0, 1) := by decide +kernel
theorem d_Mo_value_67 : decode b_Mo_value 67 = .ok (.lcmp, 1) := by decide +kernel
theorem d_Mo_value_68 : decode b_Mo_value 68 = .ok (.ifCond .ge 7, 3) := by decide +kernel
theorem d_Mo_value_71 : decode b_Mo_value 71 = .ok (.iconst 1, 1) := by decide +kernel
theorem d_Mo_value_72 : decode b_Mo_value 72 = .ok (.goto 4, 3) := by decide +kernel
theorem d_Mo_value_75 : decode b_Mo_value 75 = .ok (.iconst 0, 1) := by decide +kernel
theorem d_Mo_value_76 : decode b_Mo_value 76 = .ok (.lload 4, 2) := by decide +kernel
theorem d_Mo_value_78 : decode b_Mo_value 78 = .ok (.lconst 0, 1) := by decide +kernel
theorem d_Mo_value_79 : decode b_Mo_value 79 = .ok (.lcmp, 1) := by decide +kernel
theorem d_Mo_value_80 : decode b_Mo_value 80 = .ok (.ifCond .ge 7, 3) := by decide +kernel
theorem d_Mo_value_83 : decode b_Mo_value 83 = .ok (.iconst 1, 1) := by decide +kernel
theorem d_Mo_value_84 : decode b_Mo_value 84 = .ok (.goto 4, 3) := by decide +kernel
theorem d_Mo_value_87 : decode b_Mo_value 87 = .ok (.iconst 0, 1) := by decide +kernel
theorem d_Mo_value_88 : decode b_Mo_value 88 = .ok (.if_icmp .ne 7, 3) := by decide +kernel
theorem d_Mo_value_91 : decode b_Mo_value 91 = .ok (.iconst 1, 1) := by decide +kernel
theorem d_Mo_value_92 : decode b_Mo_value 92 = .ok (.goto 4, 3) := by decide +kernel
theorem d_Mo_value_95 : decode b_Mo_value 95 = .ok (.iconst (-1), 1) := by decide +kernel
theorem d_Mo_value_96 : decode b_Mo_value 96 = .ok (.putfield 99, 3) := by decide +kernel
theorem d_Mo_value_99 : decode b_Mo_value 99 = .ok (.aload_n 0, 1) := by decide +kernel
theorem d_Mo_value_100 : decode b_Mo_value 100 = .ok (.iload_n 1, 1) := by decide +kernel
theorem d_Mo_value_101 : decode b_Mo_value 101 = .ok (.invokevirtual 146, 3) := by decide +kernel
theorem d_Mo_value_104 : decode b_Mo_value 104 = .ok (.ireturn, 1) := by decide +kernel
theorem d_Mo_copy_0 : decode b_Mo_copy 0 = .ok (.iload_n 1, 1) := by decide +kernel
theorem d_Mo_copy_1 : decode b_Mo_copy 1 = .ok (.invokestatic 138, 3) := by decide +kernel
theorem d_Mo_copy_4 : decode b_Mo_copy 4 = .ok (.ifCond .eq 10, 3) := by decide +kernel
theorem d_Mo_copy_7 : decode b_Mo_copy 7 = .ok (.iload_n 2, 1) := by decide +kernel
theorem d_Mo_copy_8 : decode b_Mo_copy 8 = .ok (.invokestatic 138, 3) := by decide +kernel
theorem d_Mo_copy_11 : decode b_Mo_copy 11 = .ok (.ifCond .ne 6, 3) := by decide +kernel
theorem d_Mo_copy_14 : decode b_Mo_copy 14 = .ok (.ldc 141, 2) := by decide +kernel
theorem d_Mo_copy_16 : decode b_Mo_copy 16 = .ok (.ireturn, 1) := by decide +kernel
theorem d_Mo_copy_17 : decode b_Mo_copy 17 = .ok (.aload_n 0, 1) := by decide +kernel
theorem d_Mo_copy_18 : decode b_Mo_copy 18 = .ok (.getfield 7, 3) := by decide +kernel
theorem d_Mo_copy_21 : decode b_Mo_copy 21 = .ok (.iload_n 2, 1) := by decide +kernel
theorem d_Mo_copy_22 : decode b_Mo_copy 22 = .ok (.baload, 1) := by decide +kernel
theorem d_Mo_copy_23 : decode b_Mo_copy 23 = .ok (.ifCond .ne 9, 3) := by decide +kernel
theorem d_Mo_copy_26 : decode b_Mo_copy 26 = .ok (.aload_n 0, 1) := by decide +kernel
theorem d_Mo_copy_27 : decode b_Mo_copy 27 = .ok (.iconst 1, 1) := by decide +kernel
theorem d_Mo_copy_28 : decode b_Mo_copy 28 = .ok (.invokevirtual 106, 3) := by decide +kernel
theorem d_Mo_copy_31 : decode b_Mo_copy 31 = .ok (.ireturn, 1) := by decide +kernel
theorem d_Mo_copy_32 : decode b_Mo_copy 32 = .ok (.aload_n 0, 1) := by decide +kernel
theorem d_Mo_copy_33 : decode b_Mo_copy 33 = .ok (.iload_n 2, 1) := by decide +kernel
theorem d_Mo_copy_34 : decode b_Mo_copy 34 = .ok (.iload_n 1, 1) := by decide +kernel
theorem d_Mo_copy_35 : decode b_Mo_copy 35 = .ok (.invokevirtual 149, 3) := by decide +kernel
theorem d_Mo_copy_38 : decode b_Mo_copy 38 = .ok (.aload_n 0, 1) := by decide +kernel
theorem d_Mo_copy_39 : decode b_Mo_copy 39 = .ok (.aload_n 0, 1) := by decide +kernel
theorem d_Mo_copy_40 : decode b_Mo_copy 40 = .ok (.getfield 13, 3) := by decide +kernel
theorem d_Mo_copy_43 : decode b_Mo_copy 43 = .ok (.iload_n 1, 1) := by decide +kernel
theorem d_Mo_copy_44 : decode b_Mo_copy 44 = .ok (.iaload, 1) := by decide +kernel
theorem d_Mo_copy_45 : decode b_Mo_copy 45 = .ok (.invokevirtual 116, 3) := by decide +kernel
theorem d_Mo_copy_48 : decode b_Mo_copy 48 = .ok (.ireturn, 1) := by decide +kernel
theorem d_Mo_nothing_0 : decode b_Mo_nothing 0 = .ok (.iload_n 1, 1) := by decide +kernel
theorem d_Mo_nothing_1 : decode b_Mo_nothing 1 = .ok (.invokestatic 138, 3) := by decide +kernel
theorem d_Mo_nothing_4 : decode b_Mo_nothing 4 = .ok (.ifCond .ne 6, 3) := by decide +kernel
theorem d_Mo_nothing_7 : decode b_Mo_nothing 7 = .ok (.ldc 141, 2) := by decide +kernel
theorem d_Mo_nothing_9 : decode b_Mo_nothing 9 = .ok (.ireturn, 1) := by decide +kernel
theorem d_Mo_nothing_10 : decode b_Mo_nothing 10 = .ok (.aload_n 0, 1) := by decide +kernel
theorem d_Mo_nothing_11 : decode b_Mo_nothing 11 = .ok (.getfield 7, 3) := by decide +kernel
theorem d_Mo_nothing_14 : decode b_Mo_nothing 14 = .ok (.iload_n 1, 1) := by decide +kernel
theorem d_Mo_nothing_15 : decode b_Mo_nothing 15 = .ok (.baload, 1) := by decide +kernel
theorem d_Mo_nothing_16 : decode b_Mo_nothing 16 = .ok (.ifCond .eq 7, 3) := by decide +kernel
theorem d_Mo_nothing_19 : decode b_Mo_nothing 19 = .ok (.iconst 1, 1) := by decide +kernel
theorem d_Mo_nothing_20 : decode b_Mo_nothing 20 = .ok (.goto 4, 3) := by decide +kernel
theorem d_Mo_nothing_23 : decode b_Mo_nothing 23 = .ok (.iconst 0, 1) := by decide +kernel
theorem d_Mo_nothing_24 : decode b_Mo_nothing 24 = .ok (.istore_n 2, 1) := by decide +kernel
theorem d_Mo_nothing_25 : decode b_Mo_nothing 25 = .ok (.aload_n 0, 1) := by decide +kernel
theorem d_Mo_nothing_26 : decode b_Mo_nothing 26 = .ok (.getfield 7, 3) := by decide +kernel
theorem d_Mo_nothing_29 : decode b_Mo_nothing 29 = .ok (.iload_n 1, 1) := by decide +kernel
theorem d_Mo_nothing_30 : decode b_Mo_nothing 30 = .ok (.iconst 0, 1) := by decide +kernel
theorem d_Mo_nothing_31 : decode b_Mo_nothing 31 = .ok (.bastore, 1) := by decide +kernel
theorem d_Mo_nothing_32 : decode b_Mo_nothing 32 = .ok (.iload_n 2, 1) := by decide +kernel
theorem d_Mo_nothing_33 : decode b_Mo_nothing 33 = .ok (.ireturn, 1) := by decide +kernel
theorem d_Mo_sign_0 : decode b_Mo_sign 0 = .ok (.iload_n 1, 1) := by decide +kernel
theorem d_Mo_sign_1 : decode b_Mo_sign 1 = .ok (.invokestatic 138, 3) := by decide +kernel
theorem d_Mo_sign_4 : decode b_Mo_sign 4 = .ok (.ifCond .ne 6, 3) := by decide +kernel
theorem d_Mo_sign_7 : decode b_Mo_sign 7 = .ok (.ldc 141, 2) := by decide +kernel
theorem d_Mo_sign_9 : decode b_Mo_sign 9 = .ok (.ireturn, 1) := by decide +kernel
theorem d_Mo_sign_10 : decode b_Mo_sign 10 = .ok (.aload_n 0, 1) := by decide +kernel
theorem d_Mo_sign_11 : decode b_Mo_sign 11 = .ok (.getfield 7, 3) := by decide +kernel
theorem d_Mo_sign_14 : decode b_Mo_sign 14 = .ok (.iload_n 1, 1) := by decide +kernel
theorem d_Mo_sign_15 : decode b_Mo_sign 15 = .ok (.baload, 1) := by decide +kernel
theorem d_Mo_sign_16 : decode b_Mo_sign 16 = .ok (.ifCond .eq 16, 3) := by decide +kernel
theorem d_Mo_sign_19 : decode b_Mo_sign 19 = .ok (.aload_n 0, 1) := by decide +kernel
theorem d_Mo_sign_20 : decode b_Mo_sign 20 = .ok (.aload_n 0, 1) := by decide +kernel
theorem d_Mo_sign_21 : decode b_Mo_sign 21 = .ok (.getfield 13, 3) := by decide +kernel
theorem d_Mo_sign_24 : decode b_Mo_sign 24 = .ok (.iload_n 1, 1) := by decide +kernel
theorem d_Mo_sign_25 : decode b_Mo_sign 25 = .ok (.iaload, 1) := by decide +kernel
theorem d_Mo_sign_26 : decode b_Mo_sign 26 = .ok (.invokevirtual 116, 3) := by decide +kernel
theorem d_Mo_sign_29 : decode b_Mo_sign 29 = .ok (.goto 8, 3) := by decide +kernel
theorem d_Mo_sign_32 : decode b_Mo_sign 32 = .ok (.aload_n 0, 1) := by decide +kernel
theorem d_Mo_sign_33 : decode b_Mo_sign 33 = .ok (.iconst 1, 1) := by decide +kernel
theorem d_Mo_sign_34 : decode b_Mo_sign 34 = .ok (.invokevirtual 106, 3) := by decide +kernel
theorem d_Mo_sign_37 : decode b_Mo_sign 37 = .ok (.ireturn, 1) := by decide +kernel
theorem d_Mo_small_0 : decode b_Mo_small 0 = .ok (.iload_n 1, 1) := by decide +kernel
theorem d_Mo_small_1 : decode b_Mo_small 1 = .ok (.invokestatic 138, 3) := by decide +kernel
theorem d_Mo_small_4 : decode b_Mo_small 4 = .ok (.ifCond .ne 6, 3) := by decide +kernel
theorem d_Mo_small_7 : decode b_Mo_small 7 = .ok (.ldc 141, 2) := by decide +kernel
theorem d_Mo_small_9 : decode b_Mo_small 9 = .ok (.ireturn, 1) := by decide +kernel
theorem d_Mo_small_10 : decode b_Mo_small 10 = .ok (.aload_n 0, 1) := by decide +kernel
theorem d_Mo_small_11 : decode b_Mo_small 11 = .ok (.getfield 7, 3) := by decide +kernel
theorem d_Mo_small_14 : decode b_Mo_small 14 = .ok (.iload_n 1, 1) := by decide +kernel
theorem d_Mo_small_15 : decode b_Mo_small 15 = .ok (.baload, 1) := by decide +kernel
theorem d_Mo_small_16 : decode b_Mo_small 16 = .ok (.ifCond .eq 23, 3) := by decide +kernel
theorem d_Mo_small_19 : decode b_Mo_small 19 = .ok (.aload_n 0, 1) := by decide +kernel
theorem d_Mo_small_20 : decode b_Mo_small 20 = .ok (.aload_n 0, 1) := by decide +kernel
theorem d_Mo_small_21 : decode b_Mo_small 21 = .ok (.iload_n 1, 1) := by decide +kernel
theorem d_Mo_small_22 : decode b_Mo_small 22 = .ok (.invokevirtual 113, 3) := by decide +kernel
theorem d_Mo_small_25 : decode b_Mo_small 25 = .ok (.ifCond .eq 7, 3) := by decide +kernel
theorem d_Mo_small_28 : decode b_Mo_small 28 = .ok (.iconst 1, 1) := by decide +kernel
theorem d_Mo_small_29 : decode b_Mo_small 29 = .ok (.goto 4, 3) := by decide +kernel
theorem d_Mo_small_32 : decode b_Mo_small 32 = .ok (.iconst 0, 1) := by decide +kernel
theorem d_Mo_small_33 : decode b_Mo_small 33 = .ok (.invokevirtual 116, 3) := by decide +kernel
theorem d_Mo_small_36 : decode b_Mo_small 36 = .ok (.goto 8, 3) := by decide +kernel
theorem d_Mo_small_39 : decode b_Mo_small 39 = .ok (.aload_n 0, 1) := by decide +kernel
theorem d_Mo_small_40 : decode b_Mo_small 40 = .ok (.iconst 1, 1) := by decide +kernel
theorem d_Mo_small_41 : decode b_Mo_small 41 = .ok (.invokevirtual 106, 3) := by decide +kernel
theorem d_Mo_small_44 : decode b_Mo_small 44 = .ok (.ireturn, 1) := by decide +kernel
theorem d_Mo_order_0 : decode b_Mo_order 0 = .ok (.iload_n 1, 1) := by decide +kernel
theorem d_Mo_order_1 : decode b_Mo_order 1 = .ok (.invokestatic 138, 3) := by decide +kernel
theorem d_Mo_order_4 : decode b_Mo_order 4 = .ok (.ifCond .eq 10, 3) := by decide +kernel
theorem d_Mo_order_7 : decode b_Mo_order 7 = .ok (.iload_n 2, 1) := by decide +kernel
theorem d_Mo_order_8 : decode b_Mo_order 8 = .ok (.invokestatic 138, 3) := by decide +kernel
theorem d_Mo_order_11 : decode b_Mo_order 11 = .ok (.ifCond .ne 6, 3) := by decide +kernel
theorem d_Mo_order_14 : decode b_Mo_order 14 = .ok (.ldc 141, 2) := by decide +kernel
theorem d_Mo_order_16 : decode b_Mo_order 16 = .ok (.ireturn, 1) := by decide +kernel
theorem d_Mo_order_17 : decode b_Mo_order 17 = .ok (.aload_n 0, 1) := by decide +kernel
theorem d_Mo_order_18 : decode b_Mo_order 18 = .ok (.getfield 7, 3) := by decide +kernel
theorem d_Mo_order_21 : decode b_Mo_order 21 = .ok (.iload_n 1, 1) := by decide +kernel
theorem d_Mo_order_22 : decode b_Mo_order 22 = .ok (.baload, 1) := by decide +kernel
theorem d_Mo_order_23 : decode b_Mo_order 23 = .ok (.ifCond .eq 25, 3) := by decide +kernel
theorem d_Mo_order_26 : decode b_Mo_order 26 = .ok (.aload_n 0, 1) := by decide +kernel
theorem d_Mo_order_27 : decode b_Mo_order 27 = .ok (.getfield 7, 3) := by decide +kernel
theorem d_Mo_order_30 : decode b_Mo_order 30 = .ok (.iload_n 2, 1) := by decide +kernel
theorem d_Mo_order_31 : decode b_Mo_order 31 = .ok (.baload, 1) := by decide +kernel
theorem d_Mo_order_32 : decode b_Mo_order 32 = .ok (.ifCond .eq 16, 3) := by decide +kernel
theorem d_Mo_order_35 : decode b_Mo_order 35 = .ok (.aload_n 0, 1) := by decide +kernel
theorem d_Mo_order_36 : decode b_Mo_order 36 = .ok (.aload_n 0, 1) := by decide +kernel
theorem d_Mo_order_37 : decode b_Mo_order 37 = .ok (.iload_n 1, 1) := by decide +kernel
theorem d_Mo_order_38 : decode b_Mo_order 38 = .ok (.iload_n 2, 1) := by decide +kernel
theorem d_Mo_order_39 : decode b_Mo_order 39 = .ok (.invokevirtual 165, 3) := by decide +kernel
theorem d_Mo_order_42 : decode b_Mo_order 42 = .ok (.invokevirtual 116, 3) := by decide +kernel
theorem d_Mo_order_45 : decode b_Mo_order 45 = .ok (.goto 8, 3) := by decide +kernel
theorem d_Mo_order_48 : decode b_Mo_order 48 = .ok (.aload_n 0, 1) := by decide +kernel
theorem d_Mo_order_49 : decode b_Mo_order 49 = .ok (.iconst 1, 1) := by decide +kernel
theorem d_Mo_order_50 : decode b_Mo_order 50 = .ok (.invokevirtual 106, 3) := by decide +kernel
theorem d_Mo_order_53 : decode b_Mo_order 53 = .ok (.ireturn, 1) := by decide +kernel
theorem d_Mo_isWhole_0 : decode b_Mo_isWhole 0 = .ok (.aload_n 0, 1) := by decide +kernel
theorem d_Mo_isWhole_1 : decode b_Mo_isWhole 1 = .ok (.iload_n 1, 1) := by decide +kernel
theorem d_Mo_isWhole_2 : decode b_Mo_isWhole 2 = .ok (.aload_n 0, 1) := by decide +kernel
theorem d_Mo_isWhole_3 : decode b_Mo_isWhole 3 = .ok (.getfield 32, 3) := by decide +kernel
theorem d_Mo_isWhole_6 : decode b_Mo_isWhole 6 = .ok (.aload_n 0, 1) := by decide +kernel
theorem d_Mo_isWhole_7 : decode b_Mo_isWhole 7 = .ok (.getfield 35, 3) := by decide +kernel
theorem d_Mo_isWhole_10 : decode b_Mo_isWhole 10 = .ok (.invokevirtual 119, 3) := by decide +kernel
theorem d_Mo_isWhole_13 : decode b_Mo_isWhole 13 = .ok (.aload_n 0, 1) := by decide +kernel
theorem d_Mo_isWhole_14 : decode b_Mo_isWhole 14 = .ok (.getfield 35, 3) := by decide +kernel
theorem d_Mo_isWhole_17 : decode b_Mo_isWhole 17 = .ok (.invokestatic 65, 3) := by decide +kernel
theorem d_Mo_isWhole_20 : decode b_Mo_isWhole 20 = .ok (.iconst 1, 1) := by decide +kernel
theorem d_Mo_isWhole_21 : decode b_Mo_isWhole 21 = .ok (.if_icmp .ne 7, 3) := by decide +kernel
theorem d_Mo_isWhole_24 : decode b_Mo_isWhole 24 = .ok (.iconst 1, 1) := by decide +kernel
theorem d_Mo_isWhole_25 : decode b_Mo_isWhole 25 = .ok (.goto 4, 3) := by decide +kernel
theorem d_Mo_isWhole_28 : decode b_Mo_isWhole 28 = .ok (.iconst 0, 1) := by decide +kernel
theorem d_Mo_isWhole_29 : decode b_Mo_isWhole 29 = .ok (.ireturn, 1) := by decide +kernel
theorem d_Mo_common_0 : decode b_Mo_common 0 = .ok (.iload_n 1, 1) := by decide +kernel
theorem d_Mo_common_1 : decode b_Mo_common 1 = .ok (.invokestatic 138, 3) := by decide +kernel
theorem d_Mo_common_4 : decode b_Mo_common 4 = .ok (.ifCond .eq 17, 3) := by decide +kernel
theorem d_Mo_common_7 : decode b_Mo_common 7 = .ok (.iload_n 2, 1) := by decide +kernel
theorem d_Mo_common_8 : decode b_Mo_common 8 = .ok (.invokestatic 138, 3) := by decide +kernel
theorem d_Mo_common_11 : decode b_Mo_common 11 = .ok (.ifCond .eq 10, 3) := by decide +kernel
theorem d_Mo_common_14 : decode b_Mo_common 14 = .ok (.iload_n 3, 1) := by decide +kernel
theorem d_Mo_common_15 : decode b_Mo_common 15 = .ok (.invokestatic 138, 3) := by decide +kernel
theorem d_Mo_common_18 : decode b_Mo_common 18 = .ok (.ifCond .ne 6, 3) := by decide +kernel
theorem d_Mo_common_21 : decode b_Mo_common 21 = .ok (.ldc 141, 2) := by decide +kernel
theorem d_Mo_common_23 : decode b_Mo_common 23 = .ok (.ireturn, 1) := by decide +kernel
theorem d_Mo_common_24 : decode b_Mo_common 24 = .ok (.aload_n 0, 1) := by decide +kernel
theorem d_Mo_common_25 : decode b_Mo_common 25 = .ok (.getfield 7, 3) := by decide +kernel
theorem d_Mo_common_28 : decode b_Mo_common 28 = .ok (.iload_n 2, 1) := by decide +kernel
theorem d_Mo_common_29 : decode b_Mo_common 29 = .ok (.baload, 1) := by decide +kernel
theorem d_Mo_common_30 : decode b_Mo_common 30 = .ok (.ifCond .eq 12, 3) := by decide +kernel
theorem d_Mo_common_33 : decode b_Mo_common 33 = .ok (.aload_n 0, 1) := by decide +kernel
theorem d_Mo_common_34 : decode b_Mo_common 34 = .ok (.getfield 7, 3) := by decide +kernel
theorem d_Mo_common_37 : decode b_Mo_common 37 = .ok (.iload_n 3, 1) := by decide +kernel
theorem d_Mo_common_38 : decode b_Mo_common 38 = .ok (.baload, 1) := by decide +kernel
theorem d_Mo_common_39 : decode b_Mo_common 39 = .ok (.ifCond .ne 9, 3) := by decide +kernel
theorem d_Mo_common_42 : decode b_Mo_common 42 = .ok (.aload_n 0, 1) := by decide +kernel
theorem d_Mo_common_43 : decode b_Mo_common 43 = .ok (.iconst 1, 1) := by decide +kernel
theorem d_Mo_common_44 : decode b_Mo_common 44 = .ok (.invokevirtual 106, 3) := by decide +kernel
theorem d_Mo_common_47 : decode b_Mo_common 47 = .ok (.ireturn, 1) := by decide +kernel
theorem d_Mo_common_48 : decode b_Mo_common 48 = .ok (.aload_n 0, 1) := by decide +kernel
theorem d_Mo_common_49 : decode b_Mo_common 49 = .ok (.iload_n 2, 1) := by decide +kernel
theorem d_Mo_common_50 : decode b_Mo_common 50 = .ok (.invokevirtual 175, 3) := by decide +kernel
theorem d_Mo_common_53 : decode b_Mo_common 53 = .ok (.ifCond .eq 11, 3) := by decide +kernel
theorem d_Mo_common_56 : decode b_Mo_common 56 = .ok (.aload_n 0, 1) := by decide +kernel
theorem d_Mo_common_57 : decode b_Mo_common 57 = .ok (.iload_n 3, 1) := by decide +kernel
theorem d_Mo_common_58 : decode b_Mo_common 58 = .ok (.invokevirtual 175, 3) := by decide +kernel
theorem d_Mo_common_61 : decode b_Mo_common 61 = .ok (.ifCond .ne 9, 3) := by decide +kernel
theorem d_Mo_common_64 : decode b_Mo_common 64 = .ok (.aload_n 0, 1) := by decide +kernel
theorem d_Mo_common_65 : decode b_Mo_common 65 = .ok (.iconst 2, 1) := by decide +kernel
theorem d_Mo_common_66 : decode b_Mo_common 66 = .ok (.invokevirtual 106, 3) := by decide +kernel
theorem d_Mo_common_69 : decode b_Mo_common 69 = .ok (.ireturn, 1) := by decide +kernel
theorem d_Mo_common_70 : decode b_Mo_common 70 = .ok (.aload_n 0, 1) := by decide +kernel
theorem d_Mo_common_71 : decode b_Mo_common 71 = .ok (.iload_n 2, 1) := by decide +kernel
theorem d_Mo_common_72 : decode b_Mo_common 72 = .ok (.aload_n 0, 1) := by decide +kernel
theorem d_Mo_common_73 : decode b_Mo_common 73 = .ok (.getfield 26, 3) := by decide +kernel
theorem d_Mo_common_76 : decode b_Mo_common 76 = .ok (.aload_n 0, 1) := by decide +kernel
theorem d_Mo_common_77 : decode b_Mo_common 77 = .ok (.getfield 35, 3) := by decide +kernel
theorem d_Mo_common_80 : decode b_Mo_common 80 = .ok (.invokevirtual 119, 3) := by decide +kernel
theorem d_Mo_common_83 : decode b_Mo_common 83 = .ok (.aload_n 0, 1) := by decide +kernel
theorem d_Mo_common_84 : decode b_Mo_common 84 = .ok (.iload_n 3, 1) := by decide +kernel
theorem d_Mo_common_85 : decode b_Mo_common 85 = .ok (.aload_n 0, 1) := by decide +kernel
theorem d_Mo_common_86 : decode b_Mo_common 86 = .ok (.getfield 32, 3) := by decide +kernel
theorem d_Mo_common_89 : decode b_Mo_common 89 = .ok (.aload_n 0, 1) := by decide +kernel
theorem d_Mo_common_90 : decode b_Mo_common 90 = .ok (.getfield 35, 3) := by decide +kernel
theorem d_Mo_common_93 : decode b_Mo_common 93 = .ok (.invokevirtual 119, 3) := by decide +kernel
theorem d_Mo_common_96 : decode b_Mo_common 96 = .ok (.aload_n 0, 1) := by decide +kernel
theorem d_Mo_common_97 : decode b_Mo_common 97 = .ok (.getfield 26, 3) := by decide +kernel
theorem d_Mo_common_100 : decode b_Mo_common 100 = .ok (.aload_n 0, 1) := by decide +kernel
theorem d_Mo_common_101 : decode b_Mo_common 101 = .ok (.getfield 32, 3) := by decide +kernel
theorem d_Mo_common_104 : decode b_Mo_common 104 = .ok (.invokestatic 93, 3) := by decide +kernel
theorem d_Mo_common_107 : decode b_Mo_common 107 = .ok (.aload_n 0, 1) := by decide +kernel
theorem d_Mo_common_108 : decode b_Mo_common 108 = .ok (.getfield 29, 3) := by decide +kernel
theorem d_Mo_common_111 : decode b_Mo_common 111 = .ok (.lconst 1, 1) := by decide +kernel
theorem d_Mo_common_112 : decode b_Mo_common 112 = .ok (.invokestatic 142, 3) := by decide +kernel
theorem d_Mo_common_115 : decode b_Mo_common 115 = .ok (.aload_n 0, 1) := by decide +kernel
theorem d_Mo_common_116 : decode b_Mo_common 116 = .ok (.iconst 1, 1) := by decide +kernel
theorem d_Mo_common_117 : decode b_Mo_common 117 = .ok (.putfield 99, 3) := by decide +kernel
theorem d_Mo_common_120 : decode b_Mo_common 120 = .ok (.aload_n 0, 1) := by decide +kernel
theorem d_Mo_common_121 : decode b_Mo_common 121 = .ok (.iload_n 1, 1) := by decide +kernel
theorem d_Mo_common_122 : decode b_Mo_common 122 = .ok (.invokevirtual 146, 3) := by decide +kernel
theorem d_Mo_common_125 : decode b_Mo_common 125 = .ok (.ireturn, 1) := by decide +kernel
theorem d_Mo_work_0 : decode b_Mo_work 0 = .ok (.iload_n 1, 1) := by decide +kernel
theorem d_Mo_work_1 : decode b_Mo_work 1 = .ok (.i2l, 1) := by decide +kernel
theorem d_Mo_work_2 : decode b_Mo_work 2 = .ok (.lconst 0, 1) := by decide +kernel
theorem d_Mo_work_3 : decode b_Mo_work 3 = .ok (.ldc2_w 153, 3) := by decide +kernel
theorem d_Mo_work_6 : decode b_Mo_work 6 = .ok (.invokestatic 125, 3) := by decide +kernel
theorem d_Mo_work_9 : decode b_Mo_work 9 = .ok (.ifCond .eq 25, 3) := by decide +kernel
theorem d_Mo_work_12 : decode b_Mo_work 12 = .ok (.iload_n 2, 1) := by decide +kernel
theorem d_Mo_work_13 : decode b_Mo_work 13 = .ok (.invokestatic 138, 3) := by decide +kernel
theorem d_Mo_work_16 : decode b_Mo_work 16 = .ok (.ifCond .eq 18, 3) := by decide +kernel
theorem d_Mo_work_19 : decode b_Mo_work 19 = .ok (.iload_n 3, 1) := by decide +kernel
theorem d_Mo_work_20 : decode b_Mo_work 20 = .ok (.invokestatic 138, 3) := by decide +kernel
theorem d_Mo_work_23 : decode b_Mo_work 23 = .ok (.ifCond .eq 11, 3) := by decide +kernel
theorem d_Mo_work_26 : decode b_Mo_work 26 = .ok (.iload 4, 2) := by decide +kernel
theorem d_Mo_work_28 : decode b_Mo_work 28 = .ok (.invokestatic 138, 3) := by decide +kernel
theorem d_Mo_work_31 : decode b_Mo_work 31 = .ok (.ifCond .ne 6, 3) := by decide +kernel
theorem d_Mo_work_34 : decode b_Mo_work 34 = .ok (.ldc 141, 2) := by decide +kernel
theorem d_Mo_work_36 : decode b_Mo_work 36 = .ok (.ireturn, 1) := by decide +kernel
theorem d_Mo_work_37 : decode b_Mo_work 37 = .ok (.aload_n 0, 1) := by decide +kernel
theorem d_Mo_work_38 : decode b_Mo_work 38 = .ok (.getfield 7, 3) := by decide +kernel
theorem d_Mo_work_41 : decode b_Mo_work 41 = .ok (.iload_n 3, 1) := by decide +kernel
theorem d_Mo_work_42 : decode b_Mo_work 42 = .ok (.baload, 1) := by decide +kernel
theorem d_Mo_work_43 : decode b_Mo_work 43 = .ok (.ifCond .eq 13, 3) := by decide +kernel
theorem d_Mo_work_46 : decode b_Mo_work 46 = .ok (.aload_n 0, 1) := by decide +kernel
theorem d_Mo_work_47 : decode b_Mo_work 47 = .ok (.getfield 7, 3) := by decide +kernel
theorem d_Mo_work_50 : decode b_Mo_work 50 = .ok (.iload 4, 2) := by decide +kernel
theorem d_Mo_work_52 : decode b_Mo_work 52 = .ok (.baload, 1) := by decide +kernel
theorem d_Mo_work_53 : decode b_Mo_work 53 = .ok (.ifCond .ne 9, 3) := by decide +kernel
theorem d_Mo_work_56 : decode b_Mo_work 56 = .ok (.aload_n 0, 1) := by decide +kernel
theorem d_Mo_work_57 : decode b_Mo_work 57 = .ok (.iconst 1, 1) := by decide +kernel
theorem d_Mo_work_58 : decode b_Mo_work 58 = .ok (.invokevirtual 106, 3) := by decide +kernel
theorem d_Mo_work_61 : decode b_Mo_work 61 = .ok (.ireturn, 1) := by decide +kernel
theorem d_Mo_work_62 : decode b_Mo_work 62 = .ok (.iload_n 1, 1) := by decide +kernel
theorem d_Mo_work_63 : decode b_Mo_work 63 = .ok (.iconst 3, 1) := by decide +kernel
theorem d_Mo_work_64 : decode b_Mo_work 64 = .ok (.if_icmp .ne 19, 3) := by decide +kernel
theorem d_Mo_work_67 : decode b_Mo_work 67 = .ok (.aload_n 0, 1) := by decide +kernel
theorem d_Mo_work_68 : decode b_Mo_work 68 = .ok (.getfield 13, 3) := by decide +kernel
theorem d_Mo_work_71 : decode b_Mo_work 71 = .ok (.iload 4, 2) := by decide +kernel
theorem d_Mo_work_73 : decode b_Mo_work 73 = .ok (.iaload, 1) := by decide +kernel
theorem d_Mo_work_74 : decode b_Mo_work 74 = .ok (.ifCond .ne 9, 3) := by decide +kernel
theorem d_Mo_work_77 : decode b_Mo_work 77 = .ok (.aload_n 0, 1) := by decide +kernel
theorem d_Mo_work_78 : decode b_Mo_work 78 = .ok (.iconst 5, 1) := by decide +kernel
theorem d_Mo_work_79 : decode b_Mo_work 79 = .ok (.invokevirtual 106, 3) := by decide +kernel
theorem d_Mo_work_82 : decode b_Mo_work 82 = .ok (.ireturn, 1) := by decide +kernel
theorem d_Mo_work_83 : decode b_Mo_work 83 = .ok (.iload_n 1, 1) := by decide +kernel
theorem d_Mo_work_84 : decode b_Mo_work 84 = .ok (.ifCond .eq 8, 3) := by decide +kernel
theorem d_Mo_work_87 : decode b_Mo_work 87 = .ok (.iload_n 1, 1) := by decide +kernel
theorem d_Mo_work_88 : decode b_Mo_work 88 = .ok (.iconst 1, 1) := by decide +kernel
theorem d_Mo_work_89 : decode b_Mo_work 89 = .ok (.if_icmp .ne 22, 3) := by decide +kernel
theorem d_Mo_work_92 : decode b_Mo_work 92 = .ok (.aload_n 0, 1) := by decide +kernel
theorem d_Mo_work_93 : decode b_Mo_work 93 = .ok (.iload_n 3, 1) := by decide +kernel
theorem d_Mo_work_94 : decode b_Mo_work 94 = .ok (.iload 4, 2) := by decide +kernel
theorem d_Mo_work_96 : decode b_Mo_work 96 = .ok (.iload_n 1, 1) := by decide +kernel
theorem d_Mo_work_97 : decode b_Mo_work 97 = .ok (.ifCond .ne 7, 3) := by decide +kernel
theorem d_Mo_work_100 : decode b_Mo_work 100 = .ok (.iconst 1, 1) := by decide +kernel
theorem d_Mo_work_101 : decode b_Mo_work 101 = .ok (.goto 4, 3) := by decide +kernel
theorem d_Mo_work_104 : decode b_Mo_work 104 = .ok (.iconst (-1), 1) := by decide +kernel
theorem d_Mo_work_105 : decode b_Mo_work 105 = .ok (.invokevirtual 155, 3) := by decide +kernel
theorem d_Mo_work_108 : decode b_Mo_work 108 = .ok (.goto 94, 3) := by decide +kernel
theorem d_Mo_work_111 : decode b_Mo_work 111 = .ok (.iload_n 1, 1) := by decide +kernel
theorem d_Mo_work_112 : decode b_Mo_work 112 = .ok (.iconst 2, 1) := by decide +kernel
theorem d_Mo_work_113 : decode b_Mo_work 113 = .ok (.if_icmp .ne 13, 3) := by decide +kernel
theorem d_Mo_work_116 : decode b_Mo_work 116 = .ok (.aload_n 0, 1) := by decide +kernel
theorem d_Mo_work_117 : decode b_Mo_work 117 = .ok (.iload_n 3, 1) := by decide +kernel
theorem d_Mo_work_118 : decode b_Mo_work 118 = .ok (.iload 4, 2) := by decide +kernel
theorem d_Mo_work_120 : decode b_Mo_work 120 = .ok (.invokevirtual 159, 3) := by decide +kernel
theorem d_Mo_work_123 : decode b_Mo_work 123 = .ok (.goto 79, 3) := by decide +kernel
theorem d_Mo_work_126 : decode b_Mo_work 126 = .ok (.iload_n 1, 1) := by decide +kernel
theorem d_Mo_work_127 : decode b_Mo_work 127 = .ok (.iconst 3, 1) := by decide +kernel
theorem d_Mo_work_128 : decode b_Mo_work 128 = .ok (.if_icmp .ne 13, 3) := by decide +kernel
theorem d_Mo_work_131 : decode b_Mo_work 131 = .ok (.aload_n 0, 1) := by decide +kernel
theorem d_Mo_work_132 : decode b_Mo_work 132 = .ok (.iload_n 3, 1) := by decide +kernel
theorem d_Mo_work_133 : decode b_Mo_work 133 = .ok (.iload 4, 2) := by decide +kernel
theorem d_Mo_work_135 : decode b_Mo_work 135 = .ok (.invokevirtual 162, 3) := by decide +kernel
theorem d_Mo_work_138 : decode b_Mo_work 138 = .ok (.goto 64, 3) := by decide +kernel
theorem d_Mo_work_141 : decode b_Mo_work 141 = .ok (.aload_n 0, 1) := by decide +kernel
theorem d_Mo_work_142 : decode b_Mo_work 142 = .ok (.iload_n 3, 1) := by decide +kernel
theorem d_Mo_work_143 : decode b_Mo_work 143 = .ok (.iload 4, 2) := by decide +kernel
theorem d_Mo_work_145 : decode b_Mo_work 145 = .ok (.invokevirtual 165, 3) := by decide +kernel
theorem d_Mo_work_148 : decode b_Mo_work 148 = .ok (.ifCond .gt 7, 3) := by decide +kernel
theorem d_Mo_work_151 : decode b_Mo_work 151 = .ok (.iconst 1, 1) := by decide +kernel
theorem d_Mo_work_152 : decode b_Mo_work 152 = .ok (.goto 4, 3) := by decide +kernel
theorem d_Mo_work_155 : decode b_Mo_work 155 = .ok (.iconst 0, 1) := by decide +kernel
theorem d_Mo_work_156 : decode b_Mo_work 156 = .ok (.iload_n 1, 1) := by decide +kernel
theorem d_Mo_work_157 : decode b_Mo_work 157 = .ok (.iconst 4, 1) := by decide +kernel
theorem d_Mo_work_158 : decode b_Mo_work 158 = .ok (.if_icmp .ne 7, 3) := by decide +kernel
theorem d_Mo_work_161 : decode b_Mo_work 161 = .ok (.iconst 1, 1) := by decide +kernel
theorem d_Mo_work_162 : decode b_Mo_work 162 = .ok (.goto 4, 3) := by decide +kernel
theorem d_Mo_work_165 : decode b_Mo_work 165 = .ok (.iconst 0, 1) := by decide +kernel
theorem d_Mo_work_166 : decode b_Mo_work 166 = .ok (.if_icmp .ne 7, 3) := by decide +kernel
theorem d_Mo_work_169 : decode b_Mo_work 169 = .ok (.iload_n 3, 1) := by decide +kernel
theorem d_Mo_work_170 : decode b_Mo_work 170 = .ok (.goto 5, 3) := by decide +kernel
theorem d_Mo_work_173 : decode b_Mo_work 173 = .ok (.iload 4, 2) := by decide +kernel
theorem d_Mo_work_175 : decode b_Mo_work 175 = .ok (.istore 5, 2) := by decide +kernel
theorem d_Mo_work_177 : decode b_Mo_work 177 = .ok (.aload_n 0, 1) := by decide +kernel
theorem d_Mo_work_178 : decode b_Mo_work 178 = .ok (.iload 5, 2) := by decide +kernel
theorem d_Mo_work_180 : decode b_Mo_work 180 = .ok (.aload_n 0, 1) := by decide +kernel
theorem d_Mo_work_181 : decode b_Mo_work 181 = .ok (.getfield 26, 3) := by decide +kernel
theorem d_Mo_work_184 : decode b_Mo_work 184 = .ok (.aload_n 0, 1) := by decide +kernel
theorem d_Mo_work_185 : decode b_Mo_work 185 = .ok (.getfield 29, 3) := by decide +kernel
theorem d_Mo_work_188 : decode b_Mo_work 188 = .ok (.invokevirtual 119, 3) := by decide +kernel
theorem d_Mo_work_191 : decode b_Mo_work 191 = .ok (.aload_n 0, 1) := by decide +kernel
theorem d_Mo_work_192 : decode b_Mo_work 192 = .ok (.aload_n 0, 1) := by decide +kernel
theorem d_Mo_work_193 : decode b_Mo_work 193 = .ok (.getfield 13, 3) := by decide +kernel
theorem d_Mo_work_196 : decode b_Mo_work 196 = .ok (.iload 5, 2) := by decide +kernel
theorem d_Mo_work_198 : decode b_Mo_work 198 = .ok (.iaload, 1) := by decide +kernel
theorem d_Mo_work_199 : decode b_Mo_work 199 = .ok (.putfield 99, 3) := by decide +kernel
theorem d_Mo_work_202 : decode b_Mo_work 202 = .ok (.aload_n 0, 1) := by decide +kernel
theorem d_Mo_work_203 : decode b_Mo_work 203 = .ok (.iload_n 2, 1) := by decide +kernel
theorem d_Mo_work_204 : decode b_Mo_work 204 = .ok (.invokevirtual 146, 3) := by decide +kernel
theorem d_Mo_work_207 : decode b_Mo_work 207 = .ok (.ireturn, 1) := by decide +kernel
theorem d_Mo_code_0 : decode b_Mo_code 0 = .ok (.aload_n 0, 1) := by decide +kernel
theorem d_Mo_code_1 : decode b_Mo_code 1 = .ok (.getfield 50, 3) := by decide +kernel
theorem d_Mo_code_4 : decode b_Mo_code 4 = .ok (.ireturn, 1) := by decide +kernel
theorem d_Mo_grown_0 : decode b_Mo_grown 0 = .ok (.aload_n 0, 1) := by decide +kernel
theorem d_Mo_grown_1 : decode b_Mo_grown 1 = .ok (.getfield 110, 3) := by decide +kernel
theorem d_Mo_grown_4 : decode b_Mo_grown 4 = .ok (.ireturn, 1) := by decide +kernel

theorem c_Mo_sumOf (l : Launch) {g : Gh} (nx : Nat) {a b : Nat} {x y : Qf} {P : Nat} {E0 : Nat → Option Qf} {pl : Nat → Int32} {c n ts : Int32} {t : Nat → Nat} (hV : MV g P E0 pl c n ts t) (ha : a < 58) (hb : b < 58) (hx : E0 a = some x) (hy : E0 b = some y) (kx : QK x) (ky : QK y) (bs : Int32) (hbs : bs = 1 ∨ bs = -1) : Ct l m_Mo_sumOf 0 0 [.ref P, .int (nI a), .int (nI b), .int bs] g nx (fun r g' nx' => r = none ∧ nx = nx' ∧ gW g g' P (P + 14) ∧ ∃ t' ts', MV g' P E0 pl c n ts' t' ∧ mk ts' (t' 6) (t' 7) = addQ x y (y.1 * bs) ∧ t' 7 = x.2.2 * y.2.2) := by
  have h0 := hV.1
  obtain ⟨-, -, ⟨sn, A, B, h2, -, -, -, -, b6⟩, -⟩ := id hV
  have sx := (b6 a ha x hx).1
  have sy := (b6 b hb y hy).1
  have e56 : 65536 ^ 32 * 4 ≤ 65536 ^ 56 := by decide
  have isy : isS (y.1 * bs) y.2.1 := by
    rcases hbs with q | q
    · rw [q, Int32.mul_one]; exact ky.1.1
    · rw [q, Int32.mul_neg, Int32.mul_one]; exact isS_neg ky.1.1
  have iX := isS_mulR kx.1.1 ky.1.2.2
  have iY := isS_mulR isy kx.1.2.2
  have wX := w816 kx.2.1 ky.2.2
  have wY := w816 ky.2.1 kx.2.2
  have wB := w816 kx.2.2 ky.2.2
  refine Ct.of (by decide) (Nat.le_of_ble_eq_true rfl) (fun E hE hQ => ?_)
  refine z_aload_n hE d_Mo_sumOf_0 rfl ?_
  refine z_iload_n hE d_Mo_sumOf_1 rfl ?_
  refine z_aload_n hE d_Mo_sumOf_2 rfl ?_
  refine z_get hE d_Mo_sumOf_3 fl_Mo_32 (by assumption) rfl ?_
  refine z_aload_n hE d_Mo_sumOf_6 rfl ?_
  refine z_get hE d_Mo_sumOf_7 fl_Mo_35 (by assumption) rfl ?_
  refine z_callV hE d_Mo_sumOf_10 cl_Mo_119 (c_Mo_take l nx (i := 8) (j := 9) hV ha hx (by omega) (by omega) (by omega) (by omega) (by omega)) (by assumption) cb_Mo rfl (Nat.le_of_ble_eq_true rfl) ⟨by decide, by decide⟩ ⟨by omega, by omega⟩ (fun r_1 g_1 nx_1 hp_1 => ?_) rfl
  try dsimp only [Option.toList, List.nil_append, List.cons_append]
  obtain ⟨rfl, rfl, V1, G1⟩ := hp_1
  try dsimp only [Option.toList, List.nil_append, List.cons_append]
  have m1 := V1.1
  have W1 : gW g g_1 P (P + 14) := gW_t gW_r (g2_W G1 (by omega) (by omega) (by omega) (by omega))
  refine z_aload_n hE d_Mo_sumOf_13 rfl ?_
  refine z_iload_n hE d_Mo_sumOf_14 rfl ?_
  refine z_aload_n hE d_Mo_sumOf_15 rfl ?_
  refine z_get hE d_Mo_sumOf_16 fl_Mo_38 (by assumption) rfl ?_
  refine z_aload_n hE d_Mo_sumOf_19 rfl ?_
  refine z_get hE d_Mo_sumOf_20 fl_Mo_41 (by assumption) rfl ?_
  refine z_callV hE d_Mo_sumOf_23 cl_Mo_119 (c_Mo_take l nx (i := 10) (j := 11) V1 hb hy (by omega) (by omega) (by omega) (by omega) (by omega)) (by assumption) cb_Mo rfl (Nat.le_of_ble_eq_true rfl) ⟨by decide, by decide⟩ ⟨by omega, by omega⟩ (fun r_2 g_2 nx_2 hp_2 => ?_) rfl
  try dsimp only [Option.toList, List.nil_append, List.cons_append]
  obtain ⟨rfl, rfl, V2, G2⟩ := hp_2
  try dsimp only [Option.toList, List.nil_append, List.cons_append]
  have m2 := V2.1
  have W2 : gW g g_2 P (P + 14) := gW_t W1 (g2_W G2 (by omega) (by omega) (by omega) (by omega))
  have A8 : MA g_2 (P + 8) x.2.1 := MV_m V2 8 (by omega) (by omega)
  have A9 : MA g_2 (P + 9) x.2.2 := MV_m V2 9 (by omega) (by omega)
  have A10 : MA g_2 (P + 10) y.2.1 := MV_m V2 10 (by omega) (by omega)
  have A11 : MA g_2 (P + 11) y.2.2 := MV_m V2 11 (by omega) (by omega)
  refine z_aload_n hE d_Mo_sumOf_26 rfl ?_
  refine z_get hE d_Mo_sumOf_27 fl_Mo_35 (by assumption) rfl ?_
  refine z_aload_n hE d_Mo_sumOf_30 rfl ?_
  refine z_get hE d_Mo_sumOf_31 fl_Mo_41 (by assumption) rfl ?_
  refine z_aload_n hE d_Mo_sumOf_34 rfl ?_
  refine z_get hE d_Mo_sumOf_35 fl_Mo_29 (by assumption) rfl ?_
  refine z_callS hE d_Mo_sumOf_38 cl_Mo_131 (c_Mo_multiply l nx A9 A11 (MV_m V2 7 (by omega) (by omega)) (by omega) (by omega) (by omega)) rfl (Nat.le_of_ble_eq_true rfl) ⟨by decide, by decide⟩ ⟨by omega, by omega⟩ (fun r_3 g_3 nx_3 hp_3 => ?_) rfl
  try dsimp only [Option.toList, List.nil_append, List.cons_append]
  obtain ⟨rfl, rfl, N3, G3⟩ := hp_3
  try dsimp only [Option.toList, List.nil_append, List.cons_append]
  have V3 := MV_up V2 (by omega) N3 G3
  have m3 := V3.1
  have W3 : gW g g_3 P (P + 14) := gW_t W2 (g1_W G3 (by omega) (by omega))
  refine z_aload_n hE d_Mo_sumOf_41 rfl ?_
  refine z_get hE d_Mo_sumOf_42 fl_Mo_32 (by assumption) rfl ?_
  refine z_aload_n hE d_Mo_sumOf_45 rfl ?_
  refine z_get hE d_Mo_sumOf_46 fl_Mo_41 (by assumption) rfl ?_
  refine z_aload_n hE d_Mo_sumOf_49 rfl ?_
  refine z_get hE d_Mo_sumOf_50 fl_Mo_26 (by assumption) rfl ?_
  refine z_callS hE d_Mo_sumOf_53 cl_Mo_131 (c_Mo_multiply l nx (x := x.2.1) (y := y.2.2) (MV_m V3 8 (by omega) (by omega)) (MV_m V3 11 (by omega) (by omega)) (MV_m V3 6 (by omega) (by omega)) (by omega) (by omega) (by omega)) rfl (Nat.le_of_ble_eq_true rfl) ⟨by decide, by decide⟩ ⟨by omega, by omega⟩ (fun r_4 g_4 nx_4 hp_4 => ?_) rfl
  try dsimp only [Option.toList, List.nil_append, List.cons_append]
  obtain ⟨rfl, rfl, N4, G4⟩ := hp_4
  try dsimp only [Option.toList, List.nil_append, List.cons_append]
  have V4 := MV_up V3 (by omega) N4 G4
  have m4 := V4.1
  have W4 : gW g g_4 P (P + 14) := gW_t W3 (g1_W G4 (by omega) (by omega))
  refine z_aload_n hE d_Mo_sumOf_56 rfl ?_
  refine z_get hE d_Mo_sumOf_57 fl_Mo_38 (by assumption) rfl ?_
  refine z_aload_n hE d_Mo_sumOf_60 rfl ?_
  refine z_get hE d_Mo_sumOf_61 fl_Mo_35 (by assumption) rfl ?_
  refine z_aload_n hE d_Mo_sumOf_64 rfl ?_
  refine z_get hE d_Mo_sumOf_65 fl_Mo_32 (by assumption) rfl ?_
  refine z_callS hE d_Mo_sumOf_68 cl_Mo_131 (c_Mo_multiply l nx (x := y.2.1) (y := x.2.2) (MV_m V4 10 (by omega) (by omega)) (MV_m V4 9 (by omega) (by omega)) (MV_m V4 8 (by omega) (by omega)) (by omega) (by omega) (by omega)) rfl (Nat.le_of_ble_eq_true rfl) ⟨by decide, by decide⟩ ⟨by omega, by omega⟩ (fun r_5 g_5 nx_5 hp_5 => ?_) rfl
  try dsimp only [Option.toList, List.nil_append, List.cons_append]
  obtain ⟨rfl, rfl, N5, G5⟩ := hp_5
  try dsimp only [Option.toList, List.nil_append, List.cons_append]
  have V5 := MV_up V4 (by omega) N5 G5
  have m5 := V5.1
  have W5 : gW g g_5 P (P + 14) := gW_t W4 (g1_W G5 (by omega) (by omega))
  have T6 : MA g_5 (P + 6) (x.2.1 * y.2.2) := MV_m V5 6 (by omega) (by omega)
  have s5 : g_5 (P + 2) = some (.inl (1, 58, .inl sn)) := by
    rw [G5 _ (by omega), G4 _ (by omega), G3 _ (by omega), G2 _ (by omega) (by omega), G1 _ (by omega) (by omega)]; exact h2
  refine z_aload_n hE d_Mo_sumOf_71 rfl ?_
  refine z_get hE d_Mo_sumOf_72 fl_Mo_13 (by assumption) rfl ?_
  refine z_iload_n hE d_Mo_sumOf_75 rfl ?_
  refine z_iald hE d_Mo_sumOf_76 (by assumption) (nI_in' ha (by omega)) ?_
  rw [nI_cl (by omega), sx]
  refine z_istore hE d_Mo_sumOf_77 (by decide) ?_
  refine z_aload_n hE d_Mo_sumOf_79 rfl ?_
  refine z_get hE d_Mo_sumOf_80 fl_Mo_13 (by assumption) rfl ?_
  refine z_iload_n hE d_Mo_sumOf_83 rfl ?_
  refine z_iald hE d_Mo_sumOf_84 (by assumption) (nI_in' hb (by omega)) ?_
  rw [nI_cl (by omega), sy]
  refine z_iload_n hE d_Mo_sumOf_85 rfl ?_
  refine z_imul hE d_Mo_sumOf_86 (rfl) ?_
  refine z_istore hE d_Mo_sumOf_87 (by decide) ?_
  obtain ⟨s, hs⟩ : ∃ s, y.1 * bs = s := ⟨_, rfl⟩
  rw [hs] at isy iY hQ ⊢
  have fin : ∀ (g' : Gh) (t' : Nat → Nat) (ts' : Int32), MV g' P E0 pl c n ts' t' → gW g g' P (P + 14) → t' 7 = x.2.2 * y.2.2 → t' 6 = (sv x.1 (x.2.1 * y.2.2) + sv s (y.2.1 * x.2.2)).natAbs → (t' 6 ≠ 0 → ts' = sgI (sv x.1 (x.2.1 * y.2.2) + sv s (y.2.1 * x.2.2))) → ∀ lv, zJ E g' nx 0 0 198 lv [] := by
    intro g' t' ts' V' W' e7 e6 es lv
    refine z_vret hE hQ d_Mo_sumOf_198 rfl (by omega) (by omega) ⟨rfl, rfl, W', t', ts', V', ?_, e7⟩
    rw [e7]
    exact mk_n e6 es
  have add : ∀ lv, (x.1 = s ∨ x.1 = 0 ∨ s = 0) → lG lv 0 = some (.ref P) → lG lv 4 = some (.int x.1) → lG lv 5 = some (.int s) → zJ E g_5 nx 0 0 106 lv [] := by
    intro lv hc l0 l4 l5
    refine z_sub (lv' := [(0, .ref P), (4, .int x.1), (5, .int s)]) (by simp only [List.map, l0, l4, l5]) ?_
    obtain ⟨q1, q2⟩ := sum_1 iX iY hc
    refine z_aload_n hE d_Mo_sumOf_106 rfl ?_
    refine z_get hE d_Mo_sumOf_107 fl_Mo_26 (by assumption) rfl ?_
    refine z_aload_n hE d_Mo_sumOf_110 rfl ?_
    refine z_get hE d_Mo_sumOf_111 fl_Mo_32 (by assumption) rfl ?_
    refine z_callS hE d_Mo_sumOf_114 cl_Mo_135 (c_Mo_addTo l nx T6 N5 (by omega) (by omega)) rfl (Nat.le_of_ble_eq_true rfl) ⟨by decide, by decide⟩ ⟨by omega, by omega⟩ (fun r_6 g_6 nx_6 hp_6 => ?_) rfl
    try dsimp only [Option.toList, List.nil_append, List.cons_append]
    obtain ⟨rfl, rfl, N6, G6⟩ := hp_6
    try dsimp only [Option.toList, List.nil_append, List.cons_append]
    have V6 := MV_up V5 (by omega) N6 G6
    have m6 := V6.1
    have W6 : gW g g_6 P (P + 14) := gW_t W5 (g1_W G6 (by omega) (by omega))
    have go : ∀ (z : Int32) lv, z = (if x.1 = 0 then s else x.1) → zJ E g_6 nx 0 0 130 lv [.int z, .ref P] := by
      intro z lv hz
      refine z_put hE d_Mo_sumOf_130 fl_Mo_99 ct_Mo ff_Mo_9 (by assumption) rfl rfl (Nat.le_of_ble_eq_true rfl) ?_
      have V7 := MV_put V6 c n z
      refine z_goto (tgt := 198) hE d_Mo_sumOf_133 (by decide) ?_
      exact fin _ _ z V7 (gW_t W6 (gW_S (Nat.le_refl _) (by omega))) rfl q1 (fun q => hz.trans (q2 q)) _
    refine z_aload_n hE d_Mo_sumOf_117 rfl ?_
    refine z_iload hE d_Mo_sumOf_118 rfl ?_
    by_cases hx0 : x.1 = 0
    · refine z_if_ne (tgt := 128) hE d_Mo_sumOf_120 (by decide) (fun c_ => absurd c_ (fun z => z hx0)) (fun _ => ?_)
      refine z_iload hE d_Mo_sumOf_123 rfl ?_
      refine z_goto (tgt := 130) hE d_Mo_sumOf_125 (by decide) ?_
      exact go s _ (by rw [if_pos hx0])
    · refine z_if_ne (tgt := 128) hE d_Mo_sumOf_120 (by decide) (fun _ => ?_) (fun c_ => absurd c_ (hx0))
      refine z_iload hE d_Mo_sumOf_128 rfl ?_
      exact go x.1 _ (by rw [if_neg hx0])
  refine z_iload hE d_Mo_sumOf_89 rfl ?_
  refine z_iload hE d_Mo_sumOf_91 rfl ?_
  by_cases hc : x.1 = s ∨ x.1 = 0 ∨ s = 0
  case pos =>
    by_cases hc1 : x.1 = s
    · refine z_icmp_eq (tgt := 106) hE d_Mo_sumOf_93 (by decide) (fun _ => ?_) (fun c_ => absurd c_ (fun z => z hc1))
      exact add _ hc rfl rfl rfl
    · refine z_icmp_eq (tgt := 106) hE d_Mo_sumOf_93 (by decide) (fun c_ => absurd c_ (hc1)) (fun _ => ?_)
      refine z_iload hE d_Mo_sumOf_96 rfl ?_
      by_cases hc2 : x.1 = 0
      · refine z_if_eq (tgt := 106) hE d_Mo_sumOf_98 (by decide) (fun _ => ?_) (fun c_ => absurd c_ (fun z => z hc2))
        exact add _ hc rfl rfl rfl
      · refine z_if_eq (tgt := 106) hE d_Mo_sumOf_98 (by decide) (fun c_ => absurd c_ (hc2)) (fun _ => ?_)
        refine z_iload hE d_Mo_sumOf_101 rfl ?_
        have hc3 : s = 0 := by
          rcases hc with z | z | z
          · exact absurd z hc1
          · exact absurd z hc2
          · exact z
        refine z_if_ne (tgt := 136) hE d_Mo_sumOf_103 (by decide) (fun c_ => absurd c_ (fun z => z hc3)) (fun _ => ?_)
        exact add _ hc rfl rfl rfl
  refine z_icmp_eq (tgt := 106) hE d_Mo_sumOf_93 (by decide) (fun c_ => absurd c_ (fun z => hc (Or.inl z))) (fun _ => ?_)
  refine z_iload hE d_Mo_sumOf_96 rfl ?_
  refine z_if_eq (tgt := 106) hE d_Mo_sumOf_98 (by decide) (fun c_ => absurd c_ (fun z => hc (Or.inr (Or.inl z)))) (fun _ => ?_)
  refine z_iload hE d_Mo_sumOf_101 rfl ?_
  refine z_if_ne (tgt := 136) hE d_Mo_sumOf_103 (by decide) (fun _ => ?_) (fun c_ => absurd c_ (fun z => hc (Or.inr (Or.inr z))))
  obtain ⟨q1, q2⟩ := sum_2 iX iY hc
  refine z_aload_n hE d_Mo_sumOf_136 rfl ?_
  refine z_get hE d_Mo_sumOf_137 fl_Mo_26 (by assumption) rfl ?_
  refine z_aload_n hE d_Mo_sumOf_140 rfl ?_
  refine z_get hE d_Mo_sumOf_141 fl_Mo_32 (by assumption) rfl ?_
  refine z_callS hE d_Mo_sumOf_144 cl_Mo_69 (c_Mo_compared l nx T6 N5) rfl (Nat.le_of_ble_eq_true rfl) ⟨by decide, by decide⟩ ⟨by omega, by omega⟩ (fun r_144 g_144 nx_144 hp_144 => ?_) rfl
  obtain ⟨rfl, rfl, rfl⟩ := hp_144
  try dsimp only [Option.toList, List.nil_append, List.cons_append]
  by_cases hle : y.2.1 * x.2.2 ≤ x.2.1 * y.2.2
  · have hcm : ¬ cmpN (x.2.1 * y.2.2) (y.2.1 * x.2.2) < 0 := by unfold cmpN; rw [if_neg (by omega)]; split <;> decide
    refine z_if_lt (tgt := 170) hE d_Mo_sumOf_147 (by decide) (fun c_ => absurd c_ (hcm)) (fun _ => ?_)
    refine z_aload_n hE d_Mo_sumOf_150 rfl ?_
    refine z_get hE d_Mo_sumOf_151 fl_Mo_26 (by assumption) rfl ?_
    refine z_aload_n hE d_Mo_sumOf_154 rfl ?_
    refine z_get hE d_Mo_sumOf_155 fl_Mo_32 (by assumption) rfl ?_
    refine z_callS hE d_Mo_sumOf_158 cl_Mo_73 (c_Mo_takeFrom l nx T6 N5 (by omega) hle) rfl (Nat.le_of_ble_eq_true rfl) ⟨by decide, by decide⟩ ⟨by omega, by omega⟩ (fun r_6 g_6 nx_6 hp_6 => ?_) rfl
    try dsimp only [Option.toList, List.nil_append, List.cons_append]
    obtain ⟨rfl, rfl, N6, G6⟩ := hp_6
    try dsimp only [Option.toList, List.nil_append, List.cons_append]
    have V6 := MV_up V5 (by omega) N6 G6
    have m6 := V6.1
    have W6 : gW g g_6 P (P + 14) := gW_t W5 (g1_W G6 (by omega) (by omega))
    refine z_aload_n hE d_Mo_sumOf_161 rfl ?_
    refine z_iload hE d_Mo_sumOf_162 rfl ?_
    refine z_put hE d_Mo_sumOf_164 fl_Mo_99 ct_Mo ff_Mo_9 (by assumption) rfl rfl (Nat.le_of_ble_eq_true rfl) ?_
    have V7 := MV_put V6 c n x.1
    refine z_goto (tgt := 198) hE d_Mo_sumOf_167 (by decide) ?_
    exact fin _ _ x.1 V7 (gW_t W6 (gW_S (Nat.le_refl _) (by omega))) rfl (q1 hle).1 (q1 hle).2 _
  · rw [show cmpN (x.2.1 * y.2.2) (y.2.1 * x.2.2) = -1 from if_pos (by omega)]
    refine z_if_lt (tgt := 170) hE d_Mo_sumOf_147 (by decide) (fun _ => ?_) (fun c_ => absurd c_ (by decide))
    refine z_aload_n hE d_Mo_sumOf_170 rfl ?_
    refine z_get hE d_Mo_sumOf_171 fl_Mo_32 (by assumption) rfl ?_
    refine z_aload_n hE d_Mo_sumOf_174 rfl ?_
    refine z_get hE d_Mo_sumOf_175 fl_Mo_26 (by assumption) rfl ?_
    refine z_callS hE d_Mo_sumOf_178 cl_Mo_73 (c_Mo_takeFrom l nx N5 T6 (by omega) (by omega)) rfl (Nat.le_of_ble_eq_true rfl) ⟨by decide, by decide⟩ ⟨by omega, by omega⟩ (fun r_6 g_6 nx_6 hp_6 => ?_) rfl
    try dsimp only [Option.toList, List.nil_append, List.cons_append]
    obtain ⟨rfl, rfl, N6, G6⟩ := hp_6
    try dsimp only [Option.toList, List.nil_append, List.cons_append]
    have V6 := MV_up V5 (by omega) N6 G6
    have m6 := V6.1
    have W6 : gW g g_6 P (P + 14) := gW_t W5 (g1_W G6 (by omega) (by omega))
    refine z_aload_n hE d_Mo_sumOf_181 rfl ?_
    refine z_get hE d_Mo_sumOf_182 fl_Mo_32 (by assumption) rfl ?_
    refine z_aload_n hE d_Mo_sumOf_185 rfl ?_
    refine z_get hE d_Mo_sumOf_186 fl_Mo_26 (by assumption) rfl ?_
    refine z_callS hE d_Mo_sumOf_189 cl_Mo_81 (c_Mo_lay l nx N6 (MV_m V6 6 (by omega) (by omega)) (by omega)) rfl (Nat.le_of_ble_eq_true rfl) ⟨by decide, by decide⟩ ⟨by omega, by omega⟩ (fun r_7 g_7 nx_7 hp_7 => ?_) rfl
    try dsimp only [Option.toList, List.nil_append, List.cons_append]
    obtain ⟨rfl, rfl, N7, G7⟩ := hp_7
    try dsimp only [Option.toList, List.nil_append, List.cons_append]
    have V7 := MV_up V6 (by omega) N7 G7
    have m7 := V7.1
    have W7 : gW g g_7 P (P + 14) := gW_t W6 (g1_W G7 (by omega) (by omega))
    refine z_aload_n hE d_Mo_sumOf_192 rfl ?_
    refine z_iload hE d_Mo_sumOf_193 rfl ?_
    refine z_put hE d_Mo_sumOf_195 fl_Mo_99 ct_Mo ff_Mo_9 (by assumption) rfl rfl (Nat.le_of_ble_eq_true rfl) ?_
    have V8 := MV_put V7 c n s
    exact fin _ _ s V8 (gW_t W7 (gW_S (Nat.le_refl _) (by omega))) rfl (q2 (by omega)).1 (q2 (by omega)).2 _
theorem c_Mo_productOf (l : Launch) {g : Gh} (nx : Nat) {a b : Nat} {x y : Qf} {P : Nat} {E0 : Nat → Option Qf} {pl : Nat → Int32} {c n ts : Int32} {t : Nat → Nat} (hV : MV g P E0 pl c n ts t) (ha : a < 58) (hb : b < 58) (hx : E0 a = some x) (hy : E0 b = some y) (kx : QK x) (ky : QK y) : Ct l m_Mo_productOf 0 0 [.ref P, .int (nI a), .int (nI b)] g nx (fun r g' nx' => r = none ∧ nx = nx' ∧ gW g g' P (P + 14) ∧ ∃ t', MV g' P E0 pl c n (x.1 * y.1) t' ∧ t' 6 = x.2.1 * y.2.1 ∧ t' 7 = x.2.2 * y.2.2) := by
  have h0 := hV.1
  obtain ⟨-, -, ⟨sn, A, B, h2, -, -, -, -, b6⟩, -⟩ := id hV
  have sx := (b6 a ha x hx).1
  have sy := (b6 b hb y hy).1
  have e56 : 65536 ^ 32 * 4 ≤ 65536 ^ 56 := by decide
  have wX := w816 kx.2.1 ky.2.1
  have wB := w816 kx.2.2 ky.2.2
  refine Ct.of (by decide) (Nat.le_of_ble_eq_true rfl) (fun E hE hQ => ?_)
  refine z_aload_n hE d_Mo_productOf_0 rfl ?_
  refine z_iload_n hE d_Mo_productOf_1 rfl ?_
  refine z_aload_n hE d_Mo_productOf_2 rfl ?_
  refine z_get hE d_Mo_productOf_3 fl_Mo_32 (by assumption) rfl ?_
  refine z_aload_n hE d_Mo_productOf_6 rfl ?_
  refine z_get hE d_Mo_productOf_7 fl_Mo_35 (by assumption) rfl ?_
  refine z_callV hE d_Mo_productOf_10 cl_Mo_119 (c_Mo_take l nx (i := 8) (j := 9) hV ha hx (by omega) (by omega) (by omega) (by omega) (by omega)) (by assumption) cb_Mo rfl (Nat.le_of_ble_eq_true rfl) ⟨by decide, by decide⟩ ⟨by omega, by omega⟩ (fun r_1 g_1 nx_1 hp_1 => ?_) rfl
  try dsimp only [Option.toList, List.nil_append, List.cons_append]
  obtain ⟨rfl, rfl, V1, G1⟩ := hp_1
  try dsimp only [Option.toList, List.nil_append, List.cons_append]
  have m1 := V1.1
  have W1 : gW g g_1 P (P + 14) := gW_t gW_r (g2_W G1 (by omega) (by omega) (by omega) (by omega))
  refine z_aload_n hE d_Mo_productOf_13 rfl ?_
  refine z_iload_n hE d_Mo_productOf_14 rfl ?_
  refine z_aload_n hE d_Mo_productOf_15 rfl ?_
  refine z_get hE d_Mo_productOf_16 fl_Mo_38 (by assumption) rfl ?_
  refine z_aload_n hE d_Mo_productOf_19 rfl ?_
  refine z_get hE d_Mo_productOf_20 fl_Mo_41 (by assumption) rfl ?_
  refine z_callV hE d_Mo_productOf_23 cl_Mo_119 (c_Mo_take l nx (i := 10) (j := 11) V1 hb hy (by omega) (by omega) (by omega) (by omega) (by omega)) (by assumption) cb_Mo rfl (Nat.le_of_ble_eq_true rfl) ⟨by decide, by decide⟩ ⟨by omega, by omega⟩ (fun r_2 g_2 nx_2 hp_2 => ?_) rfl
  try dsimp only [Option.toList, List.nil_append, List.cons_append]
  obtain ⟨rfl, rfl, V2, G2⟩ := hp_2
  try dsimp only [Option.toList, List.nil_append, List.cons_append]
  have m2 := V2.1
  have W2 : gW g g_2 P (P + 14) := gW_t W1 (g2_W G2 (by omega) (by omega) (by omega) (by omega))
  have A8 : MA g_2 (P + 8) x.2.1 := MV_m V2 8 (by omega) (by omega)
  have A9 : MA g_2 (P + 9) x.2.2 := MV_m V2 9 (by omega) (by omega)
  have A10 : MA g_2 (P + 10) y.2.1 := MV_m V2 10 (by omega) (by omega)
  have A11 : MA g_2 (P + 11) y.2.2 := MV_m V2 11 (by omega) (by omega)
  refine z_aload_n hE d_Mo_productOf_26 rfl ?_
  refine z_get hE d_Mo_productOf_27 fl_Mo_32 (by assumption) rfl ?_
  refine z_aload_n hE d_Mo_productOf_30 rfl ?_
  refine z_get hE d_Mo_productOf_31 fl_Mo_38 (by assumption) rfl ?_
  refine z_aload_n hE d_Mo_productOf_34 rfl ?_
  refine z_get hE d_Mo_productOf_35 fl_Mo_26 (by assumption) rfl ?_
  refine z_callS hE d_Mo_productOf_38 cl_Mo_131 (c_Mo_multiply l nx A8 A10 (MV_m V2 6 (by omega) (by omega)) (by omega) (by omega) (by omega)) rfl (Nat.le_of_ble_eq_true rfl) ⟨by decide, by decide⟩ ⟨by omega, by omega⟩ (fun r_3 g_3 nx_3 hp_3 => ?_) rfl
  try dsimp only [Option.toList, List.nil_append, List.cons_append]
  obtain ⟨rfl, rfl, N3, G3⟩ := hp_3
  try dsimp only [Option.toList, List.nil_append, List.cons_append]
  have V3 := MV_up V2 (by omega) N3 G3
  have m3 := V3.1
  have W3 : gW g g_3 P (P + 14) := gW_t W2 (g1_W G3 (by omega) (by omega))
  refine z_aload_n hE d_Mo_productOf_41 rfl ?_
  refine z_get hE d_Mo_productOf_42 fl_Mo_35 (by assumption) rfl ?_
  refine z_aload_n hE d_Mo_productOf_45 rfl ?_
  refine z_get hE d_Mo_productOf_46 fl_Mo_41 (by assumption) rfl ?_
  refine z_aload_n hE d_Mo_productOf_49 rfl ?_
  refine z_get hE d_Mo_productOf_50 fl_Mo_29 (by assumption) rfl ?_
  refine z_callS hE d_Mo_productOf_53 cl_Mo_131 (c_Mo_multiply l nx (x := x.2.2) (y := y.2.2) (MV_m V3 9 (by omega) (by omega)) (MV_m V3 11 (by omega) (by omega)) (MV_m V3 7 (by omega) (by omega)) (by omega) (by omega) (by omega)) rfl (Nat.le_of_ble_eq_true rfl) ⟨by decide, by decide⟩ ⟨by omega, by omega⟩ (fun r_4 g_4 nx_4 hp_4 => ?_) rfl
  try dsimp only [Option.toList, List.nil_append, List.cons_append]
  obtain ⟨rfl, rfl, N4, G4⟩ := hp_4
  try dsimp only [Option.toList, List.nil_append, List.cons_append]
  have V4 := MV_up V3 (by omega) N4 G4
  have m4 := V4.1
  have W4 : gW g g_4 P (P + 14) := gW_t W3 (g1_W G4 (by omega) (by omega))
  have s5 : g_4 (P + 2) = some (.inl (1, 58, .inl sn)) := by
    rw [G4 _ (by omega), G3 _ (by omega), G2 _ (by omega) (by omega), G1 _ (by omega) (by omega)]; exact h2
  refine z_aload_n hE d_Mo_productOf_56 rfl ?_
  refine z_aload_n hE d_Mo_productOf_57 rfl ?_
  refine z_get hE d_Mo_productOf_58 fl_Mo_13 (by assumption) rfl ?_
  refine z_iload_n hE d_Mo_productOf_61 rfl ?_
  refine z_iald hE d_Mo_productOf_62 (by assumption) (nI_in' ha (by omega)) ?_
  rw [nI_cl (by omega), sx]
  refine z_aload_n hE d_Mo_productOf_63 rfl ?_
  refine z_get hE d_Mo_productOf_64 fl_Mo_13 (by assumption) rfl ?_
  refine z_iload_n hE d_Mo_productOf_67 rfl ?_
  refine z_iald hE d_Mo_productOf_68 (by assumption) (nI_in' hb (by omega)) ?_
  rw [nI_cl (by omega), sy]
  refine z_imul hE d_Mo_productOf_69 (rfl) ?_
  refine z_put hE d_Mo_productOf_70 fl_Mo_99 ct_Mo ff_Mo_9 (by assumption) rfl rfl (Nat.le_of_ble_eq_true rfl) ?_
  have V7 := MV_put V4 c n (x.1 * y.1)
  exact z_vret hE hQ d_Mo_productOf_73 rfl (by omega) (by omega) ⟨rfl, rfl, gW_t W4 (gW_S (Nat.le_refl _) (by omega)), _, V7, rfl, rfl⟩
theorem c_Mo_quotientOf (l : Launch) {g : Gh} (nx : Nat) {a b : Nat} {x y : Qf} {P : Nat} {E0 : Nat → Option Qf} {pl : Nat → Int32} {c n ts : Int32} {t : Nat → Nat} (hV : MV g P E0 pl c n ts t) (ha : a < 58) (hb : b < 58) (hx : E0 a = some x) (hy : E0 b = some y) (kx : QK x) (ky : QK y) : Ct l m_Mo_quotientOf 0 0 [.ref P, .int (nI a), .int (nI b)] g nx (fun r g' nx' => r = none ∧ nx = nx' ∧ gW g g' P (P + 14) ∧ ∃ t', MV g' P E0 pl c n (x.1 * y.1) t' ∧ t' 6 = x.2.1 * y.2.2 ∧ t' 7 = x.2.2 * y.2.1) := by
  have h0 := hV.1
  obtain ⟨-, -, ⟨sn, A, B, h2, -, -, -, -, b6⟩, -⟩ := id hV
  have sx := (b6 a ha x hx).1
  have sy := (b6 b hb y hy).1
  have e56 : 65536 ^ 32 * 4 ≤ 65536 ^ 56 := by decide
  have wX := w816 kx.2.1 ky.2.2
  have wB := w816 kx.2.2 ky.2.1
  refine Ct.of (by decide) (Nat.le_of_ble_eq_true rfl) (fun E hE hQ => ?_)
  refine z_aload_n hE d_Mo_quotientOf_0 rfl ?_
  refine z_iload_n hE d_Mo_quotientOf_1 rfl ?_
  refine z_aload_n hE d_Mo_quotientOf_2 rfl ?_
  refine z_get hE d_Mo_quotientOf_3 fl_Mo_32 (by assumption) rfl ?_
  refine z_aload_n hE d_Mo_quotientOf_6 rfl ?_
  refine z_get hE d_Mo_quotientOf_7 fl_Mo_35 (by assumption) rfl ?_
  refine z_callV hE d_Mo_quotientOf_10 cl_Mo_119 (c_Mo_take l nx (i := 8) (j := 9) hV ha hx (by omega) (by omega) (by omega) (by omega) (by omega)) (by assumption) cb_Mo rfl (Nat.le_of_ble_eq_true rfl) ⟨by decide, by decide⟩ ⟨by omega, by omega⟩ (fun r_1 g_1 nx_1 hp_1 => ?_) rfl
  try dsimp only [Option.toList, List.nil_append, List.cons_append]
  obtain ⟨rfl, rfl, V1, G1⟩ := hp_1
  try dsimp only [Option.toList, List.nil_append, List.cons_append]
  have m1 := V1.1
  have W1 : gW g g_1 P (P + 14) := gW_t gW_r (g2_W G1 (by omega) (by omega) (by omega) (by omega))
  refine z_aload_n hE d_Mo_quotientOf_13 rfl ?_
  refine z_iload_n hE d_Mo_quotientOf_14 rfl ?_
  refine z_aload_n hE d_Mo_quotientOf_15 rfl ?_
  refine z_get hE d_Mo_quotientOf_16 fl_Mo_38 (by assumption) rfl ?_
  refine z_aload_n hE d_Mo_quotientOf_19 rfl ?_
  refine z_get hE d_Mo_quotientOf_20 fl_Mo_41 (by assumption) rfl ?_
  refine z_callV hE d_Mo_quotientOf_23 cl_Mo_119 (c_Mo_take l nx (i := 10) (j := 11) V1 hb hy (by omega) (by omega) (by omega) (by omega) (by omega)) (by assumption) cb_Mo rfl (Nat.le_of_ble_eq_true rfl) ⟨by decide, by decide⟩ ⟨by omega, by omega⟩ (fun r_2 g_2 nx_2 hp_2 => ?_) rfl
  try dsimp only [Option.toList, List.nil_append, List.cons_append]
  obtain ⟨rfl, rfl, V2, G2⟩ := hp_2
  try dsimp only [Option.toList, List.nil_append, List.cons_append]
  have m2 := V2.1
  have W2 : gW g g_2 P (P + 14) := gW_t W1 (g2_W G2 (by omega) (by omega) (by omega) (by omega))
  have A8 : MA g_2 (P + 8) x.2.1 := MV_m V2 8 (by omega) (by omega)
  have A9 : MA g_2 (P + 9) x.2.2 := MV_m V2 9 (by omega) (by omega)
  have A10 : MA g_2 (P + 10) y.2.1 := MV_m V2 10 (by omega) (by omega)
  have A11 : MA g_2 (P + 11) y.2.2 := MV_m V2 11 (by omega) (by omega)
  refine z_aload_n hE d_Mo_quotientOf_26 rfl ?_
  refine z_get hE d_Mo_quotientOf_27 fl_Mo_32 (by assumption) rfl ?_
  refine z_aload_n hE d_Mo_quotientOf_30 rfl ?_
  refine z_get hE d_Mo_quotientOf_31 fl_Mo_41 (by assumption) rfl ?_
  refine z_aload_n hE d_Mo_quotientOf_34 rfl ?_
  refine z_get hE d_Mo_quotientOf_35 fl_Mo_26 (by assumption) rfl ?_
  refine z_callS hE d_Mo_quotientOf_38 cl_Mo_131 (c_Mo_multiply l nx A8 A11 (MV_m V2 6 (by omega) (by omega)) (by omega) (by omega) (by omega)) rfl (Nat.le_of_ble_eq_true rfl) ⟨by decide, by decide⟩ ⟨by omega, by omega⟩ (fun r_3 g_3 nx_3 hp_3 => ?_) rfl
  try dsimp only [Option.toList, List.nil_append, List.cons_append]
  obtain ⟨rfl, rfl, N3, G3⟩ := hp_3
  try dsimp only [Option.toList, List.nil_append, List.cons_append]
  have V3 := MV_up V2 (by omega) N3 G3
  have m3 := V3.1
  have W3 : gW g g_3 P (P + 14) := gW_t W2 (g1_W G3 (by omega) (by omega))
  refine z_aload_n hE d_Mo_quotientOf_41 rfl ?_
  refine z_get hE d_Mo_quotientOf_42 fl_Mo_35 (by assumption) rfl ?_
  refine z_aload_n hE d_Mo_quotientOf_45 rfl ?_
  refine z_get hE d_Mo_quotientOf_46 fl_Mo_38 (by assumption) rfl ?_
  refine z_aload_n hE d_Mo_quotientOf_49 rfl ?_
  refine z_get hE d_Mo_quotientOf_50 fl_Mo_29 (by assumption) rfl ?_
  refine z_callS hE d_Mo_quotientOf_53 cl_Mo_131 (c_Mo_multiply l nx (x := x.2.2) (y := y.2.1) (MV_m V3 9 (by omega) (by omega)) (MV_m V3 10 (by omega) (by omega)) (MV_m V3 7 (by omega) (by omega)) (by omega) (by omega) (by omega)) rfl (Nat.le_of_ble_eq_true rfl) ⟨by decide, by decide⟩ ⟨by omega, by omega⟩ (fun r_4 g_4 nx_4 hp_4 => ?_) rfl
  try dsimp only [Option.toList, List.nil_append, List.cons_append]
  obtain ⟨rfl, rfl, N4, G4⟩ := hp_4
  try dsimp only [Option.toList, List.nil_append, List.cons_append]
  have V4 := MV_up V3 (by omega) N4 G4
  have m4 := V4.1
  have W4 : gW g g_4 P (P + 14) := gW_t W3 (g1_W G4 (by omega) (by omega))
  have s5 : g_4 (P + 2) = some (.inl (1, 58, .inl sn)) := by
    rw [G4 _ (by omega), G3 _ (by omega), G2 _ (by omega) (by omega), G1 _ (by omega) (by omega)]; exact h2
  refine z_aload_n hE d_Mo_quotientOf_56 rfl ?_
  refine z_aload_n hE d_Mo_quotientOf_57 rfl ?_
  refine z_get hE d_Mo_quotientOf_58 fl_Mo_13 (by assumption) rfl ?_
  refine z_iload_n hE d_Mo_quotientOf_61 rfl ?_
  refine z_iald hE d_Mo_quotientOf_62 (by assumption) (nI_in' ha (by omega)) ?_
  rw [nI_cl (by omega), sx]
  refine z_aload_n hE d_Mo_quotientOf_63 rfl ?_
  refine z_get hE d_Mo_quotientOf_64 fl_Mo_13 (by assumption) rfl ?_
  refine z_iload_n hE d_Mo_quotientOf_67 rfl ?_
  refine z_iald hE d_Mo_quotientOf_68 (by assumption) (nI_in' hb (by omega)) ?_
  rw [nI_cl (by omega), sy]
  refine z_imul hE d_Mo_quotientOf_69 (rfl) ?_
  refine z_put hE d_Mo_quotientOf_70 fl_Mo_99 ct_Mo ff_Mo_9 (by assumption) rfl rfl (Nat.le_of_ble_eq_true rfl) ?_
  have V7 := MV_put V4 c n (x.1 * y.1)
  exact z_vret hE hQ d_Mo_quotientOf_73 rfl (by omega) (by omega) ⟨rfl, rfl, gW_t W4 (gW_S (Nat.le_refl _) (by omega)), _, V7, rfl, rfl⟩
theorem c_Mo_orderOf (l : Launch) {g : Gh} (nx : Nat) {a b : Nat} {x y : Qf} {P : Nat} {E0 : Nat → Option Qf} {pl : Nat → Int32} {c n ts : Int32} {t : Nat → Nat} (hV : MV g P E0 pl c n ts t) (ha : a < 58) (hb : b < 58) (hx : E0 a = some x) (hy : E0 b = some y) (kx : QK x) (ky : QK y) : Ct l m_Mo_orderOf 0 0 [.ref P, .int (nI a), .int (nI b)] g nx (fun r g' nx' => r = some (.int (cmpQ x y)) ∧ nx = nx' ∧ gW g g' P (P + 14) ∧ ∃ t', MV g' P E0 pl c n ts t') := by
  have h0 := hV.1
  obtain ⟨-, -, ⟨sn, A, B, h2, -, -, -, -, b6⟩, -⟩ := id hV
  have sx := (b6 a ha x hx).1
  have sy := (b6 b hb y hy).1
  have e56 : 65536 ^ 32 * 4 ≤ 65536 ^ 56 := by decide
  have wX := w816 kx.2.1 ky.2.2
  have wB := w816 ky.2.1 kx.2.2
  refine Ct.of (by decide) (Nat.le_of_ble_eq_true rfl) (fun E hE hQ => ?_)
  refine z_aload_n hE d_Mo_orderOf_0 rfl ?_
  refine z_get hE d_Mo_orderOf_1 fl_Mo_13 (by assumption) rfl ?_
  refine z_iload_n hE d_Mo_orderOf_4 rfl ?_
  refine z_iald hE d_Mo_orderOf_5 (by assumption) (nI_in' ha (by omega)) ?_
  rw [nI_cl (by omega), sx]
  refine z_aload_n hE d_Mo_orderOf_6 rfl ?_
  refine z_get hE d_Mo_orderOf_7 fl_Mo_13 (by assumption) rfl ?_
  refine z_iload_n hE d_Mo_orderOf_10 rfl ?_
  refine z_iald hE d_Mo_orderOf_11 (by assumption) (nI_in' hb (by omega)) ?_
  rw [nI_cl (by omega), sy]
  by_cases hs : x.1 = y.1
  case neg =>
    have hcm : cmpQ x y = if x.1 < y.1 then -1 else 1 := by unfold cmpQ cmpF; rw [if_neg hs]
    refine z_icmp_eq (tgt := 36) hE d_Mo_orderOf_12 (by decide) (fun c_ => absurd c_ (hs)) (fun _ => ?_)
    refine z_aload_n hE d_Mo_orderOf_15 rfl ?_
    refine z_get hE d_Mo_orderOf_16 fl_Mo_13 (by assumption) rfl ?_
    refine z_iload_n hE d_Mo_orderOf_19 rfl ?_
    refine z_iald hE d_Mo_orderOf_20 (by assumption) (nI_in' ha (by omega)) ?_
    rw [nI_cl (by omega), sx]
    refine z_aload_n hE d_Mo_orderOf_21 rfl ?_
    refine z_get hE d_Mo_orderOf_22 fl_Mo_13 (by assumption) rfl ?_
    refine z_iload_n hE d_Mo_orderOf_25 rfl ?_
    refine z_iald hE d_Mo_orderOf_26 (by assumption) (nI_in' hb (by omega)) ?_
    rw [nI_cl (by omega), sy]
    by_cases hl : x.1 < y.1
    · refine z_icmp_ge (tgt := 34) hE d_Mo_orderOf_27 (by decide) (fun c_ => absurd c_ (fun z => absurd hl (Int32.not_lt.mpr z))) (fun _ => ?_)
      refine z_iconst (v := (-1)) hE d_Mo_orderOf_30 (by decide) ?_
      refine z_goto (tgt := 35) hE d_Mo_orderOf_31 (by decide) ?_
      exact z_iret hE hQ d_Mo_orderOf_35 rfl (by omega) (by omega) ⟨by rw [hcm, if_pos hl], rfl, gW_r, t, hV⟩
    · refine z_icmp_ge (tgt := 34) hE d_Mo_orderOf_27 (by decide) (fun _ => ?_) (fun c_ => absurd c_ (fun z => z (Int32.not_lt.mp hl)))
      refine z_iconst (v := 1) hE d_Mo_orderOf_34 (by decide) ?_
      exact z_iret hE hQ d_Mo_orderOf_35 rfl (by omega) (by omega) ⟨by rw [hcm, if_neg hl], rfl, gW_r, t, hV⟩
  refine z_icmp_eq (tgt := 36) hE d_Mo_orderOf_12 (by decide) (fun _ => ?_) (fun c_ => absurd c_ (fun z => z hs))
  refine z_aload_n hE d_Mo_orderOf_36 rfl ?_
  refine z_iload_n hE d_Mo_orderOf_37 rfl ?_
  refine z_aload_n hE d_Mo_orderOf_38 rfl ?_
  refine z_get hE d_Mo_orderOf_39 fl_Mo_32 (by assumption) rfl ?_
  refine z_aload_n hE d_Mo_orderOf_42 rfl ?_
  refine z_get hE d_Mo_orderOf_43 fl_Mo_35 (by assumption) rfl ?_
  refine z_callV hE d_Mo_orderOf_46 cl_Mo_119 (c_Mo_take l nx (i := 8) (j := 9) hV ha hx (by omega) (by omega) (by omega) (by omega) (by omega)) (by assumption) cb_Mo rfl (Nat.le_of_ble_eq_true rfl) ⟨by decide, by decide⟩ ⟨by omega, by omega⟩ (fun r_1 g_1 nx_1 hp_1 => ?_) rfl
  try dsimp only [Option.toList, List.nil_append, List.cons_append]
  obtain ⟨rfl, rfl, V1, G1⟩ := hp_1
  try dsimp only [Option.toList, List.nil_append, List.cons_append]
  have m1 := V1.1
  have W1 : gW g g_1 P (P + 14) := gW_t gW_r (g2_W G1 (by omega) (by omega) (by omega) (by omega))
  refine z_aload_n hE d_Mo_orderOf_49 rfl ?_
  refine z_iload_n hE d_Mo_orderOf_50 rfl ?_
  refine z_aload_n hE d_Mo_orderOf_51 rfl ?_
  refine z_get hE d_Mo_orderOf_52 fl_Mo_38 (by assumption) rfl ?_
  refine z_aload_n hE d_Mo_orderOf_55 rfl ?_
  refine z_get hE d_Mo_orderOf_56 fl_Mo_41 (by assumption) rfl ?_
  refine z_callV hE d_Mo_orderOf_59 cl_Mo_119 (c_Mo_take l nx (i := 10) (j := 11) V1 hb hy (by omega) (by omega) (by omega) (by omega) (by omega)) (by assumption) cb_Mo rfl (Nat.le_of_ble_eq_true rfl) ⟨by decide, by decide⟩ ⟨by omega, by omega⟩ (fun r_2 g_2 nx_2 hp_2 => ?_) rfl
  try dsimp only [Option.toList, List.nil_append, List.cons_append]
  obtain ⟨rfl, rfl, V2, G2⟩ := hp_2
  try dsimp only [Option.toList, List.nil_append, List.cons_append]
  have m2 := V2.1
  have W2 : gW g g_2 P (P + 14) := gW_t W1 (g2_W G2 (by omega) (by omega) (by omega) (by omega))
  have A8 : MA g_2 (P + 8) x.2.1 := MV_m V2 8 (by omega) (by omega)
  have A9 : MA g_2 (P + 9) x.2.2 := MV_m V2 9 (by omega) (by omega)
  have A10 : MA g_2 (P + 10) y.2.1 := MV_m V2 10 (by omega) (by omega)
  have A11 : MA g_2 (P + 11) y.2.2 := MV_m V2 11 (by omega) (by omega)
  refine z_aload_n hE d_Mo_orderOf_62 rfl ?_
  refine z_get hE d_Mo_orderOf_63 fl_Mo_32 (by assumption) rfl ?_
  refine z_aload_n hE d_Mo_orderOf_66 rfl ?_
  refine z_get hE d_Mo_orderOf_67 fl_Mo_41 (by assumption) rfl ?_
  refine z_aload_n hE d_Mo_orderOf_70 rfl ?_
  refine z_get hE d_Mo_orderOf_71 fl_Mo_26 (by assumption) rfl ?_
  refine z_callS hE d_Mo_orderOf_74 cl_Mo_131 (c_Mo_multiply l nx A8 A11 (MV_m V2 6 (by omega) (by omega)) (by omega) (by omega) (by omega)) rfl (Nat.le_of_ble_eq_true rfl) ⟨by decide, by decide⟩ ⟨by omega, by omega⟩ (fun r_3 g_3 nx_3 hp_3 => ?_) rfl
  try dsimp only [Option.toList, List.nil_append, List.cons_append]
  obtain ⟨rfl, rfl, N3, G3⟩ := hp_3
  try dsimp only [Option.toList, List.nil_append, List.cons_append]
  have V3 := MV_up V2 (by omega) N3 G3
  have m3 := V3.1
  have W3 : gW g g_3 P (P + 14) := gW_t W2 (g1_W G3 (by omega) (by omega))
  refine z_aload_n hE d_Mo_orderOf_77 rfl ?_
  refine z_get hE d_Mo_orderOf_78 fl_Mo_38 (by assumption) rfl ?_
  refine z_aload_n hE d_Mo_orderOf_81 rfl ?_
  refine z_get hE d_Mo_orderOf_82 fl_Mo_35 (by assumption) rfl ?_
  refine z_aload_n hE d_Mo_orderOf_85 rfl ?_
  refine z_get hE d_Mo_orderOf_86 fl_Mo_29 (by assumption) rfl ?_
  refine z_callS hE d_Mo_orderOf_89 cl_Mo_131 (c_Mo_multiply l nx (x := y.2.1) (y := x.2.2) (MV_m V3 10 (by omega) (by omega)) (MV_m V3 9 (by omega) (by omega)) (MV_m V3 7 (by omega) (by omega)) (by omega) (by omega) (by omega)) rfl (Nat.le_of_ble_eq_true rfl) ⟨by decide, by decide⟩ ⟨by omega, by omega⟩ (fun r_4 g_4 nx_4 hp_4 => ?_) rfl
  try dsimp only [Option.toList, List.nil_append, List.cons_append]
  obtain ⟨rfl, rfl, N4, G4⟩ := hp_4
  try dsimp only [Option.toList, List.nil_append, List.cons_append]
  have V4 := MV_up V3 (by omega) N4 G4
  have m4 := V4.1
  have W4 : gW g g_4 P (P + 14) := gW_t W3 (g1_W G4 (by omega) (by omega))
  have s5 : g_4 (P + 2) = some (.inl (1, 58, .inl sn)) := by
    rw [G4 _ (by omega), G3 _ (by omega), G2 _ (by omega) (by omega), G1 _ (by omega) (by omega)]; exact h2
  have T6 : MA g_4 (P + 6) (x.2.1 * y.2.2) := MV_m V4 6 (by omega) (by omega)
  refine z_aload_n hE d_Mo_orderOf_92 rfl ?_
  refine z_get hE d_Mo_orderOf_93 fl_Mo_26 (by assumption) rfl ?_
  refine z_aload_n hE d_Mo_orderOf_96 rfl ?_
  refine z_get hE d_Mo_orderOf_97 fl_Mo_29 (by assumption) rfl ?_
  refine z_callS hE d_Mo_orderOf_100 cl_Mo_69 (c_Mo_compared l nx T6 N4) rfl (Nat.le_of_ble_eq_true rfl) ⟨by decide, by decide⟩ ⟨by omega, by omega⟩ (fun r_100 g_100 nx_100 hp_100 => ?_) rfl
  obtain ⟨rfl, rfl, rfl⟩ := hp_100
  try dsimp only [Option.toList, List.nil_append, List.cons_append]
  refine z_aload_n hE d_Mo_orderOf_103 rfl ?_
  refine z_get hE d_Mo_orderOf_104 fl_Mo_13 (by assumption) rfl ?_
  refine z_iload_n hE d_Mo_orderOf_107 rfl ?_
  refine z_iald hE d_Mo_orderOf_108 (by assumption) (nI_in' ha (by omega)) ?_
  rw [nI_cl (by omega), sx]
  have hcm : cmpQ x y = if x.1 < 0 then -(cmpN (x.2.1 * y.2.2) (y.2.1 * x.2.2)) else cmpN (x.2.1 * y.2.2) (y.2.1 * x.2.2) := by unfold cmpQ cmpF; rw [if_pos hs]
  by_cases hl : x.1 < 0
  · refine z_if_ge (tgt := 116) hE d_Mo_orderOf_109 (by decide) (fun c_ => absurd c_ (fun z => absurd hl (Int32.not_lt.mpr z))) (fun _ => ?_)
    refine z_iconst (v := (-1)) hE d_Mo_orderOf_112 (by decide) ?_
    refine z_goto (tgt := 117) hE d_Mo_orderOf_113 (by decide) ?_
    refine z_imul (v := -(cmpN (x.2.1 * y.2.2) (y.2.1 * x.2.2))) hE d_Mo_orderOf_117 (by rw [Int32.mul_neg, Int32.mul_one]) ?_
    exact z_iret hE hQ d_Mo_orderOf_118 rfl (by omega) (by omega) ⟨by rw [hcm, if_pos hl], rfl, W4, _, V4⟩
  · refine z_if_ge (tgt := 116) hE d_Mo_orderOf_109 (by decide) (fun _ => ?_) (fun c_ => absurd c_ (fun z => z (Int32.not_lt.mp hl)))
    refine z_iconst (v := 1) hE d_Mo_orderOf_116 (by decide) ?_
    refine z_imul (v := cmpN (x.2.1 * y.2.2) (y.2.1 * x.2.2)) hE d_Mo_orderOf_117 (by rw [Int32.mul_one]) ?_
    exact z_iret hE hQ d_Mo_orderOf_118 rfl (by omega) (by omega) ⟨by rw [hcm, if_neg hl], rfl, W4, _, V4⟩
theorem c_Mo_code (l : Launch) {g : Gh} (nx : Nat) {P : Nat} {S : Sx} (hM : MW g P S) (hO : SOK S) : Ct l m_Mo_code 0 0 [.ref P] g nx (pM g P nx (spCode S)) := by
  obtain ⟨E0, t, ts, hV, hEQ⟩ := hM
  have h0 := hV.1
  obtain ⟨-, ⟨th, h1, h1'⟩, ⟨sn, A, B, h2, h3, h4, b4, b5, b6⟩, ⟨rm, h5, h5'⟩, -⟩ := id hV
  refine Ct.of (by decide) (Nat.le_of_ble_eq_true rfl) (fun E hE hQ => ?_)
  refine z_aload_n hE d_Mo_code_0 rfl ?_
  refine z_get hE d_Mo_code_1 fl_Mo_50 (by assumption) rfl ?_
  exact z_iret hE hQ d_Mo_code_4 rfl (by omega) (by omega) (pM_of rfl hV hEQ gW_r)
theorem c_Mo_grown (l : Launch) {g : Gh} (nx : Nat) {P : Nat} {S : Sx} (hM : MW g P S) (hO : SOK S) : Ct l m_Mo_grown 0 0 [.ref P] g nx (pM g P nx (spGrown S)) := by
  obtain ⟨E0, t, ts, hV, hEQ⟩ := hM
  have h0 := hV.1
  obtain ⟨-, ⟨th, h1, h1'⟩, ⟨sn, A, B, h2, h3, h4, b4, b5, b6⟩, ⟨rm, h5, h5'⟩, -⟩ := id hV
  refine Ct.of (by decide) (Nat.le_of_ble_eq_true rfl) (fun E hE hQ => ?_)
  refine z_aload_n hE d_Mo_grown_0 rfl ?_
  refine z_get hE d_Mo_grown_1 fl_Mo_110 (by assumption) rfl ?_
  exact z_iret hE hQ d_Mo_grown_4 rfl (by omega) (by omega) (pM_of rfl hV hEQ gW_r)
theorem c_Mo_value (l : Launch) {g : Gh} (nx : Nat) {P : Nat} {S : Sx} (hM : MW g P S) (hO : SOK S) (f : Int32) (x y : Int64) : Ct l m_Mo_value 0 0 [.ref P, .int f, .long x, .long y] g nx (pM g P nx (spValue S f x y)) := by
  obtain ⟨E0, t, ts, hV, hEQ⟩ := hM
  have h0 := hV.1
  obtain ⟨-, ⟨th, h1, h1'⟩, ⟨sn, A, B, h2, h3, h4, b4, b5, b6⟩, ⟨rm, h5, h5'⟩, -⟩ := id hV
  refine Ct.of (by decide) (Nat.le_of_ble_eq_true rfl) (fun E hE hQ => ?_)
  have out : ∀ lv, ¬ (inI f 0 15) → zJ E g nx 0 0 7 lv [] := by
    intro lv h
    refine z_ldc hE d_Mo_value_7 cn_Mo_141 ?_
    exact z_iret hE hQ d_Mo_value_9 rfl (by omega) (by omega) (pM_of (if_neg h) hV hEQ gW_r)
  refine z_iload_n hE d_Mo_value_0 rfl ?_
  refine z_callS hE d_Mo_value_1 cl_Mo_138 (c_Mo_isFraction l g nx f) rfl (Nat.le_of_ble_eq_true rfl) ⟨by decide, by decide⟩ ⟨by omega, by omega⟩ (fun r_1 g_1 nx_1 hp_1 => ?_) rfl
  obtain ⟨rfl, rfl, rfl⟩ := hp_1
  try dsimp only [Option.toList, List.nil_append, List.cons_append]
  by_cases hf : inI f 0 15
  case neg =>
    rw [if_neg hf]
    refine z_if_ne (tgt := 10) hE d_Mo_value_4 (by decide) (fun c_ => absurd c_ (by decide)) (fun _ => ?_)
    exact out _ (fun q => hf q)
  rw [if_pos hf]
  refine z_if_ne (tgt := 10) hE d_Mo_value_4 (by decide) (fun _ => ?_) (fun c_ => absurd c_ (by decide))
  obtain ⟨ef, zf, hf2⟩ := fx_of hf (by omega) (by omega)
  refine z_lload hE d_Mo_value_10 rfl ?_
  refine z_lconst (v := (0 : Int64)) hE d_Mo_value_12 (by decide) ?_
  refine z_lcmp hE d_Mo_value_13 ?_
  by_cases hy : y = 0
  case pos =>
    refine z_if_ne (tgt := 23) hE d_Mo_value_14 (by decide) (fun c_ => absurd c_ (fun z => z (by rw [lg_cmp_eq]; exact hy))) (fun _ => ?_)
    refine z_aload_n hE d_Mo_value_17 rfl ?_
    refine z_iconst (v := 5) hE d_Mo_value_18 (by decide) ?_
    refine z_callV hE d_Mo_value_19 cl_Mo_106 (c_Mo_fail l nx hV 5) (by assumption) cb_Mo rfl (Nat.le_of_ble_eq_true rfl) ⟨by decide, by decide⟩ ⟨by omega, by omega⟩ (fun r_9 g_9 nx_9 hp_9 => ?_) rfl
    try dsimp only [Option.toList, List.nil_append, List.cons_append]
    obtain ⟨rfl, rfl, V9, G9⟩ := hp_9
    try dsimp only [Option.toList, List.nil_append, List.cons_append]
    refine z_iret hE hQ d_Mo_value_22 rfl (by omega) (by omega) (pM_of (S := sC S 5) ?_ V9 (EQS_c hEQ rfl rfl) (gW_t gW_r (g1_W G9 (by omega) (by omega))))
    unfold spValue; rw [if_pos hf, if_pos hy]; rfl
  refine z_if_ne (tgt := 23) hE d_Mo_value_14 (by decide) (fun _ => ?_) (fun c_ => absurd c_ (fun z => hy (by rw [lg_cmp_eq] at z; exact z)))
  have hspec : spValue S f x y = mkS S (fx f) (mk (sgL x * sgL y) (szL x) (szL y)) := by unfold spValue; rw [if_pos hf, if_neg hy]
  have bx := szL_le x
  have by0 := szL_le y
  have hy0 := szL_0 hy
  have next : ∀ lv, lG lv 0 = some (.ref P) → lG lv 1 = some (.int f) → lG lv 2 = some (.long x) → lG lv 4 = some (.long y) → zJ E g nx 0 0 39 lv [.long (lN (szL x)), .ref (P + 6)] := by
    intro lv l0 l1 l2 l4
    refine z_sub (lv' := [(0, .ref P), (1, .int f), (2, .long x), (4, .long y)]) (by simp only [List.map, l0, l1, l2, l4]) ?_
    refine z_callS hE d_Mo_value_39 cl_Mo_142 (c_Mo_setLong l nx (MV_m hV 6 (by omega) (by omega)) (szL x) (by omega)) rfl (Nat.le_of_ble_eq_true rfl) ⟨by decide, by decide⟩ ⟨by omega, by omega⟩ (fun r_1 g_1 nx_1 hp_1 => ?_) rfl
    try dsimp only [Option.toList, List.nil_append, List.cons_append]
    obtain ⟨rfl, rfl, N1, G1⟩ := hp_1
    try dsimp only [Option.toList, List.nil_append, List.cons_append]
    have V1 := MV_up hV (by omega) N1 G1
    have m1 := V1.1
    have W1 : gW g g_1 P (P + 14) := gW_t gW_r (g1_W G1 (by omega) (by omega))
    have next2 : ∀ lv, lG lv 0 = some (.ref P) → lG lv 1 = some (.int f) → lG lv 2 = some (.long x) → lG lv 4 = some (.long y) → zJ E g_1 nx 0 0 61 lv [.long (lN (szL y)), .ref (P + 7)] := by
      intro lv l0 l1 l2 l4
      refine z_sub (lv' := [(0, .ref P), (1, .int f), (2, .long x), (4, .long y)]) (by simp only [List.map, l0, l1, l2, l4]) ?_
      refine z_callS hE d_Mo_value_61 cl_Mo_142 (c_Mo_setLong l nx (MV_m V1 7 (by omega) (by omega)) (szL y) (by omega)) rfl (Nat.le_of_ble_eq_true rfl) ⟨by decide, by decide⟩ ⟨by omega, by omega⟩ (fun r_2 g_2 nx_2 hp_2 => ?_) rfl
      try dsimp only [Option.toList, List.nil_append, List.cons_append]
      obtain ⟨rfl, rfl, N2, G2⟩ := hp_2
      try dsimp only [Option.toList, List.nil_append, List.cons_append]
      have V2 := MV_up V1 (by omega) N2 G2
      have m2 := V2.1
      have W2 : gW g g_2 P (P + 14) := gW_t W1 (g1_W G2 (by omega) (by omega))
      have fin : ∀ (s : Int32) lv, (szL x ≠ 0 → s = sgL x * sgL y) → lG lv 0 = some (.ref P) → lG lv 1 = some (.int f) → zJ E g_2 nx 0 0 96 lv [.int s, .ref P] := by
        intro s lv hs l0 l1
        refine z_sub (lv' := [(0, .ref P), (1, .int f)]) (by simp only [List.map, l0, l1]) ?_
        refine z_put hE d_Mo_value_96 fl_Mo_99 ct_Mo ff_Mo_9 (by assumption) rfl rfl (Nat.le_of_ble_eq_true rfl) ?_
        have V3 := MV_put V2 S.2.2.2.1 S.2.2.2.2 s
        have m3 := V3.1
        refine z_aload_n hE d_Mo_value_99 rfl ?_
        refine z_iload_n hE d_Mo_value_100 rfl ?_
        rw [ef]
        refine z_callV hE d_Mo_value_101 cl_Mo_146 (c_Mo_made l nx V3 hEQ (by omega : fx f < 16) (by show 0 < szL y; omega) (by show 2 * szL y ≤ _; exact Nat.le_trans (Nat.mul_le_mul_left 2 by0) (by decide))) (by assumption) cb_Mo rfl (Nat.le_of_ble_eq_true rfl) ⟨by decide, by decide⟩ ⟨by omega, by omega⟩ (fun r_4 g_4 nx_4 hp_4 => ?_) rfl
        try dsimp only [Option.toList, List.nil_append, List.cons_append]
        exact z_mret hE hQ d_Mo_value_104 rfl (by omega) (by omega) (gW_t W2 (gW_S (Nat.le_refl _) (by omega))) (by rw [hspec]; exact congrArg (mkS S (fx f)) (mk_s (fun q => (hs q).symm))) hp_4
      have sx : ∀ z : Int64, z ≠ 0 → sgL z = if z < 0 then -1 else 1 := fun z hz => by unfold sgL; rw [if_neg hz]
      have fin2 : ∀ (z : Int32) lv, z = (if x < 0 then 1 else 0) → lG lv 0 = some (.ref P) → lG lv 1 = some (.int f) → lG lv 4 = some (.long y) → zJ E g_2 nx 0 0 76 lv [.int z, .ref P] := by
        intro z lv hz l0 l1 l4
        refine z_sub (lv' := [(0, .ref P), (1, .int f), (4, .long y)]) (by simp only [List.map, l0, l1, l4]) ?_
        have fin3 : ∀ (z' : Int32) lv, z' = (if y < 0 then 1 else 0) → lG lv 0 = some (.ref P) → lG lv 1 = some (.int f) → zJ E g_2 nx 0 0 88 lv [.int z', .int z, .ref P] := by
          intro z' lv hz' l0 l1
          refine z_sub (lv' := [(0, .ref P), (1, .int f)]) (by simp only [List.map, l0, l1]) ?_
          have hx0 : szL x ≠ 0 → x ≠ 0 := fun q w => q (by rw [w]; rfl)
          by_cases hzz : z = z'
          · refine z_icmp_ne (tgt := 95) hE d_Mo_value_88 (by decide) (fun c_ => absurd c_ (fun w => w hzz)) (fun _ => ?_)
            refine z_iconst (v := 1) hE d_Mo_value_91 (by decide) ?_
            refine z_goto (tgt := 96) hE d_Mo_value_92 (by decide) ?_
            refine fin 1 _ (fun q => ?_) rfl rfl
            rw [sx x (hx0 q), sx y hy]
            rw [hz, hz'] at hzz
            by_cases h1 : x < 0 <;> by_cases h2 : y < 0
            · rw [if_pos h1, if_pos h2]; rfl
            · rw [if_pos h1, if_neg h2] at hzz; exact absurd hzz (by decide)
            · rw [if_neg h1, if_pos h2] at hzz; exact absurd hzz (by decide)
            · rw [if_neg h1, if_neg h2]; rfl
          · refine z_icmp_ne (tgt := 95) hE d_Mo_value_88 (by decide) (fun _ => ?_) (fun c_ => absurd c_ (hzz))
            refine z_iconst (v := (-1)) hE d_Mo_value_95 (by decide) ?_
            refine fin (-1) _ (fun q => ?_) rfl rfl
            rw [sx x (hx0 q), sx y hy]
            rw [hz, hz'] at hzz
            by_cases h1 : x < 0 <;> by_cases h2 : y < 0
            · rw [if_pos h1, if_pos h2] at hzz; exact absurd rfl hzz
            · rw [if_pos h1, if_neg h2]; rfl
            · rw [if_neg h1, if_pos h2]; rfl
            · rw [if_neg h1, if_neg h2] at hzz; exact absurd rfl hzz
        refine z_lload hE d_Mo_value_76 rfl ?_
        refine z_lconst (v := (0 : Int64)) hE d_Mo_value_78 (by decide) ?_
        refine z_lcmp hE d_Mo_value_79 ?_
        refine z_if_ge (tgt := 87) hE d_Mo_value_80 (by decide) (fun c_80 => ?_) (fun c_80 => ?_)
        · rw [lg_cmp_ge] at c_80
          refine z_iconst (v := 0) hE d_Mo_value_87 (by decide) ?_
          exact fin3 0 _ (by rw [if_neg (Int64.not_lt.mpr c_80)]) rfl rfl
        · rw [lg_cmp_ge] at c_80
          refine z_iconst (v := 1) hE d_Mo_value_83 (by decide) ?_
          refine z_goto (tgt := 88) hE d_Mo_value_84 (by decide) ?_
          exact fin3 1 _ (by rw [if_pos (Int64.not_le.mp c_80)]) rfl rfl
      refine z_aload_n hE d_Mo_value_64 rfl ?_
      refine z_lload_n hE d_Mo_value_65 rfl ?_
      refine z_lconst (v := (0 : Int64)) hE d_Mo_value_66 (by decide) ?_
      refine z_lcmp hE d_Mo_value_67 ?_
      refine z_if_ge (tgt := 75) hE d_Mo_value_68 (by decide) (fun c_68 => ?_) (fun c_68 => ?_)
      · rw [lg_cmp_ge] at c_68
        refine z_iconst (v := 0) hE d_Mo_value_75 (by decide) ?_
        exact fin2 0 _ (by rw [if_neg (Int64.not_lt.mpr c_68)]) rfl rfl rfl
      · rw [lg_cmp_ge] at c_68
        refine z_iconst (v := 1) hE d_Mo_value_71 (by decide) ?_
        refine z_goto (tgt := 76) hE d_Mo_value_72 (by decide) ?_
        exact fin2 1 _ (by rw [if_pos (Int64.not_le.mp c_68)]) rfl rfl rfl
    refine z_aload_n hE d_Mo_value_42 rfl ?_
    refine z_get hE d_Mo_value_43 fl_Mo_29 (by assumption) rfl ?_
    refine z_lload hE d_Mo_value_46 rfl ?_
    refine z_lconst (v := (0 : Int64)) hE d_Mo_value_48 (by decide) ?_
    refine z_lcmp hE d_Mo_value_49 ?_
    refine z_if_ge (tgt := 59) hE d_Mo_value_50 (by decide) (fun c_50 => ?_) (fun c_50 => ?_)
    · rw [lg_cmp_ge] at c_50
      refine z_lload hE d_Mo_value_59 rfl ?_
      have hh := next2 [(0, .ref P), (1, .int f), (2, .long x), (4, .long y)] rfl rfl rfl rfl
      rw [← szL_nn (Int64.not_lt.mpr c_50)] at hh
      exact hh
    · rw [lg_cmp_ge] at c_50
      refine z_lload hE d_Mo_value_53 rfl ?_
      refine z_lneg (v := lN (szL y)) hE d_Mo_value_55 (szL_neg (Int64.not_le.mp c_50)) ?_
      refine z_goto (tgt := 61) hE d_Mo_value_56 (by decide) ?_
      exact next2 _ rfl rfl rfl rfl
  refine z_aload_n hE d_Mo_value_23 rfl ?_
  refine z_get hE d_Mo_value_24 fl_Mo_26 (by assumption) rfl ?_
  refine z_lload_n hE d_Mo_value_27 rfl ?_
  refine z_lconst (v := (0 : Int64)) hE d_Mo_value_28 (by decide) ?_
  refine z_lcmp hE d_Mo_value_29 ?_
  refine z_if_ge (tgt := 38) hE d_Mo_value_30 (by decide) (fun c_30 => ?_) (fun c_30 => ?_)
  · rw [lg_cmp_ge] at c_30
    refine z_lload_n hE d_Mo_value_38 rfl ?_
    have hh := next [(0, .ref P), (1, .int f), (2, .long x), (4, .long y)] rfl rfl rfl rfl
    rw [← szL_nn (Int64.not_lt.mpr c_30)] at hh
    exact hh
  · rw [lg_cmp_ge] at c_30
    refine z_lload_n hE d_Mo_value_33 rfl ?_
    refine z_lneg (v := lN (szL x)) hE d_Mo_value_34 (szL_neg (Int64.not_le.mp c_30)) ?_
    refine z_goto (tgt := 39) hE d_Mo_value_35 (by decide) ?_
    exact next _ rfl rfl rfl rfl
theorem c_Mo_copy (l : Launch) {g : Gh} (nx : Nat) {P : Nat} {S : Sx} (hM : MW g P S) (hO : SOK S) (f a : Int32) : Ct l m_Mo_copy 0 0 [.ref P, .int f, .int a] g nx (pM g P nx (spCopy S f a)) := by
  obtain ⟨E0, t, ts, hV, hEQ⟩ := hM
  have h0 := hV.1
  obtain ⟨-, ⟨th, h1, h1'⟩, ⟨sn, A, B, h2, h3, h4, b4, b5, b6⟩, ⟨rm, h5, h5'⟩, -⟩ := id hV
  refine Ct.of (by decide) (Nat.le_of_ble_eq_true rfl) (fun E hE hQ => ?_)
  have out : ∀ lv, ¬ (inI f 0 15 ∧ inI a 0 15) → zJ E g nx 0 0 14 lv [] := by
    intro lv h
    refine z_ldc hE d_Mo_copy_14 cn_Mo_141 ?_
    exact z_iret hE hQ d_Mo_copy_16 rfl (by omega) (by omega) (pM_of (if_neg h) hV hEQ gW_r)
  refine z_iload_n hE d_Mo_copy_0 rfl ?_
  refine z_callS hE d_Mo_copy_1 cl_Mo_138 (c_Mo_isFraction l g nx f) rfl (Nat.le_of_ble_eq_true rfl) ⟨by decide, by decide⟩ ⟨by omega, by omega⟩ (fun r_1 g_1 nx_1 hp_1 => ?_) rfl
  obtain ⟨rfl, rfl, rfl⟩ := hp_1
  try dsimp only [Option.toList, List.nil_append, List.cons_append]
  by_cases hf : inI f 0 15
  case neg =>
    rw [if_neg hf]
    refine z_if_eq (tgt := 14) hE d_Mo_copy_4 (by decide) (fun _ => ?_) (fun c_ => absurd c_ (by decide))
    exact out _ (fun q => hf q.1)
  rw [if_pos hf]
  refine z_if_eq (tgt := 14) hE d_Mo_copy_4 (by decide) (fun c_ => absurd c_ (by decide)) (fun _ => ?_)
  refine z_iload_n hE d_Mo_copy_7 rfl ?_
  refine z_callS hE d_Mo_copy_8 cl_Mo_138 (c_Mo_isFraction l g nx a) rfl (Nat.le_of_ble_eq_true rfl) ⟨by decide, by decide⟩ ⟨by omega, by omega⟩ (fun r_8 g_8 nx_8 hp_8 => ?_) rfl
  obtain ⟨rfl, rfl, rfl⟩ := hp_8
  try dsimp only [Option.toList, List.nil_append, List.cons_append]
  by_cases ha : inI a 0 15
  case neg =>
    rw [if_neg ha]
    refine z_if_ne (tgt := 17) hE d_Mo_copy_11 (by decide) (fun c_ => absurd c_ (by decide)) (fun _ => ?_)
    exact out _ (fun q => ha q.2)
  rw [if_pos ha]
  refine z_if_ne (tgt := 17) hE d_Mo_copy_11 (by decide) (fun _ => ?_) (fun c_ => absurd c_ (by decide))
  obtain ⟨ef, zf, hf2⟩ := fx_of hf (by omega) (by omega)
  obtain ⟨ea, za, ha2⟩ := fx_of ha (by omega) (by omega)
  refine z_aload_n hE d_Mo_copy_17 rfl ?_
  refine z_get hE d_Mo_copy_18 fl_Mo_7 (by assumption) rfl ?_
  refine z_iload_n hE d_Mo_copy_21 rfl ?_
  rw [ea]
  refine z_zald hE d_Mo_copy_22 (by assumption) (nI_in' (by omega : fx a < 58) (by omega)) ?_
  rw [nI_cl (by omega), h1' (fx a) (by omega), hEQ.1 (fx a) (by omega)]
  cases hq : S.1 (fx a) with
  | none =>
    rw [show (none : Option Qf).isSome = false from rfl, if_neg (by decide)]
    refine z_if_ne (tgt := 32) hE d_Mo_copy_23 (by decide) (fun c_ => absurd c_ (fun z => z rfl)) (fun _ => ?_)
    refine z_aload_n hE d_Mo_copy_26 rfl ?_
    refine z_iconst (v := 1) hE d_Mo_copy_27 (by decide) ?_
    refine z_callV hE d_Mo_copy_28 cl_Mo_106 (c_Mo_fail l nx hV 1) (by assumption) cb_Mo rfl (Nat.le_of_ble_eq_true rfl) ⟨by decide, by decide⟩ ⟨by omega, by omega⟩ (fun r_9 g_9 nx_9 hp_9 => ?_) rfl
    try dsimp only [Option.toList, List.nil_append, List.cons_append]
    obtain ⟨rfl, rfl, V9, G9⟩ := hp_9
    try dsimp only [Option.toList, List.nil_append, List.cons_append]
    refine z_iret hE hQ d_Mo_copy_31 rfl (by omega) (by omega) (pM_of (S := sC S 1) ?_ V9 (EQS_c hEQ rfl rfl) (gW_t gW_r (g1_W G9 (by omega) (by omega))))
    unfold spCopy; rw [if_pos ⟨hf, ha⟩, hq]; rfl
  | some q =>
    rw [show (some q).isSome = true from rfl, if_pos rfl]
    refine z_if_ne (tgt := 32) hE d_Mo_copy_23 (by decide) (fun _ => ?_) (fun c_ => absurd c_ (by decide))
    refine z_aload_n hE d_Mo_copy_32 rfl ?_
    refine z_iload_n hE d_Mo_copy_33 rfl ?_
    refine z_iload_n hE d_Mo_copy_34 rfl ?_
    rw [ef]
    refine z_callV hE d_Mo_copy_35 cl_Mo_149 (c_Mo_same l nx (a := fx a) (b := fx f) hV (by omega) (by omega)) (by assumption) cb_Mo rfl (Nat.le_of_ble_eq_true rfl) ⟨by decide, by decide⟩ ⟨by omega, by omega⟩ (fun r_1 g_1 nx_1 hp_1 => ?_) rfl
    try dsimp only [Option.toList, List.nil_append, List.cons_append]
    obtain ⟨rfl, rfl, V1, W1⟩ := hp_1
    try dsimp only [Option.toList, List.nil_append, List.cons_append]
    rw [hEQ.1 (fx a) (by omega), hq] at V1
    have hE1 := EQS_F (f := fx f) (q := some q) hEQ (by omega)
    have m1 := V1.1
    obtain ⟨-, -, ⟨sn1, A1, B1, k2, -, -, -, -, k6⟩, -⟩ := id V1
    have hs := (k6 (fx f) (by omega) q (if_pos rfl)).1
    refine z_aload_n hE d_Mo_copy_38 rfl ?_
    refine z_aload_n hE d_Mo_copy_39 rfl ?_
    refine z_get hE d_Mo_copy_40 fl_Mo_13 (by assumption) rfl ?_
    refine z_iload_n hE d_Mo_copy_43 rfl ?_
    refine z_iald hE d_Mo_copy_44 (by assumption) (nI_in' (by omega : fx f < 58) (by omega)) ?_
    rw [nI_cl (by omega), hs]
    refine z_callV hE d_Mo_copy_45 cl_Mo_116 (c_Mo_done l nx V1 q.1) (by assumption) cb_Mo rfl (Nat.le_of_ble_eq_true rfl) ⟨by decide, by decide⟩ ⟨by omega, by omega⟩ (fun r_9 g_9 nx_9 hp_9 => ?_) rfl
    try dsimp only [Option.toList, List.nil_append, List.cons_append]
    obtain ⟨rfl, rfl, V9, G9⟩ := hp_9
    try dsimp only [Option.toList, List.nil_append, List.cons_append]
    refine z_iret hE hQ d_Mo_copy_48 rfl (by omega) (by omega) (pM_of (S := sC (sF S (fx f) (some q)) 0) ?_ V9 (EQS_c hE1 rfl rfl) (gW_t W1 (g1_W G9 (by omega) (by omega))))
    unfold spCopy; rw [if_pos ⟨hf, ha⟩, hq]; rfl
theorem c_Mo_nothing (l : Launch) {g : Gh} (nx : Nat) {P : Nat} {S : Sx} (hM : MW g P S) (hO : SOK S) (f : Int32) : Ct l m_Mo_nothing 0 0 [.ref P, .int f] g nx (pM g P nx (spNothing S f)) := by
  obtain ⟨E0, t, ts, hV, hEQ⟩ := hM
  have h0 := hV.1
  obtain ⟨-, ⟨th, h1, h1'⟩, ⟨sn, A, B, h2, h3, h4, b4, b5, b6⟩, ⟨rm, h5, h5'⟩, -⟩ := id hV
  refine Ct.of (by decide) (Nat.le_of_ble_eq_true rfl) (fun E hE hQ => ?_)
  have out : ∀ lv, ¬ (inI f 0 15) → zJ E g nx 0 0 7 lv [] := by
    intro lv h
    refine z_ldc hE d_Mo_nothing_7 cn_Mo_141 ?_
    exact z_iret hE hQ d_Mo_nothing_9 rfl (by omega) (by omega) (pM_of (if_neg h) hV hEQ gW_r)
  refine z_iload_n hE d_Mo_nothing_0 rfl ?_
  refine z_callS hE d_Mo_nothing_1 cl_Mo_138 (c_Mo_isFraction l g nx f) rfl (Nat.le_of_ble_eq_true rfl) ⟨by decide, by decide⟩ ⟨by omega, by omega⟩ (fun r_1 g_1 nx_1 hp_1 => ?_) rfl
  obtain ⟨rfl, rfl, rfl⟩ := hp_1
  try dsimp only [Option.toList, List.nil_append, List.cons_append]
  by_cases hf : inI f 0 15
  case neg =>
    rw [if_neg hf]
    refine z_if_ne (tgt := 10) hE d_Mo_nothing_4 (by decide) (fun c_ => absurd c_ (by decide)) (fun _ => ?_)
    exact out _ (fun q => hf q)
  rw [if_pos hf]
  refine z_if_ne (tgt := 10) hE d_Mo_nothing_4 (by decide) (fun _ => ?_) (fun c_ => absurd c_ (by decide))
  obtain ⟨ef, zf, hf2⟩ := fx_of hf (by omega) (by omega)
  have fin : ∀ (z : Int32) lv, z = (if (S.1 (fx f)).isSome then 1 else 0) → lG lv 0 = some (.ref P) → lG lv 1 = some (.int (nI (fx f))) → zJ E g nx 0 0 24 lv [.int z] := by
    intro z lv hz l0 l1
    refine z_sub (lv' := [(0, .ref P), (1, .int (nI (fx f)))]) (by simp only [List.map, l0, l1]) ?_
    refine z_istore_n hE d_Mo_nothing_24 rfl (by decide) ?_
    refine z_aload_n hE d_Mo_nothing_25 rfl ?_
    refine z_get hE d_Mo_nothing_26 fl_Mo_7 (by assumption) rfl ?_
    refine z_iload_n hE d_Mo_nothing_29 rfl ?_
    refine z_iconst (v := 0) hE d_Mo_nothing_30 (by decide) ?_
    refine z_zast hE d_Mo_nothing_31 (by assumption) (nI_in' (by omega : fx f < 58) (by omega)) ?_
    rw [nI_cl (by omega), show vp_nar .boolean 0 = (if (none : Option Qf).isSome then 1 else 0) from nar01 false]
    refine z_iload_n hE d_Mo_nothing_32 rfl ?_
    refine z_iret hE hQ d_Mo_nothing_33 rfl (by omega) (by omega) (pM_of (S := sF S (fx f) none) (E := upE E0 (fx f) none) (ts := ts) (t := t) (by unfold spNothing; rw [if_pos hf, hz]) ?_ (EQS_F hEQ (by omega)) (gW_S (by omega) (by omega)))
    refine ⟨by rw [gS_n (by omega)]; exact h0, ⟨_, gS_s, fun j hj => ?_⟩, ⟨sn, A, B, by rw [gS_n (by omega)]; exact h2, by rw [gS_n (by omega)]; exact h3, by rw [gS_n (by omega)]; exact h4, b4, b5, fun j hj q hq => ?_⟩, ⟨rm, by rw [gS_n (by omega)]; exact h5, h5'⟩, fun k k1 k2 => MA_o (MV_m hV k k1 k2) g1_S (by omega)⟩
    · unfold upd upE
      by_cases h : j = fx f
      · rw [if_pos h, if_pos h]
      · rw [if_neg h, if_neg h]; exact h1' j hj
    · unfold upE at hq
      by_cases h : j = fx f
      · rw [if_pos h] at hq; cases hq
      · rw [if_neg h] at hq; exact b6 j hj q hq
  refine z_aload_n hE d_Mo_nothing_10 rfl ?_
  refine z_get hE d_Mo_nothing_11 fl_Mo_7 (by assumption) rfl ?_
  refine z_iload_n hE d_Mo_nothing_14 rfl ?_
  rw [ef]
  refine z_zald hE d_Mo_nothing_15 (by assumption) (nI_in' (by omega : fx f < 58) (by omega)) ?_
  rw [nI_cl (by omega), h1' (fx f) (by omega), hEQ.1 (fx f) (by omega)]
  cases hq : S.1 (fx f) with
  | none =>
    rw [show (none : Option Qf).isSome = false from rfl, if_neg (by decide)]
    refine z_if_eq (tgt := 23) hE d_Mo_nothing_16 (by decide) (fun _ => ?_) (fun c_ => absurd c_ (fun z => z rfl))
    refine z_iconst (v := 0) hE d_Mo_nothing_23 (by decide) ?_
    exact fin 0 _ (by rw [hq]; rfl) rfl (by rw [← ef]; rfl)
  | some q =>
    rw [show (some q).isSome = true from rfl, if_pos rfl]
    refine z_if_eq (tgt := 23) hE d_Mo_nothing_16 (by decide) (fun c_ => absurd c_ (by decide)) (fun _ => ?_)
    refine z_iconst (v := 1) hE d_Mo_nothing_19 (by decide) ?_
    refine z_goto (tgt := 24) hE d_Mo_nothing_20 (by decide) ?_
    exact fin 1 _ (by rw [hq]; rfl) rfl (by rw [← ef]; rfl)
theorem c_Mo_sign (l : Launch) {g : Gh} (nx : Nat) {P : Nat} {S : Sx} (hM : MW g P S) (hO : SOK S) (f : Int32) : Ct l m_Mo_sign 0 0 [.ref P, .int f] g nx (pM g P nx (spSign S f)) := by
  obtain ⟨E0, t, ts, hV, hEQ⟩ := hM
  have h0 := hV.1
  obtain ⟨-, ⟨th, h1, h1'⟩, ⟨sn, A, B, h2, h3, h4, b4, b5, b6⟩, ⟨rm, h5, h5'⟩, -⟩ := id hV
  refine Ct.of (by decide) (Nat.le_of_ble_eq_true rfl) (fun E hE hQ => ?_)
  have out : ∀ lv, ¬ (inI f 0 15) → zJ E g nx 0 0 7 lv [] := by
    intro lv h
    refine z_ldc hE d_Mo_sign_7 cn_Mo_141 ?_
    exact z_iret hE hQ d_Mo_sign_9 rfl (by omega) (by omega) (pM_of (if_neg h) hV hEQ gW_r)
  refine z_iload_n hE d_Mo_sign_0 rfl ?_
  refine z_callS hE d_Mo_sign_1 cl_Mo_138 (c_Mo_isFraction l g nx f) rfl (Nat.le_of_ble_eq_true rfl) ⟨by decide, by decide⟩ ⟨by omega, by omega⟩ (fun r_1 g_1 nx_1 hp_1 => ?_) rfl
  obtain ⟨rfl, rfl, rfl⟩ := hp_1
  try dsimp only [Option.toList, List.nil_append, List.cons_append]
  by_cases hf : inI f 0 15
  case neg =>
    rw [if_neg hf]
    refine z_if_ne (tgt := 10) hE d_Mo_sign_4 (by decide) (fun c_ => absurd c_ (by decide)) (fun _ => ?_)
    exact out _ (fun q => hf q)
  rw [if_pos hf]
  refine z_if_ne (tgt := 10) hE d_Mo_sign_4 (by decide) (fun _ => ?_) (fun c_ => absurd c_ (by decide))
  obtain ⟨ef, zf, hf2⟩ := fx_of hf (by omega) (by omega)
  refine z_aload_n hE d_Mo_sign_10 rfl ?_
  refine z_get hE d_Mo_sign_11 fl_Mo_7 (by assumption) rfl ?_
  refine z_iload_n hE d_Mo_sign_14 rfl ?_
  rw [ef]
  refine z_zald hE d_Mo_sign_15 (by assumption) (nI_in' (by omega : fx f < 58) (by omega)) ?_
  rw [nI_cl (by omega), h1' (fx f) (by omega), hEQ.1 (fx f) (by omega)]
  cases hq : S.1 (fx f) with
  | none =>
    rw [show (none : Option Qf).isSome = false from rfl, if_neg (by decide)]
    refine z_if_eq (tgt := 32) hE d_Mo_sign_16 (by decide) (fun _ => ?_) (fun c_ => absurd c_ (fun z => z rfl))
    refine z_aload_n hE d_Mo_sign_32 rfl ?_
    refine z_iconst (v := 1) hE d_Mo_sign_33 (by decide) ?_
    refine z_callV hE d_Mo_sign_34 cl_Mo_106 (c_Mo_fail l nx hV 1) (by assumption) cb_Mo rfl (Nat.le_of_ble_eq_true rfl) ⟨by decide, by decide⟩ ⟨by omega, by omega⟩ (fun r_9 g_9 nx_9 hp_9 => ?_) rfl
    try dsimp only [Option.toList, List.nil_append, List.cons_append]
    obtain ⟨rfl, rfl, V9, G9⟩ := hp_9
    try dsimp only [Option.toList, List.nil_append, List.cons_append]
    refine z_iret hE hQ d_Mo_sign_37 rfl (by omega) (by omega) (pM_of (S := sC S 1) ?_ V9 (EQS_c hEQ rfl rfl) (gW_t gW_r (g1_W G9 (by omega) (by omega))))
    unfold spSign; rw [if_pos hf, hq]; rfl
  | some q =>
    rw [show (some q).isSome = true from rfl, if_pos rfl]
    have hs := (b6 (fx f) (by omega) q ((hEQ.1 (fx f) (by omega)).trans hq)).1
    refine z_if_eq (tgt := 32) hE d_Mo_sign_16 (by decide) (fun c_ => absurd c_ (by decide)) (fun _ => ?_)
    refine z_aload_n hE d_Mo_sign_19 rfl ?_
    refine z_aload_n hE d_Mo_sign_20 rfl ?_
    refine z_get hE d_Mo_sign_21 fl_Mo_13 (by assumption) rfl ?_
    refine z_iload_n hE d_Mo_sign_24 rfl ?_
    refine z_iald hE d_Mo_sign_25 (by assumption) (nI_in' (by omega : fx f < 58) (by omega)) ?_
    rw [nI_cl (by omega), hs]
    refine z_callV hE d_Mo_sign_26 cl_Mo_116 (c_Mo_done l nx hV q.1) (by assumption) cb_Mo rfl (Nat.le_of_ble_eq_true rfl) ⟨by decide, by decide⟩ ⟨by omega, by omega⟩ (fun r_9 g_9 nx_9 hp_9 => ?_) rfl
    try dsimp only [Option.toList, List.nil_append, List.cons_append]
    obtain ⟨rfl, rfl, V9, G9⟩ := hp_9
    try dsimp only [Option.toList, List.nil_append, List.cons_append]
    refine z_goto (tgt := 37) hE d_Mo_sign_29 (by decide) ?_
    refine z_iret hE hQ d_Mo_sign_37 rfl (by omega) (by omega) (pM_of (S := sC S 0) ?_ V9 (EQS_c hEQ rfl rfl) (gW_t gW_r (g1_W G9 (by omega) (by omega))))
    unfold spSign; rw [if_pos hf, hq]; rfl
theorem c_Mo_small (l : Launch) {g : Gh} (nx : Nat) {P : Nat} {S : Sx} (hM : MW g P S) (hO : SOK S) (f : Int32) : Ct l m_Mo_small 0 0 [.ref P, .int f] g nx (pM g P nx (spSmall S f)) := by
  obtain ⟨E0, t, ts, hV, hEQ⟩ := hM
  have h0 := hV.1
  obtain ⟨-, ⟨th, h1, h1'⟩, ⟨sn, A, B, h2, h3, h4, b4, b5, b6⟩, ⟨rm, h5, h5'⟩, -⟩ := id hV
  refine Ct.of (by decide) (Nat.le_of_ble_eq_true rfl) (fun E hE hQ => ?_)
  have out : ∀ lv, ¬ (inI f 0 15) → zJ E g nx 0 0 7 lv [] := by
    intro lv h
    refine z_ldc hE d_Mo_small_7 cn_Mo_141 ?_
    exact z_iret hE hQ d_Mo_small_9 rfl (by omega) (by omega) (pM_of (if_neg h) hV hEQ gW_r)
  refine z_iload_n hE d_Mo_small_0 rfl ?_
  refine z_callS hE d_Mo_small_1 cl_Mo_138 (c_Mo_isFraction l g nx f) rfl (Nat.le_of_ble_eq_true rfl) ⟨by decide, by decide⟩ ⟨by omega, by omega⟩ (fun r_1 g_1 nx_1 hp_1 => ?_) rfl
  obtain ⟨rfl, rfl, rfl⟩ := hp_1
  try dsimp only [Option.toList, List.nil_append, List.cons_append]
  by_cases hf : inI f 0 15
  case neg =>
    rw [if_neg hf]
    refine z_if_ne (tgt := 10) hE d_Mo_small_4 (by decide) (fun c_ => absurd c_ (by decide)) (fun _ => ?_)
    exact out _ (fun q => hf q)
  rw [if_pos hf]
  refine z_if_ne (tgt := 10) hE d_Mo_small_4 (by decide) (fun _ => ?_) (fun c_ => absurd c_ (by decide))
  obtain ⟨ef, zf, hf2⟩ := fx_of hf (by omega) (by omega)
  refine z_aload_n hE d_Mo_small_10 rfl ?_
  refine z_get hE d_Mo_small_11 fl_Mo_7 (by assumption) rfl ?_
  refine z_iload_n hE d_Mo_small_14 rfl ?_
  rw [ef]
  refine z_zald hE d_Mo_small_15 (by assumption) (nI_in' (by omega : fx f < 58) (by omega)) ?_
  rw [nI_cl (by omega), h1' (fx f) (by omega), hEQ.1 (fx f) (by omega)]
  cases hq : S.1 (fx f) with
  | none =>
    rw [show (none : Option Qf).isSome = false from rfl, if_neg (by decide)]
    refine z_if_eq (tgt := 39) hE d_Mo_small_16 (by decide) (fun _ => ?_) (fun c_ => absurd c_ (fun z => z rfl))
    refine z_aload_n hE d_Mo_small_39 rfl ?_
    refine z_iconst (v := 1) hE d_Mo_small_40 (by decide) ?_
    refine z_callV hE d_Mo_small_41 cl_Mo_106 (c_Mo_fail l nx hV 1) (by assumption) cb_Mo rfl (Nat.le_of_ble_eq_true rfl) ⟨by decide, by decide⟩ ⟨by omega, by omega⟩ (fun r_9 g_9 nx_9 hp_9 => ?_) rfl
    try dsimp only [Option.toList, List.nil_append, List.cons_append]
    obtain ⟨rfl, rfl, V9, G9⟩ := hp_9
    try dsimp only [Option.toList, List.nil_append, List.cons_append]
    refine z_iret hE hQ d_Mo_small_44 rfl (by omega) (by omega) (pM_of (S := sC S 1) ?_ V9 (EQS_c hEQ rfl rfl) (gW_t gW_r (g1_W G9 (by omega) (by omega))))
    unfold spSmall; rw [if_pos hf, hq]; rfl
  | some q =>
    rw [show (some q).isSome = true from rfl, if_pos rfl]
    refine z_if_eq (tgt := 39) hE d_Mo_small_16 (by decide) (fun c_ => absurd c_ (by decide)) (fun _ => ?_)
    refine z_aload_n hE d_Mo_small_19 rfl ?_
    refine z_aload_n hE d_Mo_small_20 rfl ?_
    refine z_iload_n hE d_Mo_small_21 rfl ?_
    refine z_callV hE d_Mo_small_22 cl_Mo_113 (c_Mo_isSmall l nx hV (by omega) ((hEQ.1 (fx f) (by omega)).trans hq)) (by assumption) cb_Mo rfl (Nat.le_of_ble_eq_true rfl) ⟨by decide, by decide⟩ ⟨by omega, by omega⟩ (fun r_1 g_1 nx_1 hp_1 => ?_) rfl
    try dsimp only [Option.toList, List.nil_append, List.cons_append]
    obtain ⟨rfl, rfl, V1, G1⟩ := hp_1
    try dsimp only [Option.toList, List.nil_append, List.cons_append]
    have m1 := V1.1
    have W1 : gW g g_1 P (P + 14) := g2_W G1 (by omega) (by omega) (by omega) (by omega)
    have fin : ∀ (z : Int32) lv, z = (if bl q.2.1 ≤ 63 ∧ bl q.2.2 ≤ 63 then 1 else 0) → zJ E g_1 nx 0 0 33 lv [.int z, .ref P] := by
      intro z lv hz
      refine z_callV hE d_Mo_small_33 cl_Mo_116 (c_Mo_done l nx V1 z) (by assumption) cb_Mo rfl (Nat.le_of_ble_eq_true rfl) ⟨by decide, by decide⟩ ⟨by omega, by omega⟩ (fun r_9 g_9 nx_9 hp_9 => ?_) rfl
      try dsimp only [Option.toList, List.nil_append, List.cons_append]
      obtain ⟨rfl, rfl, V9, G9⟩ := hp_9
      try dsimp only [Option.toList, List.nil_append, List.cons_append]
      refine z_goto (tgt := 44) hE d_Mo_small_36 (by decide) ?_
      refine z_iret hE hQ d_Mo_small_44 rfl (by omega) (by omega) (pM_of (S := sC S 0) ?_ V9 (EQS_c hEQ rfl rfl) (gW_t W1 (g1_W G9 (by omega) (by omega))))
      unfold spSmall; rw [if_pos hf, hq, hz]; rfl
    by_cases hs : bl q.2.1 ≤ 63 ∧ bl q.2.2 ≤ 63
    · rw [if_pos hs]
      refine z_if_eq (tgt := 32) hE d_Mo_small_25 (by decide) (fun c_ => absurd c_ (by decide)) (fun _ => ?_)
      refine z_iconst (v := 1) hE d_Mo_small_28 (by decide) ?_
      refine z_goto (tgt := 33) hE d_Mo_small_29 (by decide) ?_
      exact fin 1 _ (by rw [if_pos hs])
    · rw [if_neg hs]
      refine z_if_eq (tgt := 32) hE d_Mo_small_25 (by decide) (fun _ => ?_) (fun c_ => absurd c_ (by decide))
      refine z_iconst (v := 0) hE d_Mo_small_32 (by decide) ?_
      exact fin 0 _ (by rw [if_neg hs])
theorem c_Mo_order (l : Launch) {g : Gh} (nx : Nat) {P : Nat} {S : Sx} (hM : MW g P S) (hO : SOK S) (f a : Int32) : Ct l m_Mo_order 0 0 [.ref P, .int f, .int a] g nx (pM g P nx (spOrder S f a)) := by
  obtain ⟨E0, t, ts, hV, hEQ⟩ := hM
  have h0 := hV.1
  obtain ⟨-, ⟨th, h1, h1'⟩, ⟨sn, A, B, h2, h3, h4, b4, b5, b6⟩, ⟨rm, h5, h5'⟩, -⟩ := id hV
  refine Ct.of (by decide) (Nat.le_of_ble_eq_true rfl) (fun E hE hQ => ?_)
  have out : ∀ lv, ¬ (inI f 0 15 ∧ inI a 0 15) → zJ E g nx 0 0 14 lv [] := by
    intro lv h
    refine z_ldc hE d_Mo_order_14 cn_Mo_141 ?_
    exact z_iret hE hQ d_Mo_order_16 rfl (by omega) (by omega) (pM_of (if_neg h) hV hEQ gW_r)
  refine z_iload_n hE d_Mo_order_0 rfl ?_
  refine z_callS hE d_Mo_order_1 cl_Mo_138 (c_Mo_isFraction l g nx f) rfl (Nat.le_of_ble_eq_true rfl) ⟨by decide, by decide⟩ ⟨by omega, by omega⟩ (fun r_1 g_1 nx_1 hp_1 => ?_) rfl
  obtain ⟨rfl, rfl, rfl⟩ := hp_1
  try dsimp only [Option.toList, List.nil_append, List.cons_append]
  by_cases hf : inI f 0 15
  case neg =>
    rw [if_neg hf]
    refine z_if_eq (tgt := 14) hE d_Mo_order_4 (by decide) (fun _ => ?_) (fun c_ => absurd c_ (by decide))
    exact out _ (fun q => hf q.1)
  rw [if_pos hf]
  refine z_if_eq (tgt := 14) hE d_Mo_order_4 (by decide) (fun c_ => absurd c_ (by decide)) (fun _ => ?_)
  refine z_iload_n hE d_Mo_order_7 rfl ?_
  refine z_callS hE d_Mo_order_8 cl_Mo_138 (c_Mo_isFraction l g nx a) rfl (Nat.le_of_ble_eq_true rfl) ⟨by decide, by decide⟩ ⟨by omega, by omega⟩ (fun r_8 g_8 nx_8 hp_8 => ?_) rfl
  obtain ⟨rfl, rfl, rfl⟩ := hp_8
  try dsimp only [Option.toList, List.nil_append, List.cons_append]
  by_cases ha : inI a 0 15
  case neg =>
    rw [if_neg ha]
    refine z_if_ne (tgt := 17) hE d_Mo_order_11 (by decide) (fun c_ => absurd c_ (by decide)) (fun _ => ?_)
    exact out _ (fun q => ha q.2)
  rw [if_pos ha]
  refine z_if_ne (tgt := 17) hE d_Mo_order_11 (by decide) (fun _ => ?_) (fun c_ => absurd c_ (by decide))
  obtain ⟨ef, zf, hf2⟩ := fx_of hf (by omega) (by omega)
  obtain ⟨ea, za, ha2⟩ := fx_of ha (by omega) (by omega)
  have none1 : ∀ lv, (S.1 (fx f) = none ∨ S.1 (fx a) = none) → lG lv 0 = some (.ref P) → zJ E g nx 0 0 48 lv [] := by
    intro lv h l0
    refine z_sub (lv' := [(0, .ref P)]) (by simp only [List.map, l0]) ?_
    refine z_aload_n hE d_Mo_order_48 rfl ?_
    refine z_iconst (v := 1) hE d_Mo_order_49 (by decide) ?_
    refine z_callV hE d_Mo_order_50 cl_Mo_106 (c_Mo_fail l nx hV 1) (by assumption) cb_Mo rfl (Nat.le_of_ble_eq_true rfl) ⟨by decide, by decide⟩ ⟨by omega, by omega⟩ (fun r_9 g_9 nx_9 hp_9 => ?_) rfl
    try dsimp only [Option.toList, List.nil_append, List.cons_append]
    obtain ⟨rfl, rfl, V9, G9⟩ := hp_9
    try dsimp only [Option.toList, List.nil_append, List.cons_append]
    refine z_iret hE hQ d_Mo_order_53 rfl (by omega) (by omega) (pM_of (S := sC S 1) ?_ V9 (EQS_c hEQ rfl rfl) (gW_t gW_r (g1_W G9 (by omega) (by omega))))
    unfold spOrder
    rw [if_pos ⟨hf, ha⟩]
    rcases h with h | h
    · rw [h]; rfl
    · rw [h]; cases S.1 (fx f) <;> rfl
  refine z_aload_n hE d_Mo_order_17 rfl ?_
  refine z_get hE d_Mo_order_18 fl_Mo_7 (by assumption) rfl ?_
  refine z_iload_n hE d_Mo_order_21 rfl ?_
  rw [ef]
  refine z_zald hE d_Mo_order_22 (by assumption) (nI_in' (by omega : fx f < 58) (by omega)) ?_
  rw [nI_cl (by omega), h1' (fx f) (by omega), hEQ.1 (fx f) (by omega)]
  obtain ⟨x, hx⟩ | hx : (∃ x, S.1 (fx f) = some x) ∨ S.1 (fx f) = none := by cases S.1 (fx f); exact Or.inr rfl; exact Or.inl ⟨_, rfl⟩
  case inr =>
    rw [hx, show (none : Option Qf).isSome = false from rfl, if_neg (by decide)]
    refine z_if_eq (tgt := 48) hE d_Mo_order_23 (by decide) (fun _ => ?_) (fun c_ => absurd c_ (fun z => z rfl))
    exact none1 _ (Or.inl hx) rfl
  rw [hx, show (some x).isSome = true from rfl, if_pos rfl]
  refine z_if_eq (tgt := 48) hE d_Mo_order_23 (by decide) (fun c_ => absurd c_ (by decide)) (fun _ => ?_)
  refine z_aload_n hE d_Mo_order_26 rfl ?_
  refine z_get hE d_Mo_order_27 fl_Mo_7 (by assumption) rfl ?_
  refine z_iload_n hE d_Mo_order_30 rfl ?_
  try rw [ea]
  refine z_zald hE d_Mo_order_31 (by assumption) (nI_in' (by omega : fx a < 58) (by omega)) ?_
  rw [nI_cl (by omega), h1' (fx a) (by omega), hEQ.1 (fx a) (by omega)]
  obtain ⟨y, hy⟩ | hy : (∃ y, S.1 (fx a) = some y) ∨ S.1 (fx a) = none := by cases S.1 (fx a); exact Or.inr rfl; exact Or.inl ⟨_, rfl⟩
  case inr =>
    rw [hy, show (none : Option Qf).isSome = false from rfl, if_neg (by decide)]
    refine z_if_eq (tgt := 48) hE d_Mo_order_32 (by decide) (fun _ => ?_) (fun c_ => absurd c_ (fun z => z rfl))
    exact none1 _ (Or.inr hy) rfl
  rw [hy, show (some y).isSome = true from rfl, if_pos rfl]
  refine z_if_eq (tgt := 48) hE d_Mo_order_32 (by decide) (fun c_ => absurd c_ (by decide)) (fun _ => ?_)
  have kx := S_q hO (by omega) hx
  have ky := S_q hO (by omega) hy
  have ex := (hEQ.1 (fx f) (by omega)).trans hx
  have ey := (hEQ.1 (fx a) (by omega)).trans hy
  refine z_aload_n hE d_Mo_order_35 rfl ?_
  refine z_aload_n hE d_Mo_order_36 rfl ?_
  refine z_iload_n hE d_Mo_order_37 rfl ?_
  refine z_iload_n hE d_Mo_order_38 rfl ?_
  refine z_callV hE d_Mo_order_39 cl_Mo_165 (c_Mo_orderOf l nx (a := fx f) (b := fx a) hV (by omega) (by omega) ex ey kx ky) (by assumption) cb_Mo rfl (Nat.le_of_ble_eq_true rfl) ⟨by decide, by decide⟩ ⟨by omega, by omega⟩ (fun r_1 g_1 nx_1 hp_1 => ?_) rfl
  try dsimp only [Option.toList, List.nil_append, List.cons_append]
  obtain ⟨rfl, rfl, W1, t1, V1⟩ := hp_1
  try dsimp only [Option.toList, List.nil_append, List.cons_append]
  have m1 := V1.1
  refine z_callV hE d_Mo_order_42 cl_Mo_116 (c_Mo_done l nx V1 (cmpQ x y)) (by assumption) cb_Mo rfl (Nat.le_of_ble_eq_true rfl) ⟨by decide, by decide⟩ ⟨by omega, by omega⟩ (fun r_9 g_9 nx_9 hp_9 => ?_) rfl
  try dsimp only [Option.toList, List.nil_append, List.cons_append]
  obtain ⟨rfl, rfl, V9, G9⟩ := hp_9
  try dsimp only [Option.toList, List.nil_append, List.cons_append]
  refine z_goto (tgt := 53) hE d_Mo_order_45 (by decide) ?_
  refine z_iret hE hQ d_Mo_order_53 rfl (by omega) (by omega) (pM_of (S := sC S 0) ?_ V9 (EQS_c hEQ rfl rfl) (gW_t W1 (g1_W G9 (by omega) (by omega))))
  unfold spOrder; rw [if_pos ⟨hf, ha⟩, hx, hy]; rfl
theorem bl_1 {v : Nat} : bl v = 1 ↔ v = 1 := by
  constructor
  · intro h
    have h1 := bl_lt v
    have h2 : v ≠ 0 := fun z => by rw [z] at h; exact absurd h (by decide)
    rw [h] at h1
    omega
  · intro h; rw [h]; decide
theorem c_Mo_isWhole (l : Launch) {g : Gh} (nx : Nat) {f : Nat} {q : Qf} {P : Nat} {E0 : Nat → Option Qf} {pl : Nat → Int32} {c n ts : Int32} {t : Nat → Nat} (hV : MV g P E0 pl c n ts t) (hf : f < 58) (hq : E0 f = some q) : Ct l m_Mo_isWhole 0 0 [.ref P, .int (nI f)] g nx (fun r g' nx' => r = some (.int (if q.2.2 = 1 then 1 else 0)) ∧ nx = nx' ∧ MV g' P E0 pl c n ts (upN (upN t 8 q.2.1) 9 q.2.2) ∧ g2 g g' (P + 8) (P + 9)) := by
  have h0 := hV.1
  refine Ct.of (by decide) (Nat.le_of_ble_eq_true rfl) (fun E hE hQ => ?_)
  refine z_aload_n hE d_Mo_isWhole_0 rfl ?_
  refine z_iload_n hE d_Mo_isWhole_1 rfl ?_
  refine z_aload_n hE d_Mo_isWhole_2 rfl ?_
  refine z_get hE d_Mo_isWhole_3 fl_Mo_32 (by assumption) rfl ?_
  refine z_aload_n hE d_Mo_isWhole_6 rfl ?_
  refine z_get hE d_Mo_isWhole_7 fl_Mo_35 (by assumption) rfl ?_
  refine z_callV hE d_Mo_isWhole_10 cl_Mo_119 (c_Mo_take l nx (i := 8) (j := 9) hV hf hq (by omega) (by omega) (by omega) (by omega) (by omega)) (by assumption) cb_Mo rfl (Nat.le_of_ble_eq_true rfl) ⟨by decide, by decide⟩ ⟨by omega, by omega⟩ (fun r_1 g_1 nx_1 hp_1 => ?_) rfl
  try dsimp only [Option.toList, List.nil_append, List.cons_append]
  obtain ⟨rfl, rfl, V1, G1⟩ := hp_1
  try dsimp only [Option.toList, List.nil_append, List.cons_append]
  have m1 := V1.1
  have N9 : MA g_1 (P + 9) q.2.2 := MV_m V1 9 (by omega) (by omega)
  have b9 : bl q.2.2 ≤ 896 := by rw [bl_iff, show 2 ^ 896 = 65536 ^ 56 by rw [H2]]; exact MA_lt N9
  refine z_aload_n hE d_Mo_isWhole_13 rfl ?_
  refine z_get hE d_Mo_isWhole_14 fl_Mo_35 (by assumption) rfl ?_
  refine z_callS hE d_Mo_isWhole_17 cl_Mo_65 (c_Mo_bitsOf l nx N9) rfl (Nat.le_of_ble_eq_true rfl) ⟨by decide, by decide⟩ ⟨by omega, by omega⟩ (fun r_17 g_17 nx_17 hp_17 => ?_) rfl
  obtain ⟨rfl, rfl, rfl⟩ := hp_17
  try dsimp only [Option.toList, List.nil_append, List.cons_append]
  refine z_iconst (v := nI 1) hE d_Mo_isWhole_20 (by decide) ?_
  by_cases h : q.2.2 = 1
  · refine z_icmp_ne (tgt := 28) hE d_Mo_isWhole_21 (by decide) (fun c_ => absurd c_ (fun z => z (by rw [bl_1.mpr h]))) (fun _ => ?_)
    refine z_iconst (v := 1) hE d_Mo_isWhole_24 (by decide) ?_
    refine z_goto (tgt := 29) hE d_Mo_isWhole_25 (by decide) ?_
    exact z_zret hE hQ d_Mo_isWhole_29 rfl (by omega) (by omega) (Or.inr rfl) ⟨by rw [if_pos h], rfl, V1, G1⟩
  · refine z_icmp_ne (tgt := 28) hE d_Mo_isWhole_21 (by decide) (fun _ => ?_) (fun c_ => absurd c_ (fun z => h (bl_1.mp ((nI_EQ (by omega) (by omega)).mp z))))
    refine z_iconst (v := 0) hE d_Mo_isWhole_28 (by decide) ?_
    exact z_zret hE hQ d_Mo_isWhole_29 rfl (by omega) (by omega) (Or.inl rfl) ⟨by rw [if_neg h], rfl, V1, G1⟩
theorem c_Mo_common (l : Launch) {g : Gh} (nx : Nat) {P : Nat} {S : Sx} (hM : MW g P S) (hO : SOK S) (f a d : Int32) : Ct l m_Mo_common 0 0 [.ref P, .int f, .int a, .int d] g nx (pM g P nx (spCommon S f a d)) := by
  obtain ⟨E0, t, ts, hV, hEQ⟩ := hM
  have h0 := hV.1
  obtain ⟨-, ⟨th, h1, h1'⟩, ⟨sn, A, B, h2, h3, h4, b4, b5, b6⟩, ⟨rm, h5, h5'⟩, -⟩ := id hV
  refine Ct.of (by decide) (Nat.le_of_ble_eq_true rfl) (fun E hE hQ => ?_)
  have out : ∀ lv, ¬ (inI f 0 15 ∧ inI a 0 15 ∧ inI d 0 15) → zJ E g nx 0 0 21 lv [] := by
    intro lv h
    refine z_ldc hE d_Mo_common_21 cn_Mo_141 ?_
    exact z_iret hE hQ d_Mo_common_23 rfl (by omega) (by omega) (pM_of (if_neg h) hV hEQ gW_r)
  refine z_iload_n hE d_Mo_common_0 rfl ?_
  refine z_callS hE d_Mo_common_1 cl_Mo_138 (c_Mo_isFraction l g nx f) rfl (Nat.le_of_ble_eq_true rfl) ⟨by decide, by decide⟩ ⟨by omega, by omega⟩ (fun r_1 g_1 nx_1 hp_1 => ?_) rfl
  obtain ⟨rfl, rfl, rfl⟩ := hp_1
  try dsimp only [Option.toList, List.nil_append, List.cons_append]
  by_cases hf : inI f 0 15
  case neg =>
    rw [if_neg hf]
    refine z_if_eq (tgt := 21) hE d_Mo_common_4 (by decide) (fun _ => ?_) (fun c_ => absurd c_ (by decide))
    exact out _ (fun q => hf q.1)
  rw [if_pos hf]
  refine z_if_eq (tgt := 21) hE d_Mo_common_4 (by decide) (fun c_ => absurd c_ (by decide)) (fun _ => ?_)
  refine z_iload_n hE d_Mo_common_7 rfl ?_
  refine z_callS hE d_Mo_common_8 cl_Mo_138 (c_Mo_isFraction l g nx a) rfl (Nat.le_of_ble_eq_true rfl) ⟨by decide, by decide⟩ ⟨by omega, by omega⟩ (fun r_8 g_8 nx_8 hp_8 => ?_) rfl
  obtain ⟨rfl, rfl, rfl⟩ := hp_8
  try dsimp only [Option.toList, List.nil_append, List.cons_append]
  by_cases ha : inI a 0 15
  case neg =>
    rw [if_neg ha]
    refine z_if_eq (tgt := 21) hE d_Mo_common_11 (by decide) (fun _ => ?_) (fun c_ => absurd c_ (by decide))
    exact out _ (fun q => ha q.2.1)
  rw [if_pos ha]
  refine z_if_eq (tgt := 21) hE d_Mo_common_11 (by decide) (fun c_ => absurd c_ (by decide)) (fun _ => ?_)
  refine z_iload_n hE d_Mo_common_14 rfl ?_
  refine z_callS hE d_Mo_common_15 cl_Mo_138 (c_Mo_isFraction l g nx d) rfl (Nat.le_of_ble_eq_true rfl) ⟨by decide, by decide⟩ ⟨by omega, by omega⟩ (fun r_15 g_15 nx_15 hp_15 => ?_) rfl
  obtain ⟨rfl, rfl, rfl⟩ := hp_15
  try dsimp only [Option.toList, List.nil_append, List.cons_append]
  by_cases hd : inI d 0 15
  case neg =>
    rw [if_neg hd]
    refine z_if_ne (tgt := 24) hE d_Mo_common_18 (by decide) (fun c_ => absurd c_ (by decide)) (fun _ => ?_)
    exact out _ (fun q => hd q.2.2)
  rw [if_pos hd]
  refine z_if_ne (tgt := 24) hE d_Mo_common_18 (by decide) (fun _ => ?_) (fun c_ => absurd c_ (by decide))
  obtain ⟨ef, zf, hf2⟩ := fx_of hf (by omega) (by omega)
  obtain ⟨ea, za, ha2⟩ := fx_of ha (by omega) (by omega)
  obtain ⟨ed, zd, hd2⟩ := fx_of hd (by omega) (by omega)
  have none1 : ∀ lv, (S.1 (fx a) = none ∨ S.1 (fx d) = none) → lG lv 0 = some (.ref P) → zJ E g nx 0 0 42 lv [] := by
    intro lv h l0
    refine z_sub (lv' := [(0, .ref P)]) (by simp only [List.map, l0]) ?_
    refine z_aload_n hE d_Mo_common_42 rfl ?_
    refine z_iconst (v := 1) hE d_Mo_common_43 (by decide) ?_
    refine z_callV hE d_Mo_common_44 cl_Mo_106 (c_Mo_fail l nx hV 1) (by assumption) cb_Mo rfl (Nat.le_of_ble_eq_true rfl) ⟨by decide, by decide⟩ ⟨by omega, by omega⟩ (fun r_9 g_9 nx_9 hp_9 => ?_) rfl
    try dsimp only [Option.toList, List.nil_append, List.cons_append]
    obtain ⟨rfl, rfl, V9, G9⟩ := hp_9
    try dsimp only [Option.toList, List.nil_append, List.cons_append]
    refine z_iret hE hQ d_Mo_common_47 rfl (by omega) (by omega) (pM_of (S := sC S 1) ?_ V9 (EQS_c hEQ rfl rfl) (gW_t gW_r (g1_W G9 (by omega) (by omega))))
    unfold spCommon
    rw [if_pos ⟨hf, ha, hd⟩]
    rcases h with h | h
    · rw [h]; rfl
    · rw [h]; cases S.1 (fx a) <;> rfl
  refine z_aload_n hE d_Mo_common_24 rfl ?_
  refine z_get hE d_Mo_common_25 fl_Mo_7 (by assumption) rfl ?_
  refine z_iload_n hE d_Mo_common_28 rfl ?_
  rw [ea]
  refine z_zald hE d_Mo_common_29 (by assumption) (nI_in' (by omega : fx a < 58) (by omega)) ?_
  rw [nI_cl (by omega), h1' (fx a) (by omega), hEQ.1 (fx a) (by omega)]
  obtain ⟨x, hx⟩ | hx : (∃ x, S.1 (fx a) = some x) ∨ S.1 (fx a) = none := by cases S.1 (fx a); exact Or.inr rfl; exact Or.inl ⟨_, rfl⟩
  case inr =>
    rw [hx, show (none : Option Qf).isSome = false from rfl, if_neg (by decide)]
    refine z_if_eq (tgt := 42) hE d_Mo_common_30 (by decide) (fun _ => ?_) (fun c_ => absurd c_ (fun z => z rfl))
    exact none1 _ (Or.inl hx) rfl
  rw [hx, show (some x).isSome = true from rfl, if_pos rfl]
  refine z_if_eq (tgt := 42) hE d_Mo_common_30 (by decide) (fun c_ => absurd c_ (by decide)) (fun _ => ?_)
  refine z_aload_n hE d_Mo_common_33 rfl ?_
  refine z_get hE d_Mo_common_34 fl_Mo_7 (by assumption) rfl ?_
  refine z_iload_n hE d_Mo_common_37 rfl ?_
  try rw [ed]
  refine z_zald hE d_Mo_common_38 (by assumption) (nI_in' (by omega : fx d < 58) (by omega)) ?_
  rw [nI_cl (by omega), h1' (fx d) (by omega), hEQ.1 (fx d) (by omega)]
  obtain ⟨y, hy⟩ | hy : (∃ y, S.1 (fx d) = some y) ∨ S.1 (fx d) = none := by cases S.1 (fx d); exact Or.inr rfl; exact Or.inl ⟨_, rfl⟩
  case inr =>
    rw [hy, show (none : Option Qf).isSome = false from rfl, if_neg (by decide)]
    refine z_if_ne (tgt := 48) hE d_Mo_common_39 (by decide) (fun c_ => absurd c_ (fun z => z rfl)) (fun _ => ?_)
    exact none1 _ (Or.inr hy) rfl
  rw [hy, show (some y).isSome = true from rfl, if_pos rfl]
  refine z_if_ne (tgt := 48) hE d_Mo_common_39 (by decide) (fun _ => ?_) (fun c_ => absurd c_ (by decide))
  have kx := S_q hO (by omega) hx
  have ky := S_q hO (by omega) hy
  have ex := (hEQ.1 (fx a) (by omega)).trans hx
  have ey := (hEQ.1 (fx d) (by omega)).trans hy
  have hspec : spCommon S f a d = if x.2.2 = 1 ∧ y.2.2 = 1 then mkS S (fx f) (if Nat.gcd x.2.1 y.2.1 = 0 then 0 else 1, Nat.gcd x.2.1 y.2.1, 1) else tellS S 2 := by unfold spCommon; rw [if_pos ⟨hf, ha, hd⟩, hx, hy]
  have no : ∀ (g' : Gh) (t' : Nat → Nat) lv, ¬ (x.2.2 = 1 ∧ y.2.2 = 1) → MV g' P E0 S.2.1 S.2.2.2.1 S.2.2.2.2 ts t' → gW g g' P (P + 14) → lG lv 0 = some (.ref P) → zJ E g' nx 0 0 64 lv [] := by
    intro g' t' lv h V' W' l0
    refine z_sub (lv' := [(0, .ref P)]) (by simp only [List.map, l0]) ?_
    have m' := V'.1
    refine z_aload_n hE d_Mo_common_64 rfl ?_
    refine z_iconst (v := 2) hE d_Mo_common_65 (by decide) ?_
    refine z_callV hE d_Mo_common_66 cl_Mo_106 (c_Mo_fail l nx V' 2) (by assumption) cb_Mo rfl (Nat.le_of_ble_eq_true rfl) ⟨by decide, by decide⟩ ⟨by omega, by omega⟩ (fun r_9 g_9 nx_9 hp_9 => ?_) rfl
    try dsimp only [Option.toList, List.nil_append, List.cons_append]
    obtain ⟨rfl, rfl, V9, G9⟩ := hp_9
    try dsimp only [Option.toList, List.nil_append, List.cons_append]
    refine z_iret hE hQ d_Mo_common_69 rfl (by omega) (by omega) (pM_of (S := sC S 2) ?_ V9 (EQS_c hEQ rfl rfl) (gW_t W' (g1_W G9 (by omega) (by omega))))
    rw [hspec, if_neg h]; rfl
  refine z_aload_n hE d_Mo_common_48 rfl ?_
  refine z_iload_n hE d_Mo_common_49 rfl ?_
  refine z_callV hE d_Mo_common_50 cl_Mo_175 (c_Mo_isWhole l nx hV (by omega) ex) (by assumption) cb_Mo rfl (Nat.le_of_ble_eq_true rfl) ⟨by decide, by decide⟩ ⟨by omega, by omega⟩ (fun r_1 g_1 nx_1 hp_1 => ?_) rfl
  try dsimp only [Option.toList, List.nil_append, List.cons_append]
  obtain ⟨rfl, rfl, V1, G1⟩ := hp_1
  try dsimp only [Option.toList, List.nil_append, List.cons_append]
  have m1 := V1.1
  have W1 : gW g g_1 P (P + 14) := gW_t gW_r (g2_W G1 (by omega) (by omega) (by omega) (by omega))
  by_cases hw1 : x.2.2 = 1
  case neg =>
    rw [if_neg hw1]
    refine z_if_eq (tgt := 64) hE d_Mo_common_53 (by decide) (fun _ => ?_) (fun c_ => absurd c_ (by decide))
    exact no g_1 _ _ (fun z => hw1 z.1) V1 W1 rfl
  rw [if_pos hw1]
  refine z_if_eq (tgt := 64) hE d_Mo_common_53 (by decide) (fun c_ => absurd c_ (by decide)) (fun _ => ?_)
  refine z_aload_n hE d_Mo_common_56 rfl ?_
  refine z_iload_n hE d_Mo_common_57 rfl ?_
  refine z_callV hE d_Mo_common_58 cl_Mo_175 (c_Mo_isWhole l nx V1 (by omega) ey) (by assumption) cb_Mo rfl (Nat.le_of_ble_eq_true rfl) ⟨by decide, by decide⟩ ⟨by omega, by omega⟩ (fun r_2 g_2 nx_2 hp_2 => ?_) rfl
  try dsimp only [Option.toList, List.nil_append, List.cons_append]
  obtain ⟨rfl, rfl, V2, G2⟩ := hp_2
  try dsimp only [Option.toList, List.nil_append, List.cons_append]
  have m2 := V2.1
  have W2 : gW g g_2 P (P + 14) := gW_t W1 (g2_W G2 (by omega) (by omega) (by omega) (by omega))
  by_cases hw2 : y.2.2 = 1
  case neg =>
    rw [if_neg hw2]
    refine z_if_ne (tgt := 70) hE d_Mo_common_61 (by decide) (fun c_ => absurd c_ (by decide)) (fun _ => ?_)
    exact no g_2 _ _ (fun z => hw2 z.2) V2 W2 rfl
  rw [if_pos hw2]
  refine z_if_ne (tgt := 70) hE d_Mo_common_61 (by decide) (fun _ => ?_) (fun c_ => absurd c_ (by decide))
  rw [if_pos ⟨hw1, hw2⟩] at hspec
  refine z_aload_n hE d_Mo_common_70 rfl ?_
  refine z_iload_n hE d_Mo_common_71 rfl ?_
  refine z_aload_n hE d_Mo_common_72 rfl ?_
  refine z_get hE d_Mo_common_73 fl_Mo_26 (by assumption) rfl ?_
  refine z_aload_n hE d_Mo_common_76 rfl ?_
  refine z_get hE d_Mo_common_77 fl_Mo_35 (by assumption) rfl ?_
  refine z_callV hE d_Mo_common_80 cl_Mo_119 (c_Mo_take l nx (i := 6) (j := 9) V2 (by omega) ex (by omega) (by omega) (by omega) (by omega) (by omega)) (by assumption) cb_Mo rfl (Nat.le_of_ble_eq_true rfl) ⟨by decide, by decide⟩ ⟨by omega, by omega⟩ (fun r_3 g_3 nx_3 hp_3 => ?_) rfl
  try dsimp only [Option.toList, List.nil_append, List.cons_append]
  obtain ⟨rfl, rfl, V3, G3⟩ := hp_3
  try dsimp only [Option.toList, List.nil_append, List.cons_append]
  have m3 := V3.1
  have W3 : gW g g_3 P (P + 14) := gW_t W2 (g2_W G3 (by omega) (by omega) (by omega) (by omega))
  refine z_aload_n hE d_Mo_common_83 rfl ?_
  refine z_iload_n hE d_Mo_common_84 rfl ?_
  refine z_aload_n hE d_Mo_common_85 rfl ?_
  refine z_get hE d_Mo_common_86 fl_Mo_32 (by assumption) rfl ?_
  refine z_aload_n hE d_Mo_common_89 rfl ?_
  refine z_get hE d_Mo_common_90 fl_Mo_35 (by assumption) rfl ?_
  refine z_callV hE d_Mo_common_93 cl_Mo_119 (c_Mo_take l nx (i := 8) (j := 9) V3 (by omega) ey (by omega) (by omega) (by omega) (by omega) (by omega)) (by assumption) cb_Mo rfl (Nat.le_of_ble_eq_true rfl) ⟨by decide, by decide⟩ ⟨by omega, by omega⟩ (fun r_4 g_4 nx_4 hp_4 => ?_) rfl
  try dsimp only [Option.toList, List.nil_append, List.cons_append]
  obtain ⟨rfl, rfl, V4, G4⟩ := hp_4
  try dsimp only [Option.toList, List.nil_append, List.cons_append]
  have m4 := V4.1
  have W4 : gW g g_4 P (P + 14) := gW_t W3 (g2_W G4 (by omega) (by omega) (by omega) (by omega))
  have A6 : MA g_4 (P + 6) x.2.1 := MV_m V4 6 (by omega) (by omega)
  have A8 : MA g_4 (P + 8) y.2.1 := MV_m V4 8 (by omega) (by omega)
  refine z_aload_n hE d_Mo_common_96 rfl ?_
  refine z_get hE d_Mo_common_97 fl_Mo_26 (by assumption) rfl ?_
  refine z_aload_n hE d_Mo_common_100 rfl ?_
  refine z_get hE d_Mo_common_101 fl_Mo_32 (by assumption) rfl ?_
  refine z_callS hE d_Mo_common_104 cl_Mo_93 (c_Mo_shared l nx A6 A8 (by omega)) rfl (Nat.le_of_ble_eq_true rfl) ⟨by decide, by decide⟩ ⟨by omega, by omega⟩ (fun r_5 g_5 nx_5 hp_5 => ?_) rfl
  try dsimp only [Option.toList, List.nil_append, List.cons_append]
  obtain ⟨rfl, rfl, N5, ⟨z, N5'⟩, G5⟩ := hp_5
  try dsimp only [Option.toList, List.nil_append, List.cons_append]
  have V5 := MV_up2 V4 (by omega) (by omega) N5 N5' G5
  have m5 := V5.1
  have W5 : gW g g_5 P (P + 14) := gW_t W4 (g2_W G5 (by omega) (by omega) (by omega) (by omega))
  refine z_aload_n hE d_Mo_common_107 rfl ?_
  refine z_get hE d_Mo_common_108 fl_Mo_29 (by assumption) rfl ?_
  refine z_lconst (v := lN 1) hE d_Mo_common_111 (by decide) ?_
  refine z_callS hE d_Mo_common_112 cl_Mo_142 (c_Mo_setLong l nx (MV_m V5 7 (by omega) (by omega)) 1 (by omega)) rfl (Nat.le_of_ble_eq_true rfl) ⟨by decide, by decide⟩ ⟨by omega, by omega⟩ (fun r_6 g_6 nx_6 hp_6 => ?_) rfl
  try dsimp only [Option.toList, List.nil_append, List.cons_append]
  obtain ⟨rfl, rfl, N6, G6⟩ := hp_6
  try dsimp only [Option.toList, List.nil_append, List.cons_append]
  have V6 := MV_up V5 (by omega) N6 G6
  have m6 := V6.1
  have W6 : gW g g_6 P (P + 14) := gW_t W5 (g1_W G6 (by omega) (by omega))
  refine z_aload_n hE d_Mo_common_115 rfl ?_
  refine z_iconst (v := 1) hE d_Mo_common_116 (by decide) ?_
  refine z_put hE d_Mo_common_117 fl_Mo_99 ct_Mo ff_Mo_9 (by assumption) rfl rfl (Nat.le_of_ble_eq_true rfl) ?_
  have V7 := MV_put V6 S.2.2.2.1 S.2.2.2.2 1
  have m7 := V7.1
  refine z_aload_n hE d_Mo_common_120 rfl ?_
  refine z_iload_n hE d_Mo_common_121 rfl ?_
  rw [ef]
  refine z_callV hE d_Mo_common_122 cl_Mo_146 (c_Mo_made l nx V7 hEQ (by omega : fx f < 16) (by exact Nat.zero_lt_one) (by exact (by decide : 2 * 1 ≤ 65536 ^ 56))) (by assumption) cb_Mo rfl (Nat.le_of_ble_eq_true rfl) ⟨by decide, by decide⟩ ⟨by omega, by omega⟩ (fun r_8 g_8 nx_8 hp_8 => ?_) rfl
  try dsimp only [Option.toList, List.nil_append, List.cons_append]
  refine z_mret hE hQ d_Mo_common_125 rfl (by omega) (by omega) (gW_t W6 (gW_S (Nat.le_refl _) (by omega))) ?_ hp_8
  rw [hspec]
  exact congrArg (mkS S (fx f)) (mk_1 (s := 1) (Nat.gcd_one_right _)).symm
theorem c_Mo_work (l : Launch) {g : Gh} (nx : Nat) {P : Nat} {S : Sx} (hM : MW g P S) (hO : SOK S) (act f a d : Int32) : Ct l m_Mo_work 0 0 [.ref P, .int act, .int f, .int a, .int d] g nx (pM g P nx (spWork S act f a d)) := by
  obtain ⟨E0, t, ts, hV, hEQ⟩ := hM
  have h0 := hV.1
  obtain ⟨-, ⟨th, h1, h1'⟩, ⟨sn, A, B, h2, h3, h4, b4, b5, b6⟩, ⟨rm, h5, h5'⟩, -⟩ := id hV
  refine Ct.of (by decide) (Nat.le_of_ble_eq_true rfl) (fun E hE hQ => ?_)
  have out : ∀ lv, ¬ (inI act 0 5 ∧ inI f 0 15 ∧ inI a 0 15 ∧ inI d 0 15) → zJ E g nx 0 0 34 lv [] := by
    intro lv h
    refine z_ldc hE d_Mo_work_34 cn_Mo_141 ?_
    exact z_iret hE hQ d_Mo_work_36 rfl (by omega) (by omega) (pM_of (if_neg h) hV hEQ gW_r)
  refine z_iload_n hE d_Mo_work_0 rfl ?_
  refine z_i2l hE d_Mo_work_1 (rfl) ?_
  refine z_lconst (v := 0) hE d_Mo_work_2 (by decide) ?_
  refine z_ldc2 hE d_Mo_work_3 cn_Mo_153 ?_
  refine z_callS hE d_Mo_work_6 cl_Mo_125 (c_Mo_inI l g nx act 0 5 (0) (5) (by decide) (by decide)) rfl (Nat.le_of_ble_eq_true rfl) ⟨by decide, by decide⟩ ⟨by omega, by omega⟩ (fun r_6 g_6 nx_6 hp_6 => ?_) rfl
  obtain ⟨rfl, rfl, rfl⟩ := hp_6
  try dsimp only [Option.toList, List.nil_append, List.cons_append]
  by_cases hact : inI act 0 5
  case neg =>
    rw [if_neg hact]
    refine z_if_eq (tgt := 34) hE d_Mo_work_9 (by decide) (fun _ => ?_) (fun c_ => absurd c_ (by decide))
    exact out _ (fun q => hact q.1)
  rw [if_pos hact]
  refine z_if_eq (tgt := 34) hE d_Mo_work_9 (by decide) (fun c_ => absurd c_ (by decide)) (fun _ => ?_)
  refine z_iload_n hE d_Mo_work_12 rfl ?_
  refine z_callS hE d_Mo_work_13 cl_Mo_138 (c_Mo_isFraction l g nx f) rfl (Nat.le_of_ble_eq_true rfl) ⟨by decide, by decide⟩ ⟨by omega, by omega⟩ (fun r_13 g_13 nx_13 hp_13 => ?_) rfl
  obtain ⟨rfl, rfl, rfl⟩ := hp_13
  try dsimp only [Option.toList, List.nil_append, List.cons_append]
  by_cases hf : inI f 0 15
  case neg =>
    rw [if_neg hf]
    refine z_if_eq (tgt := 34) hE d_Mo_work_16 (by decide) (fun _ => ?_) (fun c_ => absurd c_ (by decide))
    exact out _ (fun q => hf q.2.1)
  rw [if_pos hf]
  refine z_if_eq (tgt := 34) hE d_Mo_work_16 (by decide) (fun c_ => absurd c_ (by decide)) (fun _ => ?_)
  refine z_iload_n hE d_Mo_work_19 rfl ?_
  refine z_callS hE d_Mo_work_20 cl_Mo_138 (c_Mo_isFraction l g nx a) rfl (Nat.le_of_ble_eq_true rfl) ⟨by decide, by decide⟩ ⟨by omega, by omega⟩ (fun r_20 g_20 nx_20 hp_20 => ?_) rfl
  obtain ⟨rfl, rfl, rfl⟩ := hp_20
  try dsimp only [Option.toList, List.nil_append, List.cons_append]
  by_cases ha : inI a 0 15
  case neg =>
    rw [if_neg ha]
    refine z_if_eq (tgt := 34) hE d_Mo_work_23 (by decide) (fun _ => ?_) (fun c_ => absurd c_ (by decide))
    exact out _ (fun q => ha q.2.2.1)
  rw [if_pos ha]
  refine z_if_eq (tgt := 34) hE d_Mo_work_23 (by decide) (fun c_ => absurd c_ (by decide)) (fun _ => ?_)
  refine z_iload hE d_Mo_work_26 rfl ?_
  refine z_callS hE d_Mo_work_28 cl_Mo_138 (c_Mo_isFraction l g nx d) rfl (Nat.le_of_ble_eq_true rfl) ⟨by decide, by decide⟩ ⟨by omega, by omega⟩ (fun r_28 g_28 nx_28 hp_28 => ?_) rfl
  obtain ⟨rfl, rfl, rfl⟩ := hp_28
  try dsimp only [Option.toList, List.nil_append, List.cons_append]
  by_cases hd : inI d 0 15
  case neg =>
    rw [if_neg hd]
    refine z_if_ne (tgt := 37) hE d_Mo_work_31 (by decide) (fun c_ => absurd c_ (by decide)) (fun _ => ?_)
    exact out _ (fun q => hd q.2.2.2)
  rw [if_pos hd]
  refine z_if_ne (tgt := 37) hE d_Mo_work_31 (by decide) (fun _ => ?_) (fun c_ => absurd c_ (by decide))
  obtain ⟨eact, zact, hact2⟩ := fx_of hact (by omega) (by omega)
  obtain ⟨ef, zf, hf2⟩ := fx_of hf (by omega) (by omega)
  obtain ⟨ea, za, ha2⟩ := fx_of ha (by omega) (by omega)
  obtain ⟨ed, zd, hd2⟩ := fx_of hd (by omega) (by omega)
  have none1 : ∀ lv, (S.1 (fx a) = none ∨ S.1 (fx d) = none) → lG lv 0 = some (.ref P) → zJ E g nx 0 0 56 lv [] := by
    intro lv h l0
    refine z_sub (lv' := [(0, .ref P)]) (by simp only [List.map, l0]) ?_
    refine z_aload_n hE d_Mo_work_56 rfl ?_
    refine z_iconst (v := 1) hE d_Mo_work_57 (by decide) ?_
    refine z_callV hE d_Mo_work_58 cl_Mo_106 (c_Mo_fail l nx hV 1) (by assumption) cb_Mo rfl (Nat.le_of_ble_eq_true rfl) ⟨by decide, by decide⟩ ⟨by omega, by omega⟩ (fun r_9 g_9 nx_9 hp_9 => ?_) rfl
    try dsimp only [Option.toList, List.nil_append, List.cons_append]
    obtain ⟨rfl, rfl, V9, G9⟩ := hp_9
    try dsimp only [Option.toList, List.nil_append, List.cons_append]
    refine z_iret hE hQ d_Mo_work_61 rfl (by omega) (by omega) (pM_of (S := sC S 1) ?_ V9 (EQS_c hEQ rfl rfl) (gW_t gW_r (g1_W G9 (by omega) (by omega))))
    unfold spWork
    rw [if_pos ⟨hact, hf, ha, hd⟩]
    rcases h with h | h
    · rw [h]; rfl
    · rw [h]; cases S.1 (fx a) <;> rfl
  refine z_aload_n hE d_Mo_work_37 rfl ?_
  refine z_get hE d_Mo_work_38 fl_Mo_7 (by assumption) rfl ?_
  refine z_iload_n hE d_Mo_work_41 rfl ?_
  rw [ea]
  refine z_zald hE d_Mo_work_42 (by assumption) (nI_in' (by omega : fx a < 58) (by omega)) ?_
  rw [nI_cl (by omega), h1' (fx a) (by omega), hEQ.1 (fx a) (by omega)]
  obtain ⟨x, hx⟩ | hx : (∃ x, S.1 (fx a) = some x) ∨ S.1 (fx a) = none := by cases S.1 (fx a); exact Or.inr rfl; exact Or.inl ⟨_, rfl⟩
  case inr =>
    rw [hx, show (none : Option Qf).isSome = false from rfl, if_neg (by decide)]
    refine z_if_eq (tgt := 56) hE d_Mo_work_43 (by decide) (fun _ => ?_) (fun c_ => absurd c_ (fun z => z rfl))
    exact none1 _ (Or.inl hx) rfl
  rw [hx, show (some x).isSome = true from rfl, if_pos rfl]
  refine z_if_eq (tgt := 56) hE d_Mo_work_43 (by decide) (fun c_ => absurd c_ (by decide)) (fun _ => ?_)
  refine z_aload_n hE d_Mo_work_46 rfl ?_
  refine z_get hE d_Mo_work_47 fl_Mo_7 (by assumption) rfl ?_
  refine z_iload hE d_Mo_work_50 rfl ?_
  try rw [ed]
  refine z_zald hE d_Mo_work_52 (by assumption) (nI_in' (by omega : fx d < 58) (by omega)) ?_
  rw [nI_cl (by omega), h1' (fx d) (by omega), hEQ.1 (fx d) (by omega)]
  obtain ⟨y, hy⟩ | hy : (∃ y, S.1 (fx d) = some y) ∨ S.1 (fx d) = none := by cases S.1 (fx d); exact Or.inr rfl; exact Or.inl ⟨_, rfl⟩
  case inr =>
    rw [hy, show (none : Option Qf).isSome = false from rfl, if_neg (by decide)]
    refine z_if_ne (tgt := 62) hE d_Mo_work_53 (by decide) (fun c_ => absurd c_ (fun z => z rfl)) (fun _ => ?_)
    exact none1 _ (Or.inr hy) rfl
  rw [hy, show (some y).isSome = true from rfl, if_pos rfl]
  refine z_if_ne (tgt := 62) hE d_Mo_work_53 (by decide) (fun _ => ?_) (fun c_ => absurd c_ (by decide))
  have kx := S_q hO (by omega) hx
  have ky := S_q hO (by omega) hy
  have ex := (hEQ.1 (fx a) (by omega)).trans hx
  have ey := (hEQ.1 (fx d) (by omega)).trans hy
  have hspec : spWork S act f a d = if fx act = 3 ∧ y.1 = 0 then tellS S 5 else mkS S (fx f) (wkQ (fx act) x y) := by unfold spWork; rw [if_pos ⟨hact, hf, ha, hd⟩, hx, hy]
  have sx := (b6 (fx a) (by omega) x ex).1
  have sy := (b6 (fx d) (by omega) y ey).1
  have e56 : 65536 ^ 32 * 4 ≤ 65536 ^ 56 := by decide
  have act_i : ∀ k : Nat, k ≤ 10 → (act = nI k ↔ fx act = k) := by
    intro k hk
    rw [eact, nI_EQ (by omega) (by omega), fx_nI (by omega)]
  have last : ∀ (g' : Gh) (t' : Nat → Nat) (ts' : Int32), MV g' P E0 S.2.1 S.2.2.2.1 S.2.2.2.2 ts' t' → gW g g' P (P + 14) → 0 < t' 7 → 2 * t' 7 ≤ 65536 ^ 56 → spWork S act f a d = mkS S (fx f) (mk ts' (t' 6) (t' 7)) → ∀ lv, lG lv 0 = some (.ref P) → lG lv 2 = some (.int f) → zJ E g' nx 0 0 202 lv [] := by
    intro g' t' ts' V' W' h7 h7' e lv l0 l2
    refine z_sub (lv' := [(0, .ref P), (2, .int f)]) (by simp only [List.map, l0, l2]) ?_
    have m' := V'.1
    refine z_aload_n hE d_Mo_work_202 rfl ?_
    refine z_iload_n hE d_Mo_work_203 rfl ?_
    rw [ef]
    refine z_callV hE d_Mo_work_204 cl_Mo_146 (c_Mo_made l nx V' hEQ (by omega : fx f < 16) h7 h7') (by assumption) cb_Mo rfl (Nat.le_of_ble_eq_true rfl) ⟨by decide, by decide⟩ ⟨by omega, by omega⟩ (fun r_8 g_8 nx_8 hp_8 => ?_) rfl
    try dsimp only [Option.toList, List.nil_append, List.cons_append]
    exact z_mret hE hQ d_Mo_work_207 rfl (by omega) (by omega) W' e hp_8
  have go : ∀ lv, ¬ (fx act = 3 ∧ y.1 = 0) → lG lv 0 = some (.ref P) → lG lv 1 = some (.int act) → lG lv 2 = some (.int f) → lG lv 3 = some (.int (nI (fx a))) → lG lv 4 = some (.int (nI (fx d))) → zJ E g nx 0 0 83 lv [] := by
    intro lv hz l0 l1 l2 l3 l4
    refine z_sub (lv' := [(0, .ref P), (1, .int act), (2, .int f), (3, .int (nI (fx a))), (4, .int (nI (fx d)))]) (by simp only [List.map, l0, l1, l2, l3, l4]) ?_
    rw [if_neg hz] at hspec
    have sum : ∀ (bs : Int32) lv, bs = (if fx act = 0 then 1 else -1) → fx act ≤ 1 → lG lv 0 = some (.ref P) → lG lv 2 = some (.int f) → zJ E g nx 0 0 105 lv [.int bs, .int (nI (fx d)), .int (nI (fx a)), .ref P] := by
      intro bs lv hbs hle l0 l2
      refine z_sub (lv' := [(0, .ref P), (2, .int f)]) (by simp only [List.map, l0, l2]) ?_
      refine z_callV hE d_Mo_work_105 cl_Mo_155 (c_Mo_sumOf l nx hV (a := fx a) (b := fx d) (by omega) (by omega) ex ey kx ky bs (by rw [hbs]; split; exact Or.inl rfl; exact Or.inr rfl)) (by assumption) cb_Mo rfl (Nat.le_of_ble_eq_true rfl) ⟨by decide, by decide⟩ ⟨by omega, by omega⟩ (fun r_1 g_1 nx_1 hp_1 => ?_) rfl
      try dsimp only [Option.toList, List.nil_append, List.cons_append]
      obtain ⟨rfl, rfl, W1, t1, ts1, V1, e1, e7⟩ := hp_1
      try dsimp only [Option.toList, List.nil_append, List.cons_append]
      refine z_goto (tgt := 202) hE d_Mo_work_108 (by decide) ?_
      have wB := w816 kx.2.2 ky.2.2
      refine last _ _ _ V1 W1 (by rw [e7]; exact Nat.mul_pos kx.1.2.2 ky.1.2.2) (by rw [e7]; omega) ?_ _ rfl rfl
      rw [hspec, e1]
      rcases (by omega : fx act = 0 ∨ fx act = 1) with q | q
      · rw [hbs, q, if_pos rfl, Int32.mul_one]; rfl
      · rw [hbs, q, if_neg (by decide), Int32.mul_neg, Int32.mul_one]; rfl
    have ord : ∀ lv, 4 ≤ fx act → lG lv 0 = some (.ref P) → lG lv 1 = some (.int act) → lG lv 2 = some (.int f) → lG lv 3 = some (.int (nI (fx a))) → lG lv 4 = some (.int (nI (fx d))) → zJ E g nx 0 0 141 lv [] := by
      intro lv h4 l0 l1 l2 l3 l4
      refine z_sub (lv' := [(0, .ref P), (1, .int act), (2, .int f), (3, .int (nI (fx a))), (4, .int (nI (fx d)))]) (by simp only [List.map, l0, l1, l2, l3, l4]) ?_
      refine z_aload_n hE d_Mo_work_141 rfl ?_
      refine z_iload_n hE d_Mo_work_142 rfl ?_
      refine z_iload hE d_Mo_work_143 rfl ?_
      refine z_callV hE d_Mo_work_145 cl_Mo_165 (c_Mo_orderOf l nx (a := fx a) (b := fx d) hV (by omega) (by omega) ex ey kx ky) (by assumption) cb_Mo rfl (Nat.le_of_ble_eq_true rfl) ⟨by decide, by decide⟩ ⟨by omega, by omega⟩ (fun r_1 g_1 nx_1 hp_1 => ?_) rfl
      try dsimp only [Option.toList, List.nil_append, List.cons_append]
      obtain ⟨rfl, rfl, W1, t1, V1⟩ := hp_1
      try dsimp only [Option.toList, List.nil_append, List.cons_append]
      have from1 : ∀ (k : Nat) (q : Qf) lv, k < 16 → E0 k = some q → QK q → wkQ (fx act) x y = q → lG lv 0 = some (.ref P) → lG lv 2 = some (.int f) → zJ E g_1 nx 0 0 175 lv [.int (nI k)] := by
        intro k q lv hk eq kq hwk l0 l2
        refine z_sub (lv' := [(0, .ref P), (2, .int f)]) (by simp only [List.map, l0, l2]) ?_
        have m1 := V1.1
        refine z_istore hE d_Mo_work_175 (by decide) ?_
        refine z_aload_n hE d_Mo_work_177 rfl ?_
        refine z_iload hE d_Mo_work_178 rfl ?_
        refine z_aload_n hE d_Mo_work_180 rfl ?_
        refine z_get hE d_Mo_work_181 fl_Mo_26 (by assumption) rfl ?_
        refine z_aload_n hE d_Mo_work_184 rfl ?_
        refine z_get hE d_Mo_work_185 fl_Mo_29 (by assumption) rfl ?_
        refine z_callV hE d_Mo_work_188 cl_Mo_119 (c_Mo_take l nx (i := 6) (j := 7) V1 (by omega) eq (by omega) (by omega) (by omega) (by omega) (by omega)) (by assumption) cb_Mo rfl (Nat.le_of_ble_eq_true rfl) ⟨by decide, by decide⟩ ⟨by omega, by omega⟩ (fun r_2 g_2 nx_2 hp_2 => ?_) rfl
        try dsimp only [Option.toList, List.nil_append, List.cons_append]
        obtain ⟨rfl, rfl, V2, G2⟩ := hp_2
        try dsimp only [Option.toList, List.nil_append, List.cons_append]
        have m2 := V2.1
        have W2 : gW g g_2 P (P + 14) := gW_t W1 (g2_W G2 (by omega) (by omega) (by omega) (by omega))
        obtain ⟨-, -, ⟨sn2, A2, B2, k2, -, -, -, -, k6⟩, -⟩ := id V2
        have sq := (k6 k (by omega) q eq).1
        refine z_aload_n hE d_Mo_work_191 rfl ?_
        refine z_aload_n hE d_Mo_work_192 rfl ?_
        refine z_get hE d_Mo_work_193 fl_Mo_13 (by assumption) rfl ?_
        refine z_iload hE d_Mo_work_196 rfl ?_
        refine z_iald hE d_Mo_work_198 (by assumption) (nI_in' (by omega : k < 58) (by omega)) ?_
        rw [nI_cl (by omega), sq]
        refine z_put hE d_Mo_work_199 fl_Mo_99 ct_Mo ff_Mo_9 (by assumption) rfl rfl (Nat.le_of_ble_eq_true rfl) ?_
        have V3 := MV_put V2 S.2.2.2.1 S.2.2.2.2 q.1
        have e8 : 4294967296 ^ 8 * 4 ≤ 65536 ^ 56 := by decide
        have qw := kq.2.2
        refine last _ _ _ V3 (gW_t W2 (gW_S (Nat.le_refl _) (by omega))) (by exact kq.1.2.2) (by show 2 * q.2.2 ≤ _; omega) ?_ _ rfl rfl
        rw [hspec, hwk]
        exact congrArg (mkS S (fx f)) (mk_Q kq.1).symm
      have pick : ∀ (z : Int32) lv, z = (if cmpQ x y ≤ 0 then 1 else 0) → lG lv 0 = some (.ref P) → lG lv 1 = some (.int act) → lG lv 2 = some (.int f) → lG lv 3 = some (.int (nI (fx a))) → lG lv 4 = some (.int (nI (fx d))) → zJ E g_1 nx 0 0 156 lv [.int z] := by
        intro z lv hz l0 l1 l2 l3 l4
        refine z_sub (lv' := [(0, .ref P), (1, .int act), (2, .int f), (3, .int (nI (fx a))), (4, .int (nI (fx d)))]) (by simp only [List.map, l0, l1, l2, l3, l4]) ?_
        refine z_iload_n hE d_Mo_work_156 rfl ?_
        refine z_iconst (v := nI 4) hE d_Mo_work_157 (by decide) ?_
        have pick2 : ∀ (z' : Int32) lv, z' = (if fx act = 4 then 1 else 0) → lG lv 0 = some (.ref P) → lG lv 2 = some (.int f) → lG lv 3 = some (.int (nI (fx a))) → lG lv 4 = some (.int (nI (fx d))) → zJ E g_1 nx 0 0 166 lv [.int z', .int z] := by
          intro z' lv hz' l0 l2 l3 l4
          refine z_sub (lv' := [(0, .ref P), (2, .int f), (3, .int (nI (fx a))), (4, .int (nI (fx d)))]) (by simp only [List.map, l0, l2, l3, l4]) ?_
          have h45 : fx act = 4 ∨ fx act = 5 := by omega
          have wk4 : fx act = 4 → wkQ (fx act) x y = if cmpQ x y ≤ 0 then x else y := fun q => by rw [q]; rfl
          have wk5 : fx act = 5 → wkQ (fx act) x y = if 0 ≤ cmpQ x y then x else y := fun q => by rw [q]; rfl
          by_cases hc : cmpQ x y ≤ 0
          · rw [if_pos hc] at hz
            rcases h45 with q | q
            · rw [if_pos q] at hz'
              rw [hz, hz']
              refine z_icmp_ne (tgt := 173) hE d_Mo_work_166 (by decide) (fun c_ => absurd c_ (fun w => w rfl)) (fun _ => ?_)
              refine z_iload_n hE d_Mo_work_169 rfl ?_
              refine z_goto (tgt := 175) hE d_Mo_work_170 (by decide) ?_
              exact from1 (fx a) x _ (by omega) ex kx (by rw [wk4 q, if_pos hc]) rfl rfl
            · rw [if_neg (by omega)] at hz'
              rw [hz, hz']
              refine z_icmp_ne (tgt := 173) hE d_Mo_work_166 (by decide) (fun _ => ?_) (fun c_ => absurd c_ (by decide))
              refine z_iload hE d_Mo_work_173 rfl ?_
              refine from1 (fx d) y _ (by omega) ey ky ?_ rfl rfl
              rw [wk5 q]
              by_cases h0 : 0 ≤ cmpQ x y
              · rw [if_pos h0]; exact cmpQ_0 kx.1 ky.1 (Int32.le_antisymm hc h0)
              · rw [if_neg h0]
          · rw [if_neg hc] at hz
            have hc' := i32_lt0.mp hc
            rcases h45 with q | q
            · rw [if_pos q] at hz'
              rw [hz, hz']
              refine z_icmp_ne (tgt := 173) hE d_Mo_work_166 (by decide) (fun _ => ?_) (fun c_ => absurd c_ (by decide))
              refine z_iload hE d_Mo_work_173 rfl ?_
              exact from1 (fx d) y _ (by omega) ey ky (by rw [wk4 q, if_neg hc]) rfl rfl
            · rw [if_neg (by omega)] at hz'
              rw [hz, hz']
              refine z_icmp_ne (tgt := 173) hE d_Mo_work_166 (by decide) (fun c_ => absurd c_ (fun w => w rfl)) (fun _ => ?_)
              refine z_iload_n hE d_Mo_work_169 rfl ?_
              refine z_goto (tgt := 175) hE d_Mo_work_170 (by decide) ?_
              exact from1 (fx a) x _ (by omega) ex kx (by rw [wk5 q, if_pos (Int32.le_of_lt hc')]) rfl rfl
        by_cases q4 : fx act = 4
        · refine z_icmp_ne (tgt := 165) hE d_Mo_work_158 (by decide) (fun c_ => absurd c_ (fun w => w ((act_i 4 (by omega)).mpr q4))) (fun _ => ?_)
          refine z_iconst (v := 1) hE d_Mo_work_161 (by decide) ?_
          refine z_goto (tgt := 166) hE d_Mo_work_162 (by decide) ?_
          exact pick2 1 _ (by rw [if_pos q4]) rfl rfl rfl rfl
        · refine z_icmp_ne (tgt := 165) hE d_Mo_work_158 (by decide) (fun _ => ?_) (fun c_ => absurd c_ (fun w => q4 ((act_i 4 (by omega)).mp w)))
          refine z_iconst (v := 0) hE d_Mo_work_165 (by decide) ?_
          exact pick2 0 _ (by rw [if_neg q4]) rfl rfl rfl rfl
      by_cases hc : cmpQ x y ≤ 0
      · refine z_if_gt (tgt := 155) hE d_Mo_work_148 (by decide) (fun c_ => absurd c_ (fun w => i32_lt0.mpr w hc)) (fun _ => ?_)
        refine z_iconst (v := 1) hE d_Mo_work_151 (by decide) ?_
        refine z_goto (tgt := 156) hE d_Mo_work_152 (by decide) ?_
        exact pick 1 _ (by rw [if_pos hc]) rfl rfl rfl rfl rfl
      · refine z_if_gt (tgt := 155) hE d_Mo_work_148 (by decide) (fun _ => ?_) (fun c_ => absurd c_ (fun w => w (i32_lt0.mp hc)))
        refine z_iconst (v := 0) hE d_Mo_work_155 (by decide) ?_
        exact pick 0 _ (by rw [if_neg hc]) rfl rfl rfl rfl rfl
    refine z_iload_n hE d_Mo_work_83 rfl ?_
    by_cases q0 : fx act = 0
    · refine z_if_eq (tgt := 92) hE d_Mo_work_84 (by decide) (fun _ => ?_) (fun c_ => absurd c_ (fun w => w ((act_i 0 (by omega)).mpr q0)))
      refine z_aload_n hE d_Mo_work_92 rfl ?_
      refine z_iload_n hE d_Mo_work_93 rfl ?_
      refine z_iload hE d_Mo_work_94 rfl ?_
      refine z_iload_n hE d_Mo_work_96 rfl ?_
      refine z_if_ne (tgt := 104) hE d_Mo_work_97 (by decide) (fun c_ => absurd c_ (fun w => w ((act_i 0 (by omega)).mpr q0))) (fun _ => ?_)
      refine z_iconst (v := 1) hE d_Mo_work_100 (by decide) ?_
      refine z_goto (tgt := 105) hE d_Mo_work_101 (by decide) ?_
      exact sum 1 _ (by rw [if_pos q0]) (by omega) rfl rfl
    · refine z_if_eq (tgt := 92) hE d_Mo_work_84 (by decide) (fun c_ => absurd c_ (fun w => q0 ((act_i 0 (by omega)).mp w))) (fun _ => ?_)
      refine z_iload_n hE d_Mo_work_87 rfl ?_
      refine z_iconst (v := nI 1) hE d_Mo_work_88 (by decide) ?_
      by_cases q1 : fx act = 1
      · refine z_icmp_ne (tgt := 111) hE d_Mo_work_89 (by decide) (fun c_ => absurd c_ (fun w => w ((act_i 1 (by omega)).mpr q1))) (fun _ => ?_)
        refine z_aload_n hE d_Mo_work_92 rfl ?_
        refine z_iload_n hE d_Mo_work_93 rfl ?_
        refine z_iload hE d_Mo_work_94 rfl ?_
        refine z_iload_n hE d_Mo_work_96 rfl ?_
        refine z_if_ne (tgt := 104) hE d_Mo_work_97 (by decide) (fun _ => ?_) (fun c_ => absurd c_ (fun w => q0 ((act_i 0 (by omega)).mp w)))
        refine z_iconst (v := (-1)) hE d_Mo_work_104 (by decide) ?_
        exact sum (-1) _ (by rw [if_neg q0]) (by omega) rfl rfl
      · refine z_icmp_ne (tgt := 111) hE d_Mo_work_89 (by decide) (fun _ => ?_) (fun c_ => absurd c_ (fun w => q1 ((act_i 1 (by omega)).mp w)))
        refine z_iload_n hE d_Mo_work_111 rfl ?_
        refine z_iconst (v := nI 2) hE d_Mo_work_112 (by decide) ?_
        by_cases q2 : fx act = 2
        · refine z_icmp_ne (tgt := 126) hE d_Mo_work_113 (by decide) (fun c_ => absurd c_ (fun w => w ((act_i 2 (by omega)).mpr q2))) (fun _ => ?_)
          refine z_aload_n hE d_Mo_work_116 rfl ?_
          refine z_iload_n hE d_Mo_work_117 rfl ?_
          refine z_iload hE d_Mo_work_118 rfl ?_
          refine z_callV hE d_Mo_work_120 cl_Mo_159 (c_Mo_productOf l nx (a := fx a) (b := fx d) hV (by omega) (by omega) ex ey kx ky) (by assumption) cb_Mo rfl (Nat.le_of_ble_eq_true rfl) ⟨by decide, by decide⟩ ⟨by omega, by omega⟩ (fun r_1 g_1 nx_1 hp_1 => ?_) rfl
          try dsimp only [Option.toList, List.nil_append, List.cons_append]
          obtain ⟨rfl, rfl, W1, t1, V1, e6, e7⟩ := hp_1
          try dsimp only [Option.toList, List.nil_append, List.cons_append]
          refine z_goto (tgt := 202) hE d_Mo_work_123 (by decide) ?_
          have wB := w816 kx.2.2 ky.2.2
          refine last _ _ _ V1 W1 (by rw [e7]; exact Nat.mul_pos kx.1.2.2 ky.1.2.2) (by rw [e7]; omega) ?_ _ rfl rfl
          rw [hspec, e6, e7, q2]; rfl
        · refine z_icmp_ne (tgt := 126) hE d_Mo_work_113 (by decide) (fun _ => ?_) (fun c_ => absurd c_ (fun w => q2 ((act_i 2 (by omega)).mp w)))
          refine z_iload_n hE d_Mo_work_126 rfl ?_
          refine z_iconst (v := nI 3) hE d_Mo_work_127 (by decide) ?_
          by_cases q3 : fx act = 3
          · have hy0 := isS_n0 ky.1.1 (fun q => hz ⟨q3, q⟩)
            refine z_icmp_ne (tgt := 141) hE d_Mo_work_128 (by decide) (fun c_ => absurd c_ (fun w => w ((act_i 3 (by omega)).mpr q3))) (fun _ => ?_)
            refine z_aload_n hE d_Mo_work_131 rfl ?_
            refine z_iload_n hE d_Mo_work_132 rfl ?_
            refine z_iload hE d_Mo_work_133 rfl ?_
            refine z_callV hE d_Mo_work_135 cl_Mo_162 (c_Mo_quotientOf l nx (a := fx a) (b := fx d) hV (by omega) (by omega) ex ey kx ky) (by assumption) cb_Mo rfl (Nat.le_of_ble_eq_true rfl) ⟨by decide, by decide⟩ ⟨by omega, by omega⟩ (fun r_1 g_1 nx_1 hp_1 => ?_) rfl
            try dsimp only [Option.toList, List.nil_append, List.cons_append]
            obtain ⟨rfl, rfl, W1, t1, V1, e6, e7⟩ := hp_1
            try dsimp only [Option.toList, List.nil_append, List.cons_append]
            refine z_goto (tgt := 202) hE d_Mo_work_138 (by decide) ?_
            have wB := w816 kx.2.2 ky.2.1
            refine last _ _ _ V1 W1 (by rw [e7]; exact Nat.mul_pos kx.1.2.2 (by omega)) (by rw [e7]; omega) ?_ _ rfl rfl
            rw [hspec, e6, e7, q3]; rfl
          · refine z_icmp_ne (tgt := 141) hE d_Mo_work_128 (by decide) (fun _ => ?_) (fun c_ => absurd c_ (fun w => q3 ((act_i 3 (by omega)).mp w)))
            exact ord _ (by omega) rfl rfl rfl rfl rfl
  refine z_iload_n hE d_Mo_work_62 rfl ?_
  refine z_iconst (v := nI 3) hE d_Mo_work_63 (by decide) ?_
  by_cases q3 : fx act = 3
  · refine z_icmp_ne (tgt := 83) hE d_Mo_work_64 (by decide) (fun c_ => absurd c_ (fun w => w ((act_i 3 (by omega)).mpr q3))) (fun _ => ?_)
    refine z_aload_n hE d_Mo_work_67 rfl ?_
    refine z_get hE d_Mo_work_68 fl_Mo_13 (by assumption) rfl ?_
    refine z_iload hE d_Mo_work_71 rfl ?_
    refine z_iald hE d_Mo_work_73 (by assumption) (nI_in' (by omega : fx d < 58) (by omega)) ?_
    rw [nI_cl (by omega), sy]
    by_cases y0 : y.1 = 0
    · refine z_if_ne (tgt := 83) hE d_Mo_work_74 (by decide) (fun c_ => absurd c_ (fun w => w y0)) (fun _ => ?_)
      refine z_aload_n hE d_Mo_work_77 rfl ?_
      refine z_iconst (v := 5) hE d_Mo_work_78 (by decide) ?_
      refine z_callV hE d_Mo_work_79 cl_Mo_106 (c_Mo_fail l nx hV 5) (by assumption) cb_Mo rfl (Nat.le_of_ble_eq_true rfl) ⟨by decide, by decide⟩ ⟨by omega, by omega⟩ (fun r_9 g_9 nx_9 hp_9 => ?_) rfl
      try dsimp only [Option.toList, List.nil_append, List.cons_append]
      obtain ⟨rfl, rfl, V9, G9⟩ := hp_9
      try dsimp only [Option.toList, List.nil_append, List.cons_append]
      refine z_iret hE hQ d_Mo_work_82 rfl (by omega) (by omega) (pM_of (S := sC S 5) ?_ V9 (EQS_c hEQ rfl rfl) (gW_t gW_r (g1_W G9 (by omega) (by omega))))
      rw [hspec, if_pos ⟨q3, y0⟩]; rfl
    · refine z_if_ne (tgt := 83) hE d_Mo_work_74 (by decide) (fun _ => ?_) (fun c_ => absurd c_ (y0))
      exact go _ (fun z => y0 z.2) rfl rfl rfl (by rw [← ea]; rfl) (by rw [← ed]; rfl)
  · refine z_icmp_ne (tgt := 83) hE d_Mo_work_64 (by decide) (fun _ => ?_) (fun c_ => absurd c_ (fun w => q3 ((act_i 3 (by omega)).mp w)))
    exact go _ (fun z => q3 z.1) rfl rfl rfl (by rw [← ea]; rfl) (by rw [← ed]; rfl)

