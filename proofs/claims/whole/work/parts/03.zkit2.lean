section ZL
variable {E : zE} {l : Launch} {M : mI} {tc ts : Nat} {g : Gh} {nx cells slots pc : Nat} {lv : List (Nat × Value)} {rest : List Value}
theorem z_aast (hE : zOk E l M tc ts) {a n t ci v : Nat} {vs : List Value} {f : Nat → Option Nat} {i : Int32} (hd : decode M.2.1 pc = .ok (.aastore, 1)) (hg : g a = some (.inl (t, n, .inr (.inr (.inr (.inr f)))))) (ht : t = 3 ∧ ci = 1 ∨ t = 4 ∧ ci = 4) (hv : g v = some (.inr (ci, vs))) (hin : vp_in i n) (k : zJ E (gS g a (.inl (t, n, .inr (.inr (.inr (.inr (va_up f i.toNatClampNeg (some v)))))))) nx cells slots (pc + 1) lv rest) : zJ E g nx cells slots pc lv (.ref v :: .int i :: .ref a :: rest) := by
  obtain ⟨⟨p, l', e, R, s, m, args, below, meth, c, Q⟩, D, τ, base⟩ := E
  obtain ⟨rfl, hx, hb, hml, hown, hts, hK, hN, hAO, hr, hlk, hnm, hRf, hRl, hRc, hRs, hbs⟩ := hE
  intro H locs ls hP hS hl
  obtain ⟨r, hr1, hr2⟩ : ∃ r : vw_C, classes[ci]? = some r ∧ (gTy τ)[t]? = some (τ t, .object r.1) := by
    rcases ht with ⟨rfl, rfl⟩ | ⟨rfl, rfl⟩
    · exact ⟨_, rfl, rfl⟩
    · exact ⟨_, rfl, rfl⟩
  have hlt : i.toNatClampNeg < n := Nat.not_le.mp fun q => hin (Or.inr q)
  have h0 : ¬ i < 0 := fun q => hin (Or.inl q)
  obtain ⟨r', hr', cellV, g1, g2, g3, -⟩ := (hP.2.2 v _ hv).2
  have hcls := (hK.1 ci r hr1).2
  obtain ⟨kA, comp, k1, k2, k3, -⟩ := (hK.2 t _ hr2).2
  have hcomp : comp = D.1 ci := Option.some.inj (k3.symm.trans hcls.1)
  subst hcomp
  obtain ⟨kC, hkC, -⟩ := hcls.2
  refine W.aast hx hb (hP.2.2 a _ hg).2 (fun q h => by cases h) (fun h => by cases h) k1 k2 rfl hkC ⟨h0, by show _ < (arrV _ _ _).slots.size; rw [arrV_size]; exact hlt⟩ g1 (fun q h => by rw [g3] at h; cases h) (by rw [g2]; exact hkC) (by rw [g2]; exact va_assign hcls) rfl rfl hd fun H1 e1 z oq => ?_
  refine k H1 _ ls (gP_set hP hg ?_ z oq) (hS.put z oq (hP.2.2 a _ hg).1) hl
  show H1[a]? = some (vp_cell _ _)
  rw [e1]
  rw [vp_cell_q, vp_cell_q, arrV_store]
  congr 2
  funext q
  by_cases hq : q = i.toNatClampNeg
  · subst hq
    simp [updV, va_up, va_rf]
  · simp [updV, va_up, hq]
theorem z_aastN (hE : zOk E l M tc ts) {a n t : Nat} {f : Nat → Option Nat} {i : Int32} (hd : decode M.2.1 pc = .ok (.aastore, 1)) (hg : g a = some (.inl (t, n, .inr (.inr (.inr (.inr f)))))) (ht : t = 3 ∨ t = 4) (hin : vp_in i n) (k : zJ E (gS g a (.inl (t, n, .inr (.inr (.inr (.inr (va_up f i.toNatClampNeg none))))))) nx cells slots (pc + 1) lv rest) : zJ E g nx cells slots pc lv (.null :: .int i :: .ref a :: rest) := by
  obtain ⟨⟨p, l', e, R, s, m, args, below, meth, c, Q⟩, D, τ, base⟩ := E
  obtain ⟨rfl, hx, hb, hml, hown, hts, hK, hN, hAO, hr, hlk, hnm, hRf, hRl, hRc, hRs, hbs⟩ := hE
  intro H locs ls hP hS hl
  obtain ⟨C, hr2⟩ : ∃ C : String, (gTy τ)[t]? = some (τ t, .object C) := by
    rcases ht with rfl | rfl
    · exact ⟨_, rfl⟩
    · exact ⟨_, rfl⟩
  refine va_WaastN (C := C) hx hb (hP.2.2 a _ hg).2 ((hK.2 t _ hr2).1 n (fun j => va_rf (f j))) (fun h => by cases h) (by show ¬ (i < 0 ∨ (arrV _ _ _).slots.size ≤ _); rw [arrV_size]; exact hin) rfl rfl hd fun H1 e1 z oq => ?_
  refine k H1 _ ls (gP_set hP hg ?_ z oq) (hS.put z oq (hP.2.2 a _ hg).1) hl
  show H1[a]? = some (vp_cell _ _)
  rw [e1]
  rw [vp_cell_q, vp_cell_q, arrV_store]
  congr 2
  funext q
  by_cases hq : q = i.toNatClampNeg
  · subst hq
    simp [updV, va_up, va_rf]
  · simp [updV, va_up, hq]
theorem z_aastq (hE : zOk E l M tc ts) {a n t ci : Nat} {v : Option Nat} {f : Nat → Option Nat} {i : Int32} (hd : decode M.2.1 pc = .ok (.aastore, 1)) (hg : g a = some (.inl (t, n, .inr (.inr (.inr (.inr f)))))) (ht : t = 3 ∧ ci = 1 ∨ t = 4 ∧ ci = 4) (hv : ∀ w, v = some w → ∃ vs, g w = some (.inr (ci, vs))) (hin : vp_in i n) (k : zJ E (gS g a (.inl (t, n, .inr (.inr (.inr (.inr (va_up f i.toNatClampNeg v))))))) nx cells slots (pc + 1) lv rest) : zJ E g nx cells slots pc lv (va_rf v :: .int i :: .ref a :: rest) := by
  cases v with
  | none => exact z_aastN hE hd hg (by rcases ht with h | h; exact Or.inl h.1; exact Or.inr h.1) hin k
  | some w =>
    obtain ⟨vs, hvs⟩ := hv w rfl
    exact z_aast hE hd hg ht hvs hin k
theorem z_newal (hE : zOk E l M tc ts) {n : Int32} {N : Nat} (hd : decode M.2.1 pc = .ok (.newarray .long, 2)) (hw : Cond.arrayClass .long ∈ Tw) (hn : ¬ n < 0) (hNn : n.toNatClampNeg = N) (hby : N * 8 ≤ 536870912) (hcells : cells + 1 ≤ tc) (hslots : slots + N ≤ ts) (k : zJ E (gS g nx (.inl (0, (N, .inr (.inl (fun _ => 0)))))) (nx + 1) (cells + 1) (slots + N) (pc + 2) lv (.ref nx :: rest)) : zJ E g nx cells slots pc lv (.int n :: rest) := by
  obtain ⟨⟨p, l', e, R, s, m, args, below, meth, c, Q⟩, D, τ, base⟩ := E
  obtain ⟨rfl, hx, hb, hml, hown, hts, hK, hN, hAO, hr, hlk, hnm, hRf, hRl, hRc, hRs, hbs⟩ := hE
  intro H locs ls hP hS hl
  refine va_newaK hx hb (atype := .long) (hts _ hw) rfl hd rfl hn hNn (Nat.le_trans (Nat.mul_le_mul_left N (by decide)) hby) (by rw [hRc]; exact hcells) (by rw [hRs]; exact hslots) hP.1 fun H1 cA e1 z1 o1 hAr hNm => ?_
  have hcA : cA = τ 0 := by
    have h1 := (hK.2 0 _ rfl).2
    exact Option.some.inj (hNm.symm.trans h1)
  subst hcA
  refine k H1 locs ls (gP_new hP ?_ z1 o1) ⟨Nat.le_trans hS.1 (by rw [z1, hP.1]; exact Nat.le_succ _), fun q h1 h2 => (o1 q (by rw [← hP.1]; exact Nat.lt_of_lt_of_le h1 hS.1)).trans (hS.2.1 q h1 h2), hS.2.2⟩ hl
  exact e1
theorem z_newai (hE : zOk E l M tc ts) {n : Int32} {N : Nat} (hd : decode M.2.1 pc = .ok (.newarray .int, 2)) (hw : Cond.arrayClass .int ∈ Tw) (hn : ¬ n < 0) (hNn : n.toNatClampNeg = N) (hby : N * 8 ≤ 536870912) (hcells : cells + 1 ≤ tc) (hslots : slots + N ≤ ts) (k : zJ E (gS g nx (.inl (1, (N, .inl (fun _ => 0))))) (nx + 1) (cells + 1) (slots + N) (pc + 2) lv (.ref nx :: rest)) : zJ E g nx cells slots pc lv (.int n :: rest) := by
  obtain ⟨⟨p, l', e, R, s, m, args, below, meth, c, Q⟩, D, τ, base⟩ := E
  obtain ⟨rfl, hx, hb, hml, hown, hts, hK, hN, hAO, hr, hlk, hnm, hRf, hRl, hRc, hRs, hbs⟩ := hE
  intro H locs ls hP hS hl
  refine va_newaK hx hb (atype := .int) (hts _ hw) rfl hd rfl hn hNn (Nat.le_trans (Nat.mul_le_mul_left N (by decide)) hby) (by rw [hRc]; exact hcells) (by rw [hRs]; exact hslots) hP.1 fun H1 cA e1 z1 o1 hAr hNm => ?_
  have hcA : cA = τ 1 := by
    have h1 := (hK.2 1 _ rfl).2
    exact Option.some.inj (hNm.symm.trans h1)
  subst hcA
  refine k H1 locs ls (gP_new hP ?_ z1 o1) ⟨Nat.le_trans hS.1 (by rw [z1, hP.1]; exact Nat.le_succ _), fun q h1 h2 => (o1 q (by rw [← hP.1]; exact Nat.lt_of_lt_of_le h1 hS.1)).trans (hS.2.1 q h1 h2), hS.2.2⟩ hl
  exact e1
theorem z_newaz (hE : zOk E l M tc ts) {n : Int32} {N : Nat} (hd : decode M.2.1 pc = .ok (.newarray .boolean, 2)) (hw : Cond.arrayClass .boolean ∈ Tw) (hn : ¬ n < 0) (hNn : n.toNatClampNeg = N) (hby : N * 8 ≤ 536870912) (hcells : cells + 1 ≤ tc) (hslots : slots + N ≤ ts) (k : zJ E (gS g nx (.inl (2, (N, .inl (fun _ => 0))))) (nx + 1) (cells + 1) (slots + N) (pc + 2) lv (.ref nx :: rest)) : zJ E g nx cells slots pc lv (.int n :: rest) := by
  obtain ⟨⟨p, l', e, R, s, m, args, below, meth, c, Q⟩, D, τ, base⟩ := E
  obtain ⟨rfl, hx, hb, hml, hown, hts, hK, hN, hAO, hr, hlk, hnm, hRf, hRl, hRc, hRs, hbs⟩ := hE
  intro H locs ls hP hS hl
  refine va_newaK hx hb (atype := .boolean) (hts _ hw) rfl hd rfl hn hNn (Nat.le_trans (Nat.mul_le_mul_left N (by decide)) hby) (by rw [hRc]; exact hcells) (by rw [hRs]; exact hslots) hP.1 fun H1 cA e1 z1 o1 hAr hNm => ?_
  have hcA : cA = τ 2 := by
    have h1 := (hK.2 2 _ rfl).2
    exact Option.some.inj (hNm.symm.trans h1)
  subst hcA
  refine k H1 locs ls (gP_new hP ?_ z1 o1) ⟨Nat.le_trans hS.1 (by rw [z1, hP.1]; exact Nat.le_succ _), fun q h1 h2 => (o1 q (by rw [← hP.1]; exact Nat.lt_of_lt_of_le h1 hS.1)).trans (hS.2.1 q h1 h2), hS.2.2⟩ hl
  exact e1
theorem z_anew (hE : zOk E l M tc ts) {index t : Nat} {C : String} {n : Int32} {N : Nat} (hd : decode M.2.1 pc = .ok (.anewarray index, 3)) (hw : Cond.classLink M.1.cls index C ∈ Tw) (hC : C ∈ gAO) (ht : t = 3 ∧ C = "OddsFractions$Fraction" ∨ t = 4 ∧ C = "OddsFractions$Row") (hn : ¬ n < 0) (hNn : n.toNatClampNeg = N) (hby : N * 4 ≤ 536870912) (hcells : cells + 1 ≤ tc) (hslots : slots + N ≤ ts) (k : zJ E (gS g nx (.inl (t, N, .inr (.inr (.inr (.inr (fun _ => none))))))) (nx + 1) (cells + 1) (slots + N) (pc + 3) lv (.ref nx :: rest)) : zJ E g nx cells slots pc lv (.int n :: rest) := by
  obtain ⟨⟨p, l', e, R, s, m, args, below, meth, c, Q⟩, D, τ, base⟩ := E
  obtain ⟨rfl, hx, hb, hml, hown, hts, hK, hN, hAO, hr, hlk, hnm, hRf, hRl, hRc, hRs, hbs⟩ := hE
  intro H locs ls hP hS hl
  subst hNn
  have hr2 : (gTy τ)[t]? = some (τ t, .object C) := by
    rcases ht with ⟨rfl, rfl⟩ | ⟨rfl, rfl⟩
    · rfl
    · rfl
  obtain ⟨kA0, comp0, -, -, -, hNm⟩ := (hK.2 t _ hr2).2
  refine W.anew hx hb hown (hts _ hw) (va_AO.use (hAO C hC)) rfl hd rfl hn hby (by rw [hRc]; exact hcells) (by rw [hRs]; exact hslots) fun cA kA comp f1 f2 f3 f4 => ?_
  have hcA : cA = τ t := Option.some.inj (f1.symm.trans hNm)
  subst hcA
  generalize hH1 : H.push ({ cls := τ t, slots := Array.replicate n.toNatClampNeg .null, vm := .none } : Cell) = H1
  have z1 : H1.size = nx + 1 := by rw [← hH1, Array.size_push, hP.1]
  have e1 : H1[nx]? = some (arrV (τ t) n.toNatClampNeg (fun _ => .null)) := by rw [← hH1, ← hP.1, Array.getElem?_push_size, ← arrV_new]
  have o1 : ∀ q : Nat, q < nx → H1[q]? = H[q]? := fun q hq => by rw [← hH1, Array.getElem?_push, if_neg (by rw [hP.1]; exact Nat.ne_of_lt hq)]
  have kk := k H1 locs ls (gP_new hP (show va_at D classes (nx, .inl (τ t, n.toNatClampNeg, .inr (.inr (.inr (.inr (fun _ => none)))))) H1 from e1) z1 o1) ⟨Nat.le_trans hS.1 (by rw [z1, hP.1]; exact Nat.le_succ _), fun q h1 h2 => (o1 q (by rw [← hP.1]; exact Nat.lt_of_lt_of_le h1 hS.1)).trans (hS.2.1 q h1 h2), hS.2.2⟩ hl
  rw [← hP.1] at kk
  exact kk
theorem z_new (hE : zOk E l M tc ts) {index ci N : Nat} {C : String} {T : u_T} {ty : Nat → FieldType} {fs : List Value} (hd : decode M.2.1 pc = .ok (.new index, 3)) (hct : CT ci ty) (hc : classes[ci]? = some (C, T, N)) (hcl : Cond.classLink M.1.cls index C ∈ Tw) (hinst : Cond.instantiable C N ∈ Tw) (hini : Cond.initialized C ∈ Tw) (hfs : ∀ j, j < N → defaultValue (ty j) = vp_V fs j) (hcells : cells + 1 ≤ tc) (hslots : slots + N ≤ ts) (k : zJ E (gS g nx (.inr (ci, fs))) (nx + 1) (cells + 1) (slots + N) (pc + 3) lv (.ref nx :: rest)) : zJ E g nx cells slots pc lv rest := by
  obtain ⟨⟨p, l', e, R, s, m, args, below, meth, c, Q⟩, D, τ, base⟩ := E
  obtain ⟨rfl, hx, hb, hml, hown, hts, hK, hN, hAO, hr, hlk, hnm, hRf, hRl, hRc, hRs, hbs⟩ := hE
  intro H locs ls hP hS hl
  obtain ⟨C', T', N', h1', h2, h5, h6⟩ := hct
  cases hc.symm.trans h1'
  have hKn := hK.1 ci _ hc
  refine W.newcK hx hb hown (hts _ hcl) (hts _ hinst) (hts _ hini) rfl hd (by rw [hRc]; exact hcells) (by rw [hRs]; exact hslots) hKn.2.1 hP.1 fun H1 kC hkC e1 z1 o1 => ?_
  exact k H1 locs ls (gP_new hP ⟨_, hc, (u_born ty hts h2 hKn hkC e1 h5).to hfs⟩ z1 o1) ⟨Nat.le_trans hS.1 (by rw [z1, hP.1]; exact Nat.le_succ _), fun q h1 h2 => (o1 q (by rw [← hP.1]; exact Nat.lt_of_lt_of_le h1 hS.1)).trans (hS.2.1 q h1 h2), hS.2.2⟩ hl
theorem z_objInit (hE : zOk E l M tc ts) {index a : Nat} (hd : decode M.2.1 pc = .ok (.invokespecial index, 3)) (hw : Cond.methodLink M.1.cls index objectInit ∈ Tw) (hw2 : Cond.instanceMethod objectInit ∈ Tw) (hw3 : Cond.code objectInit ⟨#[0xb1]⟩ 1 none ∈ Tw) (hfr : 1 ≤ M.2.2.2.2.1) (hlo : (rest.map fun v => v.category).sum + 12 ≤ M.2.2.2.2.2) (k : zJ E g nx cells slots (pc + 3) lv rest) : zJ E g nx cells slots pc lv (.ref a :: rest) := by
  obtain ⟨⟨p, l', e, R, s, m, args, below, meth, c, Q⟩, D, τ, base⟩ := E
  obtain ⟨rfl, hx, hb, hml, hown, hts, hK, hN, hAO, hr, hlk, hnm, hRf, hRl, hRc, hRs, hbs⟩ := hE
  intro H locs ls hP hS hl
  refine W.objInit hx hb hown (hts _ hw) (hts _ hw2) (hts _ hw3) rfl hl.1 rfl hd (by rw [hRf]; exact hfr) (by rw [hRl]; show 2 * 0 + _ + 12 ≤ _; omega) ?_
  exact k H locs ls hP hS hl
/-- behind a call -/
theorem z_after {p : Program} {l : Launch} {e : Env} {R : Room} {s : State} {m : MethodId} {args : Array Value} {below : List Frame} {meth : Method} {c : Code} {Q : State → Prop} {D : va_G} {τ : Nat → ClassId} {base : Nat} {H : Heap} {locs : List Loc} {mc ms : Nat} {ls : Array Slot} {st0 : List Value} {post : Option Value → Gh → Nat → Prop} {a : Array Value} (hbs : base ≤ s.heap.size)
    (hr : va_Run p l e R s m args below meth c H locs cells slots mc ms (F0 m pc ls st0) rest (zQ D τ base post a) (fun q => base ≤ q)) (hS : va_S (fun q => base ≤ q) s.heap H locs) (hl : lv_has ls c.maxLocals lv)
    (k : ∀ (r : Option Value) (g' : Gh) (nx' : Nat), post r g' nx' → zJ ((p, l, e, R, s, m, args, below, meth, c, Q), D, τ, base) g' nx' (cells + mc) (slots + ms) (pc + 3) lv (r.toList ++ rest)) : W p l e R s m args below meth c H locs cells slots Q (F0 m pc ls st0) := by
  intro T hT X
  obtain ⟨v, st₀, t, T', L, h0, X', hL, e1, e2, ⟨r, g', nx', hv, hp, hgp, hz, hk⟩, st⟩ := hr T hT X
  cases hv
  rw [h0] at hz hk
  obtain ⟨t2, a1, b1⟩ := k _ g' nx' hp T'.heap (locs ++ L) ls (by rw [e1]; exact hgp)
    ⟨Nat.le_trans hS.1 (by rw [e1]; exact hz), fun q h1 h2 => by rw [e1, hk q (by omega)]; exact hS.2.1 q h1 h2, fun q hq => by
      rcases List.mem_append.mp hq with h | h
      · exact hS.2.2 q h
      · exact hL q h⟩ hl T' rfl X'
  exact ⟨t2, st t2 a1, b1⟩
theorem z_callV (hE : zOk E l M tc ts) {index n mc ms b ci : Nat} {M1 : mI} {As : List Value} {fs : List Value} {post : Option Value → Gh → Nat → Prop} (hd : decode M.2.1 pc = .ok (.invokevirtual index, 3)) (hcv : CV M.1.cls index M1 n) (hC : Ct l M1 mc ms (.ref b :: As) g nx post) (hgb : g b = some (.inr (ci, fs))) (hcb : ∃ q : vw_C, classes[ci]? = some q ∧ q.1 = M1.1.cls) (hn : As.length = n) (hst : (rest.map fun v => v.category).sum ≤ 8) (hroom : M1.2.2.2.2.1 + 1 ≤ M.2.2.2.2.1 ∧ 8 + (M1.2.2.1 + 11) + M1.2.2.2.2.2 ≤ M.2.2.2.2.2) (hf : cells + mc ≤ tc ∧ slots + ms ≤ ts)
    (k : ∀ (r : Option Value) (g' : Gh) (nx' : Nat), post r g' nx' → zJ E g' nx' (cells + mc) (slots + ms) (pc + 3) lv (r.toList ++ rest)) {st0 : List Value} (hs0 : st0 = As.reverse ++ .ref b :: rest) : zJ E g nx cells slots pc lv st0 := by
  obtain ⟨⟨p, l', e, R, s, m, args, below, meth, c, Q⟩, D, τ, base⟩ := E
  obtain ⟨rfl, hx, hb, hml, hown, hts, hK, hN, hAO, hr, hlk, hnm, hRf, hRl, hRc, hRs, hbs⟩ := hE
  intro H locs ls hP hS hl
  obtain ⟨⟨hlink, hcode, hini, hy1, hy2, hpn⟩, hinst, hsel⟩ := hcv
  have hG := Tw_goodIn hcode
  have hR2 : M1.2.2.2.2.1 + 1 ≤ R.frames ∧ 8 + (M1.2.2.1 + 11) + M1.2.2.2.2.2 ≤ R.locals := by rw [hRf, hRl]; exact hroom
  have hf2 : cells + mc ≤ R.cells ∧ slots + ms ≤ R.slots := by rw [hRc, hRs]; exact hf
  subst hs0
  refine z_after hbs (va_runV (C := M1.1.cls) (As := As) ⟨hx, hb, hml, hown, hts⟩ (hC D τ base) ⟨callB_of n hts hG rfl rfl rfl (hts _ hini) (hts _ hlink) ⟨hy1, hy2, hpn⟩ hR2, hts _ hinst, hts _ hsel⟩ ⟨fun aa U gg mk q => ⟨q.1, gI_blind (U := U) (V := U.calling gg mk aa) rfl rfl q.2⟩, (by obtain ⟨r0, hr0, cell, g1, g2, g3, -⟩ := (hP.2.2 b _ hgb).2; obtain ⟨q0, hq0, hq1⟩ := hcb; cases hr0.symm.trans hq0; exact ⟨cell, g1, by rw [g3]; rfl, by rw [g2, ← hq1]; exact (hK.1 ci _ hq0).2.1⟩), fun U hU hW => ⟨rfl, by rw [hU]; exact hP, va_K.moved hW.alike hK, Nw_warm hW hN, fun C hC => va_AO.moved hW.alike (hAO C hC)⟩⟩ rfl hn (hl.1.trans hml) rfl (lv_room hst) hd hf2) hS hl (fun r g' nx' hp => k r g' nx' hp)
theorem z_callVN (hE : zOk E l M tc ts) {index n mc ms b ci : Nat} {M1 : mI} {As : List Value} {fs : List Value} {post : Option Value → Gh → Nat → Prop} (hd : decode M.2.1 pc = .ok (.invokevirtual index, 3)) (hcv : CVN M.1.cls index M1 n) (hC : Ct l M1 mc ms (.ref b :: As) g nx post) (hgb : g b = some (.inr (ci, fs))) (hcb : ∃ q : vw_C, classes[ci]? = some q ∧ q.1 = M1.1.cls) (hn : As.length = n) (hst : (rest.map fun v => v.category).sum ≤ 8) (hroom : M1.2.2.2.2.1 + 1 ≤ M.2.2.2.2.1 ∧ 8 + (M1.2.2.1 + 11) + M1.2.2.2.2.2 ≤ M.2.2.2.2.2) (hf : cells + mc ≤ tc ∧ slots + ms ≤ ts)
    (k : ∀ (r : Option Value) (g' : Gh) (nx' : Nat), post r g' nx' → zJ E g' nx' (cells + mc) (slots + ms) (pc + 3) lv (r.toList ++ rest)) {st0 : List Value} (hs0 : st0 = As.reverse ++ .ref b :: rest) : zJ E g nx cells slots pc lv st0 := by
  obtain ⟨⟨p, l', e, R, s, m, args, below, meth, c, Q⟩, D, τ, base⟩ := E
  obtain ⟨rfl, hx, hb, hml, hown, hts, hK, hN, hAO, hr, hlk, hnm, hRf, hRl, hRc, hRs, hbs⟩ := hE
  intro H locs ls hP hS hl
  obtain ⟨⟨host, hlink⟩, ⟨hcode, hini, hy1, hy2, hpn⟩, hinst, hsel⟩ := hcv
  have hG := Tw_goodIn hcode
  have hR2 : M1.2.2.2.2.1 + 1 ≤ R.frames ∧ 8 + (M1.2.2.1 + 11) + M1.2.2.2.2.2 ≤ R.locals := by rw [hRf, hRl]; exact hroom
  have hf2 : cells + mc ≤ R.cells ∧ slots + ms ≤ R.slots := by rw [hRc, hRs]; exact hf
  subst hs0
  refine z_after hbs (va_runVN (C := M1.1.cls) (As := As) ⟨hx, hb, hml, hown, hts⟩ (hC D τ base) ⟨va_cnB n hts hG rfl rfl rfl (hN _ hlink) (hts _ hini) ⟨hy1, hy2, hpn⟩ hR2, hts _ hinst, hts _ hsel⟩ ⟨fun aa U gg mk q => ⟨q.1, gI_blind (U := U) (V := U.calling gg mk aa) rfl rfl q.2⟩, (by obtain ⟨r0, hr0, cell, g1, g2, g3, -⟩ := (hP.2.2 b _ hgb).2; obtain ⟨q0, hq0, hq1⟩ := hcb; cases hr0.symm.trans hq0; exact ⟨cell, g1, by rw [g3]; rfl, by rw [g2, ← hq1]; exact (hK.1 ci _ hq0).2.1⟩), fun U hU hW => ⟨rfl, by rw [hU]; exact hP, va_K.moved hW.alike hK, Nw_warm hW hN, fun C hC => va_AO.moved hW.alike (hAO C hC)⟩⟩ rfl hn (hl.1.trans hml) rfl (lv_room hst) hd hf2) hS hl (fun r g' nx' hp => k r g' nx' hp)
theorem z_callS (hE : zOk E l M tc ts) {index n mc ms : Nat} {M1 : mI} {As : List Value} {post : Option Value → Gh → Nat → Prop} (hd : decode M.2.1 pc = .ok (.invokestatic index, 3)) (hcs : CS M.1.cls index M1 n) (hC : Ct l M1 mc ms As g nx post) (hn : As.length = n) (hst : (rest.map fun v => v.category).sum ≤ 8) (hroom : M1.2.2.2.2.1 + 1 ≤ M.2.2.2.2.1 ∧ 8 + (M1.2.2.1 + 11) + M1.2.2.2.2.2 ≤ M.2.2.2.2.2) (hf : cells + mc ≤ tc ∧ slots + ms ≤ ts)
    (k : ∀ (r : Option Value) (g' : Gh) (nx' : Nat), post r g' nx' → zJ E g' nx' (cells + mc) (slots + ms) (pc + 3) lv (r.toList ++ rest)) {st0 : List Value} (hs0 : st0 = As.reverse ++ rest) : zJ E g nx cells slots pc lv st0 := by
  obtain ⟨⟨p, l', e, R, s, m, args, below, meth, c, Q⟩, D, τ, base⟩ := E
  obtain ⟨rfl, hx, hb, hml, hown, hts, hK, hN, hAO, hr, hlk, hnm, hRf, hRl, hRc, hRs, hbs⟩ := hE
  intro H locs ls hP hS hl
  obtain ⟨⟨hlink, hcode, hini, hy1, hy2, hpn⟩, hstat⟩ := hcs
  have hG := Tw_goodIn hcode
  have hR2 : M1.2.2.2.2.1 + 1 ≤ R.frames ∧ 8 + (M1.2.2.1 + 11) + M1.2.2.2.2.2 ≤ R.locals := by rw [hRf, hRl]; exact hroom
  have hf2 : cells + mc ≤ R.cells ∧ slots + ms ≤ R.slots := by rw [hRc, hRs]; exact hf
  subst hs0
  refine z_after hbs (va_runS (As := As) ⟨hx, hb, hml, hown, hts⟩ (hC D τ base) ⟨callB_of n hts hG rfl rfl rfl (hts _ hini) (hts _ hlink) ⟨hy1, hy2, hpn⟩ hR2, hts _ hstat⟩ ⟨fun aa U gg mk q => ⟨q.1, gI_blind (U := U) (V := U.calling gg mk aa) rfl rfl q.2⟩, fun U hU hW => ⟨rfl, by rw [hU]; exact hP, va_K.moved hW.alike hK, Nw_warm hW hN, fun C hC => va_AO.moved hW.alike (hAO C hC)⟩⟩ rfl hn (hl.1.trans hml) rfl (lv_room hst) hd hf2) hS hl (fun r g' nx' hp => k r g' nx' hp)
theorem z_callI (hE : zOk E l M tc ts) {index n mc ms b : Nat} {M1 : mI} {As : List Value} {post : Option Value → Gh → Nat → Prop} (hd : decode M.2.1 pc = .ok (.invokespecial index, 3)) (hci : CI M.1.cls index M1 n) (hC : Ct l M1 mc ms (.ref b :: As) g nx post) (hn : As.length = n) (hst : (rest.map fun v => v.category).sum ≤ 8) (hroom : M1.2.2.2.2.1 + 1 ≤ M.2.2.2.2.1 ∧ 8 + (M1.2.2.1 + 11) + M1.2.2.2.2.2 ≤ M.2.2.2.2.2) (hf : cells + mc ≤ tc ∧ slots + ms ≤ ts)
    (k : ∀ (r : Option Value) (g' : Gh) (nx' : Nat), post r g' nx' → zJ E g' nx' (cells + mc) (slots + ms) (pc + 3) lv (r.toList ++ rest)) {st0 : List Value} (hs0 : st0 = As.reverse ++ .ref b :: rest) : zJ E g nx cells slots pc lv st0 := by
  obtain ⟨⟨p, l', e, R, s, m, args, below, meth, c, Q⟩, D, τ, base⟩ := E
  obtain ⟨rfl, hx, hb, hml, hown, hts, hK, hN, hAO, hr, hlk, hnm, hRf, hRl, hRc, hRs, hbs⟩ := hE
  intro H locs ls hP hS hl
  obtain ⟨⟨hlink, hcode, hini, hy1, hy2, hpn⟩, hinst, hin, hret⟩ := hci
  have hG := Tw_goodIn hcode
  have hR2 : M1.2.2.2.2.1 + 1 ≤ R.frames ∧ 8 + (M1.2.2.1 + 11) + M1.2.2.2.2.2 ≤ R.locals := by rw [hRf, hRl]; exact hroom
  have hf2 : cells + mc ≤ R.cells ∧ slots + ms ≤ R.slots := by rw [hRc, hRs]; exact hf
  subst hs0
  refine z_after hbs (va_runI (As := As) ⟨hx, hb, hml, hown, hts⟩ (hC D τ base) ⟨callB_of n hts hG (by rw [← hret]) rfl rfl (hts _ hini) (hts _ hlink) ⟨hy1, hy2, hpn⟩ hR2, hin, hts _ hinst⟩ ⟨fun aa U gg mk q => ⟨q.1, gI_blind (U := U) (V := U.calling gg mk aa) rfl rfl q.2⟩, fun U hU hW => ⟨rfl, by rw [hU]; exact hP, va_K.moved hW.alike hK, Nw_warm hW hN, fun C hC => va_AO.moved hW.alike (hAO C hC)⟩⟩ rfl hn (hl.1.trans hml) rfl (lv_room hst) hd hf2) hS hl (fun r g' nx' hp => k r g' nx' hp)
theorem z_callIN (hE : zOk E l M tc ts) {index n mc ms b : Nat} {M1 : mI} {As : List Value} {post : Option Value → Gh → Nat → Prop} (hd : decode M.2.1 pc = .ok (.invokespecial index, 3)) (hci : CIN M.1.cls index M1 n) (hC : Ct l M1 mc ms (.ref b :: As) g nx post) (hn : As.length = n) (hst : (rest.map fun v => v.category).sum ≤ 8) (hroom : M1.2.2.2.2.1 + 1 ≤ M.2.2.2.2.1 ∧ 8 + (M1.2.2.1 + 11) + M1.2.2.2.2.2 ≤ M.2.2.2.2.2) (hf : cells + mc ≤ tc ∧ slots + ms ≤ ts)
    (k : ∀ (r : Option Value) (g' : Gh) (nx' : Nat), post r g' nx' → zJ E g' nx' (cells + mc) (slots + ms) (pc + 3) lv (r.toList ++ rest)) {st0 : List Value} (hs0 : st0 = As.reverse ++ .ref b :: rest) : zJ E g nx cells slots pc lv st0 := by
  obtain ⟨⟨p, l', e, R, s, m, args, below, meth, c, Q⟩, D, τ, base⟩ := E
  obtain ⟨rfl, hx, hb, hml, hown, hts, hK, hN, hAO, hr, hlk, hnm, hRf, hRl, hRc, hRs, hbs⟩ := hE
  intro H locs ls hP hS hl
  obtain ⟨⟨host, hlink⟩, ⟨hcode, hini, hy1, hy2, hpn⟩, hinst, hin, hret⟩ := hci
  have hG := Tw_goodIn hcode
  have hR2 : M1.2.2.2.2.1 + 1 ≤ R.frames ∧ 8 + (M1.2.2.1 + 11) + M1.2.2.2.2.2 ≤ R.locals := by rw [hRf, hRl]; exact hroom
  have hf2 : cells + mc ≤ R.cells ∧ slots + ms ≤ R.slots := by rw [hRc, hRs]; exact hf
  subst hs0
  refine z_after hbs (va_runIN (As := As) ⟨hx, hb, hml, hown, hts⟩ (hC D τ base) ⟨va_cnB n hts hG (by rw [← hret]) rfl rfl (hN _ hlink) (hts _ hini) ⟨hy1, hy2, hpn⟩ hR2, hin, hts _ hinst⟩ ⟨fun aa U gg mk q => ⟨q.1, gI_blind (U := U) (V := U.calling gg mk aa) rfl rfl q.2⟩, fun U hU hW => ⟨rfl, by rw [hU]; exact hP, va_K.moved hW.alike hK, Nw_warm hW hN, fun C hC => va_AO.moved hW.alike (hAO C hC)⟩⟩ rfl hn (hl.1.trans hml) rfl (lv_room hst) hd hf2) hS hl (fun r g' nx' hp => k r g' nx' hp)
theorem z_sub {lv' : List (Nat × Value)} {st : List Value} (h : lv'.map (fun q => lG lv q.1) = lv'.map (fun q => some q.2)) (k : zJ E g nx cells slots pc lv' st) : zJ E g nx cells slots pc lv st := by
  obtain ⟨⟨p, l', e, R, s, m, args, below, meth, c, Q⟩, D, τ, base⟩ := E
  intro H locs ls hP hS hl
  refine k H locs ls hP hS ⟨hl.1, hl.2.1, fun q hq => ?_⟩
  have h2 : lG lv q.1 = some q.2 := by
    obtain ⟨i, hi⟩ := List.getElem?_of_mem hq
    have h3 := congrArg (fun z => z[i]?) h
    simp only [List.getElem?_map, hi, Option.map_some] at h3
    exact Option.some.inj h3
  exact lG_has hl h2
theorem z_g {g' : Gh} {st : List Value} (h : g = g') (k : zJ E g' nx cells slots pc lv st) : zJ E g nx cells slots pc lv st := h ▸ k
theorem z_widen {c2 s2 : Nat} {st : List Value} (h1 : cells ≤ c2) (h2 : slots ≤ s2) (k : zJ E g nx c2 s2 pc lv st) : zJ E g nx cells slots pc lv st := by
  obtain ⟨⟨p, l', e, R, s, m, args, below, meth, c, Q⟩, D, τ, base⟩ := E
  intro H locs ls hP hS hl
  exact W.widen h1 h2 (k H locs ls hP hS hl)
theorem z_iret (hE : zOk E l M tc ts) {post : Option Value → Gh → Nat → Prop} (hQ : zRt E tc ts post) {v : Int32} (hd : decode M.2.1 pc = .ok (.ireturn, 1)) (hret : M.2.2.2.1 = some .int) (hc : cells ≤ tc) (hs : slots ≤ ts) (hp : post (some (.int v)) g nx) : zJ E g nx cells slots pc lv [.int v] := by
  obtain ⟨⟨p, l', e, R, s, m, args, below, meth, c, Q⟩, D, τ, base⟩ := E
  obtain ⟨rfl, hx, hb, hml, hown, hts, hK, hN, hAO, hr, hlk, hnm, hRf, hRl, hRc, hRs, hbs⟩ := hE
  intro H locs ls hP hS hl
  have hQ2 : Q = MQ below (zQ D τ base post) args s tc ts (fun q => base ≤ q) := hQ
  subst hQ2
  refine W.widen hc hs ?_
  exact W.iret hx hb (hr.trans hret) (fun t ht hW => ⟨_, g, nx, rfl, hp, by rw [ht]; exact hP, by rw [ht]; exact hS.1, fun q hq => by rw [ht]; exact hS.2.1 q (by omega) (by omega)⟩) hS.2.2 hd
theorem z_lret (hE : zOk E l M tc ts) {post : Option Value → Gh → Nat → Prop} (hQ : zRt E tc ts post) {v : Int64} (hd : decode M.2.1 pc = .ok (.lreturn, 1)) (hret : M.2.2.2.1 = some .long) (hc : cells ≤ tc) (hs : slots ≤ ts) (hp : post (some (.long v)) g nx) : zJ E g nx cells slots pc lv [.long v] := by
  obtain ⟨⟨p, l', e, R, s, m, args, below, meth, c, Q⟩, D, τ, base⟩ := E
  obtain ⟨rfl, hx, hb, hml, hown, hts, hK, hN, hAO, hr, hlk, hnm, hRf, hRl, hRc, hRs, hbs⟩ := hE
  intro H locs ls hP hS hl
  have hQ2 : Q = MQ below (zQ D τ base post) args s tc ts (fun q => base ≤ q) := hQ
  subst hQ2
  refine W.widen hc hs ?_
  exact W.lret hx hb (hr.trans hret) (fun t ht hW => ⟨_, g, nx, rfl, hp, by rw [ht]; exact hP, by rw [ht]; exact hS.1, fun q hq => by rw [ht]; exact hS.2.1 q (by omega) (by omega)⟩) hS.2.2 hd
theorem z_mmax (hE : zOk E l M tc ts) {index : Nat} {x y v : Int32} (hd : decode M.2.1 pc = .ok (.invokestatic index, 3)) (hcs : CS M.1.cls index m_Jm_max 2) (hroom : 1 ≤ M.2.2.2.2.1) (hlo : (rest.map fun v => v.category).sum + 13 ≤ M.2.2.2.2.2) (hc : cells ≤ tc) (hs : slots ≤ ts) (hv : (if x < y then y else x) = v) (k : zJ E g nx cells slots (pc + 3) lv (.int v :: rest)) : zJ E g nx cells slots pc lv (.int y :: .int x :: rest) := by
  obtain ⟨⟨p, l', e, R, s, m, args, below, meth, c, Q⟩, D, τ, base⟩ := E
  obtain ⟨rfl, hx, hb, hml, hown, hts, hK, hN, hAO, hr, hlk, hnm, hRf, hRl, hRc, hRs, hbs⟩ := hE
  intro H locs ls hP hS hl
  obtain ⟨⟨hlink, hcode, hini, hy1, hy2, hpn⟩, hstat⟩ := hcs
  subst hv
  exact va_mmax hx hb hl.1.symm hown (hts _ hlink) (hts _ hstat) (hts _ hini) (hts _ hcode) (by rw [hRf]; exact hroom) (by rw [hRl]; exact hlo) (by rw [hRc]; exact hc) (by rw [hRs]; exact hs) hd (k H locs ls hP hS hl)
theorem z_mmin (hE : zOk E l M tc ts) {index : Nat} {x y v : Int32} (hd : decode M.2.1 pc = .ok (.invokestatic index, 3)) (hcs : CS M.1.cls index m_Jm_min 2) (hroom : 1 ≤ M.2.2.2.2.1) (hlo : (rest.map fun v => v.category).sum + 13 ≤ M.2.2.2.2.2) (hc : cells ≤ tc) (hs : slots ≤ ts) (hv : (if y < x then y else x) = v) (k : zJ E g nx cells slots (pc + 3) lv (.int v :: rest)) : zJ E g nx cells slots pc lv (.int y :: .int x :: rest) := by
  obtain ⟨⟨p, l', e, R, s, m, args, below, meth, c, Q⟩, D, τ, base⟩ := E
  obtain ⟨rfl, hx, hb, hml, hown, hts, hK, hN, hAO, hr, hlk, hnm, hRf, hRl, hRc, hRs, hbs⟩ := hE
  intro H locs ls hP hS hl
  obtain ⟨⟨hlink, hcode, hini, hy1, hy2, hpn⟩, hstat⟩ := hcs
  subst hv
  exact va_mmin hx hb hl.1.symm hown (hts _ hlink) (hts _ hstat) (hts _ hini) (hts _ hcode) (by rw [hRf]; exact hroom) (by rw [hRl]; exact hlo) (by rw [hRc]; exact hc) (by rw [hRs]; exact hs) hd (k H locs ls hP hS hl)
theorem z_zret (hE : zOk E l M tc ts) {post : Option Value → Gh → Nat → Prop} (hQ : zRt E tc ts post) {v : Int32} (hd : decode M.2.1 pc = .ok (.ireturn, 1)) (hret : M.2.2.2.1 = some .boolean) (hc : cells ≤ tc) (hs : slots ≤ ts) (hv : v = 0 ∨ v = 1) (hp : post (some (.int v)) g nx) : zJ E g nx cells slots pc lv [.int v] := by
  obtain ⟨⟨p, l', e, R, s, m, args, below, meth, c, Q⟩, D, τ, base⟩ := E
  obtain ⟨rfl, hx, hb, hml, hown, hts, hK, hN, hAO, hr, hlk, hnm, hRf, hRl, hRc, hRs, hbs⟩ := hE
  intro H locs ls hP hS hl
  have hQ2 : Q = MQ below (zQ D τ base post) args s tc ts (fun q => base ≤ q) := hQ
  subst hQ2
  refine W.widen hc hs ?_
  exact W.zret hx hb (hr.trans hret) (by rcases hv with rfl | rfl <;> rfl) (fun t ht hW => ⟨_, g, nx, rfl, hp, by rw [ht]; exact hP, by rw [ht]; exact hS.1, fun q hq => by rw [ht]; exact hS.2.1 q (by omega) (by omega)⟩) hS.2.2 hd
theorem z_vret (hE : zOk E l M tc ts) {post : Option Value → Gh → Nat → Prop} (hQ : zRt E tc ts post) (hd : decode M.2.1 pc = .ok (.return_, 1)) (hret : M.2.2.2.1 = none) (hc : cells ≤ tc) (hs : slots ≤ ts) (hp : post none g nx) : zJ E g nx cells slots pc lv [] := by
  obtain ⟨⟨p, l', e, R, s, m, args, below, meth, c, Q⟩, D, τ, base⟩ := E
  obtain ⟨rfl, hx, hb, hml, hown, hts, hK, hN, hAO, hr, hlk, hnm, hRf, hRl, hRc, hRs, hbs⟩ := hE
  intro H locs ls hP hS hl
  have hQ2 : Q = MQ below (zQ D τ base post) args s tc ts (fun q => base ≤ q) := hQ
  subst hQ2
  refine W.widen hc hs ?_
  exact W.vret hx hb (hr.trans hret) (fun t ht hW => ⟨_, g, nx, rfl, hp, by rw [ht]; exact hP, by rw [ht]; exact hS.1, fun q hq => by rw [ht]; exact hS.2.1 q (by omega) (by omega)⟩) hS.2.2 hd
theorem z_aret (hE : zOk E l M tc ts) {post : Option Value → Gh → Nat → Prop} (hQ : zRt E tc ts post) {r : Option Nat} {rt : FieldType} (hd : decode M.2.1 pc = .ok (.areturn, 1)) (hret : M.2.2.2.1 = some rt) (hrt : (∃ n, rt = .object n) ∨ ∃ t, rt = .array t) (hc : cells ≤ tc) (hs : slots ≤ ts) (hp : post (some (va_rf r)) g nx) : zJ E g nx cells slots pc lv [va_rf r] := by
  obtain ⟨⟨p, l', e, R, s, m, args, below, meth, c, Q⟩, D, τ, base⟩ := E
  obtain ⟨rfl, hx, hb, hml, hown, hts, hK, hN, hAO, hr, hlk, hnm, hRf, hRl, hRc, hRs, hbs⟩ := hE
  intro H locs ls hP hS hl
  have hQ2 : Q = MQ below (zQ D τ base post) args s tc ts (fun q => base ≤ q) := hQ
  subst hQ2
  refine W.widen hc hs ?_
  exact W.aret hx hb (hr.trans hret) hrt (by cases r; exact Or.inl rfl; exact Or.inr ⟨_, rfl⟩) (fun t ht hW => ⟨_, g, nx, rfl, hp, by rw [ht]; exact hP, by rw [ht]; exact hS.1, fun q hq => by rw [ht]; exact hS.2.1 q (by omega) (by omega)⟩) hS.2.2 hd
end ZL
theorem Ct.of {l : Launch} {M : mI} {mc ms : Nat} {av : List Value} {g : Gh} {nx : Nat} {post : Option Value → Gh → Nat → Prop} (hy : plainName M.1.cls = true) (hlen : (lg_sl av).length ≤ M.2.2.1)
    (body : ∀ E : zE, zOk E l M mc ms → zRt E mc ms post → zJ E g nx 0 0 0 (lv_args 0 av) []) : Ct l M mc ms av g nx post := by
  intro D τ base
  refine Met.ofW (cc := M.2.1) (maxL := M.2.2.1) (ret := M.2.2.2.1) hy rfl ?_
  intro p e s m args below meth c s₁ B hml hv
  obtain ⟨rfl, hP, hK, hN, hAO⟩ := hv
  have hts := atoms_spec (ws := mW M) B.pre
  have hown : s.vm.findClass M.1.cls = some m.cls := findClass_of_methodNamed B.named
  have hl := lv_entry av (n := M.2.2.1) hlen
  rw [lg_entry_eq]
  have hb : base ≤ s.heap.size := by rw [hP.1]; exact hP.2.1
  exact body ((p, l, e, (headSpec (mW M) (mR M mc ms)).room, s, m, av.toArray, below, meth, c, MQ below (zQ D τ base post) av.toArray s mc ms (fun q => base ≤ q)), D, τ, base) ⟨rfl, B.exec, B.bytes, hml, hown, fun w hw => hts w (List.mem_cons_of_mem _ hw), hK, hN, hAO, B.returns, B.notSynchronized, fun h => (name_of_methodNamed B.named B.method).1.trans h, rfl, rfl, rfl, rfl, hb⟩ rfl s.heap [] _ hP va_S.rf (by rw [hml]; exact hl)
