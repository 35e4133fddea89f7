abbrev mI : Type := MethodName × ByteArray × Nat × Option FieldType × Nat × Nat
abbrev gE : Type := (Nat × vp_A) ⊕ (Nat × List Value)
abbrev Gh : Type := Nat → Option gE
def gTr (τ : Nat → ClassId) (e : gE) : va_E := match e with
  | .inl a => .inl (τ a.1, a.2)
  | .inr o => .inr o
def gS (g : Gh) (a : Nat) (e : gE) : Gh := fun q => if q = a then some e else g q
theorem gS_s {g : Gh} {a : Nat} {e : gE} : gS g a e a = some e := by simp [gS]
theorem gS_n {g : Gh} {a b : Nat} {e : gE} (h : b ≠ a) : gS g a e b = g b := by simp [gS, h]
def gP (D : va_G) (τ : Nat → ClassId) (base : Nat) (g : Gh) (nx : Nat) (H : Heap) : Prop := H.size = nx ∧ base ≤ nx ∧ ∀ (a : Nat) (e : gE), g a = some e → base ≤ a ∧ va_at D classes (a, gTr τ e) H
def gAO : List String := ["OddsFractions$Fraction", "OddsFractions$Row"]
def gI (D : va_G) (τ : Nat → ClassId) (base : Nat) (g : Gh) (nx : Nat) (U : State) : Prop := gP D τ base g nx U.heap ∧ va_K D classes (gTy τ) U ∧ (∀ w ∈ Nw, va_Nw w U) ∧ ∀ C ∈ gAO, va_AO C U
def zQ (D : va_G) (τ : Nat → ClassId) (base : Nat) (post : Option Value → Gh → Nat → Prop) : Array Value → State → Outcome → State → Prop := fun _ st oc t => ∃ (r : Option Value) (g' : Gh) (nx' : Nat), oc = .returned r ∧ post r g' nx' ∧ gP D τ base g' nx' t.heap ∧ st.heap.size ≤ t.heap.size ∧ ∀ q : Nat, q < base → t.heap[q]? = st.heap[q]?
abbrev mW (M : mI) : List Cond := .code M.1 M.2.1 M.2.2.1 M.2.2.2.1 :: Tw
abbrev mR (M : mI) (mc ms : Nat) : Room := { frames := M.2.2.2.2.1, cells := mc, slots := ms, locals := M.2.2.2.2.2 }
/-- a method's contract: from the heap g with nx cells, at these arguments, it returns, and the post holds of answer and heap -/
def Ct (l : Launch) (M : mI) (mc ms : Nat) (av : List Value) (g : Gh) (nx : Nat) (post : Option Value → Gh → Nat → Prop) : Prop :=
  ∀ (D : va_G) (τ : Nat → ClassId) (base : Nat), Met l M.1 (mW M) (mR M mc ms) (va_Pc av (gI D τ base g nx)) (zQ D τ base post) mc ms (fun q => base ≤ q)
abbrev zE : Type := (Program × Launch × Env × Room × State × MethodId × Array Value × List Frame × Method × Code × (State → Prop)) × va_G × (Nat → ClassId) × Nat
def zJ (E : zE) (g : Gh) (nx cells slots pc : Nat) (lv : List (Nat × Value)) (st : List Value) : Prop := match E with
  | ((p, l, e, R, s, m, args, below, meth, c, Q), D, τ, base) => ∀ (H : Heap) (locs : List Loc) (ls : Array Slot), gP D τ base g nx H → va_S (fun q => base ≤ q) s.heap H locs → lv_has ls c.maxLocals lv → W p l e R s m args below meth c H locs cells slots Q (F0 m pc ls st)
def zOk (E : zE) (l0 : Launch) (M : mI) (tc ts : Nat) : Prop := match E with
  | ((p, l, _, R, s, m, args, _, meth, c, _), D, τ, base) => l = l0 ∧ p.tables.exec = Jvm.exec ∧ c.code = M.2.1 ∧ c.maxLocals = M.2.2.1 ∧ s.vm.findClass M.1.cls = some m.cls ∧ (∀ w ∈ Tw, w.before args s = true) ∧ va_K D classes (gTy τ) s ∧ (∀ w ∈ Nw, va_Nw w s) ∧ (∀ C ∈ gAO, va_AO C s) ∧ meth.sig.returnType = M.2.2.2.1 ∧ meth.locks = false ∧ (M.1.name = "<init>" → meth.name = "<init>") ∧ R.frames = M.2.2.2.2.1 ∧ R.locals = M.2.2.2.2.2 ∧ R.cells = tc ∧ R.slots = ts ∧ base ≤ s.heap.size
def zRt (E : zE) (tc ts : Nat) (post : Option Value → Gh → Nat → Prop) : Prop := match E with
  | ((_, _, _, _, s, _, args, below, _, _, Q), D, τ, base) => Q = MQ below (zQ D τ base post) args s tc ts (fun q => base ≤ q)
theorem Nw_warm {s U : State} (hW : s.WarmedH U.vm) (h : ∀ w ∈ Nw, va_Nw w s) : ∀ w ∈ Nw, va_Nw w U := by
  intro w hw
  have h1 : isNestW w = true := (List.mem_filter.mp hw).2
  have h2 := h w hw
  cases w <;> simp [isNestW] at h1
  · exact va_Nw.warmM hW h2
  · exact va_Nw.warmF hW h2
theorem Nw_tab {w : Cond} (h : w ∈ Nw) : w.onTables = true := by
  have h1 : isNestW w = true := (List.mem_filter.mp h).2
  cases w <;> simp [isNestW] at h1 <;> rfl
theorem gI_blind {D : va_G} {τ : Nat → ClassId} {base : Nat} {g : Gh} {nx : Nat} {U V : State} (hh : V.heap = U.heap) (hv : U.vm = V.vm) (h : gI D τ base g nx U) : gI D τ base g nx V :=
  ⟨by rw [hh]; exact h.1, va_K.moved (by rw [hv]; exact Vm.Alike.refl _) h.2.1, fun w hw => va_Nw.same (Nw_tab hw) hv (h.2.2.1 w hw), fun C hC => va_AO.moved (by rw [hv]; exact Vm.Alike.refl _) (h.2.2.2 C hC)⟩
theorem Tw_good : ∀ w ∈ Tw, (w.onTables && w.keeps) = true ∨ ∃ ty, w = .arrayClass ty := fun _ h => good_of_word (List.mem_filter.mp h).2
theorem Tw_goodIn {M : mI} (hc : Cond.code M.1 M.2.1 M.2.2.1 M.2.2.2.1 ∈ Tw) : GoodIn Tw (mW M) := fun w h => by
  rcases List.mem_cons.mp h with rfl | h
  · exact ⟨hc, Tw_good _ hc⟩
  · exact ⟨h, Tw_good _ h⟩
theorem gP_lt {D : va_G} {τ : Nat → ClassId} {base : Nat} {g : Gh} {nx : Nat} {H : Heap} (h : gP D τ base g nx H) {a : Nat} {e : gE} (ha : g a = some e) : a < nx := by
  rw [← h.1]; exact (h.2.2 a e ha).2.lt
theorem gP_set {D : va_G} {τ : Nat → ClassId} {base : Nat} {g : Gh} {nx : Nat} {H H1 : Heap} {a : Nat} {e0 e : gE} (h : gP D τ base g nx H) (ha : g a = some e0) (he : va_at D classes (a, gTr τ e) H1) (z : H1.size = H.size) (oq : ∀ q : Nat, q ≠ a → H1[q]? = H[q]?) : gP D τ base (gS g a e) nx H1 := by
  refine ⟨z.trans h.1, h.2.1, fun b x hb => ?_⟩
  by_cases hq : b = a
  · subst hq
    rw [gS_s] at hb
    cases hb
    exact ⟨(h.2.2 _ _ ha).1, he⟩
  · rw [gS_n hq] at hb
    exact ⟨(h.2.2 b x hb).1, (h.2.2 b x hb).2.kept (oq b hq)⟩
theorem gP_new {D : va_G} {τ : Nat → ClassId} {base : Nat} {g : Gh} {nx : Nat} {H H1 : Heap} {e : gE} (h : gP D τ base g nx H) (he : va_at D classes (nx, gTr τ e) H1) (z : H1.size = nx + 1) (oq : ∀ q : Nat, q < nx → H1[q]? = H[q]?) : gP D τ base (gS g nx e) (nx + 1) H1 := by
  refine ⟨z, Nat.le_succ_of_le h.2.1, fun b x hb => ?_⟩
  by_cases hq : b = nx
  · subst hq
    rw [gS_s] at hb
    cases hb
    exact ⟨h.2.1, he⟩
  · rw [gS_n hq] at hb
    exact ⟨(h.2.2 b x hb).1, (h.2.2 b x hb).2.kept (oq b (gP_lt h hb))⟩
/-- lookup in the locals -/
def lG (l : List (Nat × Value)) (i : Nat) : Option Value := match l with
  | [] => none
  | q :: r => match Nat.beq q.1 i with
    | true => some q.2
    | false => lG r i
theorem lG_mem {l : List (Nat × Value)} {i : Nat} {v : Value} (h : lG l i = some v) : (i, v) ∈ l := by
  induction l with
  | nil => simp [lG] at h
  | cons q r ih =>
    obtain ⟨a, b⟩ := q
    unfold lG at h
    cases hb : Nat.beq a i with
    | true =>
      have : a = i := Nat.eq_of_beq_eq_true hb
      simp only [hb] at h
      cases h
      rw [this]
      exact List.mem_cons_self
    | false =>
      simp only [hb] at h
      exact List.mem_cons_of_mem _ (ih h)
theorem lG_has {ls : Array Slot} {n : Nat} {l : List (Nat × Value)} {i : Nat} {v : Value} (h : lv_has ls n l) (hi : lG l i = some v) : ls[i]? = some (.val v) := h.2.2 _ (lG_mem hi)
abbrev lS1 (l : List (Nat × Value)) (i : Nat) (v : Value) : List (Nat × Value) := (i, v) :: l.filter (fun q => !(q.1 == i) && !(q.1 + 1 == i && q.2.category == 2))
abbrev lS2 (l : List (Nat × Value)) (i : Nat) (v : Value) : List (Nat × Value) := (i, v) :: l.filter (fun q => !(q.1 == i) && (!(q.1 == i + 1) && !(q.1 + 1 == i && q.2.category == 2)))
def FL (own : String) (index ci k : Nat) : Prop := ∃ (C : String) (T : u_T) (N : Nat), classes[ci]? = some (C, T, N) ∧ (∀ w ∈ u_ws C T N, w ∈ Tw) ∧ k < N ∧ Cond.fieldLink own index (T k).1 (T k).2.1 (T k).2.2.1 ∈ Tw
def FN (own : String) (index ci k : Nat) : Prop := ∃ (C : String) (T : u_T) (N : Nat) (host : String), classes[ci]? = some (C, T, N) ∧ (∀ w ∈ u_ws C T N, w ∈ Tw) ∧ k < N ∧ Cond.fieldLinkNest own index (T k).1 (T k).2.1 (T k).2.2.1 host ∈ Nw
/-- a class's table is fit for stores -/
def CT (ci : Nat) (ty : Nat → FieldType) : Prop := ∃ (C : String) (T : u_T) (N : Nat), classes[ci]? = some (C, T, N) ∧ (∀ w ∈ u_ws C T N, w ∈ Tw) ∧ (∀ k, k < N → parseFieldDescriptor (T k).2.2.1 = some (ty k)) ∧ (∀ a, a < N → ∀ b, b < N → a ≠ b → (T a).2.1 ≠ (T b).2.1)
def FF (ci k : Nat) (fin : Bool) : Prop := ∃ (C : String) (T : u_T) (N : Nat), classes[ci]? = some (C, T, N) ∧ (T k).2.2.2 = fin ∧ (T k).1 = C
def CV (own : String) (index : Nat) (M : mI) (n : Nat) : Prop := (Cond.methodLink own index M.1 ∈ Tw ∧ Cond.code M.1 M.2.1 M.2.2.1 M.2.2.2.1 ∈ Tw ∧ Cond.initialized M.1.cls ∈ Tw ∧ M.1.cls ≠ "java/lang/invoke/MethodHandle" ∧ M.1.cls ≠ "java/lang/invoke/VarHandle" ∧ (parseMethodDescriptor M.1.desc).map (fun d => d.parameters.length) = some n) ∧ Cond.instanceMethod M.1 ∈ Tw ∧ Cond.selects M.1.cls M.1 M.1 ∈ Tw
def CS (own : String) (index : Nat) (M : mI) (n : Nat) : Prop := (Cond.methodLink own index M.1 ∈ Tw ∧ Cond.code M.1 M.2.1 M.2.2.1 M.2.2.2.1 ∈ Tw ∧ Cond.initialized M.1.cls ∈ Tw ∧ M.1.cls ≠ "java/lang/invoke/MethodHandle" ∧ M.1.cls ≠ "java/lang/invoke/VarHandle" ∧ (parseMethodDescriptor M.1.desc).map (fun d => d.parameters.length) = some n) ∧ Cond.static M.1 ∈ Tw
def CI (own : String) (index : Nat) (M : mI) (n : Nat) : Prop := (Cond.methodLink own index M.1 ∈ Tw ∧ Cond.code M.1 M.2.1 M.2.2.1 M.2.2.2.1 ∈ Tw ∧ Cond.initialized M.1.cls ∈ Tw ∧ M.1.cls ≠ "java/lang/invoke/MethodHandle" ∧ M.1.cls ≠ "java/lang/invoke/VarHandle" ∧ (parseMethodDescriptor M.1.desc).map (fun d => d.parameters.length) = some n) ∧ Cond.instanceMethod M.1 ∈ Tw ∧ M.1.name = "<init>" ∧ M.2.2.2.1 = none
def CIN (own : String) (index : Nat) (M : mI) (n : Nat) : Prop := (∃ host : String, Cond.methodLinkNest own index M.1 host ∈ Nw) ∧ (Cond.code M.1 M.2.1 M.2.2.1 M.2.2.2.1 ∈ Tw ∧ Cond.initialized M.1.cls ∈ Tw ∧ M.1.cls ≠ "java/lang/invoke/MethodHandle" ∧ M.1.cls ≠ "java/lang/invoke/VarHandle" ∧ (parseMethodDescriptor M.1.desc).map (fun d => d.parameters.length) = some n) ∧ Cond.instanceMethod M.1 ∈ Tw ∧ M.1.name = "<init>" ∧ M.2.2.2.1 = none
def CVN (own : String) (index : Nat) (M : mI) (n : Nat) : Prop := (∃ host : String, Cond.methodLinkNest own index M.1 host ∈ Nw) ∧ (Cond.code M.1 M.2.1 M.2.2.1 M.2.2.2.1 ∈ Tw ∧ Cond.initialized M.1.cls ∈ Tw ∧ M.1.cls ≠ "java/lang/invoke/MethodHandle" ∧ M.1.cls ≠ "java/lang/invoke/VarHandle" ∧ (parseMethodDescriptor M.1.desc).map (fun d => d.parameters.length) = some n) ∧ Cond.instanceMethod M.1 ∈ Tw ∧ Cond.selects M.1.cls M.1 M.1 ∈ Tw
section ZK
variable {E : zE} {l : Launch} {M : mI} {tc ts : Nat} {g : Gh} {nx cells slots pc : Nat} {lv : List (Nat × Value)} {rest : List Value}
theorem z_iconst (hE : zOk E l M tc ts) {n : Int} {v : Int32} (hd : decode M.2.1 pc = .ok (.iconst n, 1)) (hv : Int32.ofInt n = v) (k : zJ E g nx cells slots (pc + 1) lv (.int v :: rest)) : zJ E g nx cells slots pc lv rest := by
  obtain ⟨⟨p, l', e, R, s, m, args, below, meth, c, Q⟩, D, τ, base⟩ := E
  obtain ⟨rfl, hx, hb, hml, hown, hts, hK, hN, hAO, hr, hlk, hnm, hRf, hRl, hRc, hRs, hbs⟩ := hE
  intro H locs ls hP hS hl
  exact lv_iconst hx hb hd hv (k H locs ls hP hS hl)
theorem z_bipush (hE : zOk E l M tc ts) {n : Int} {v : Int32} (hd : decode M.2.1 pc = .ok (.bipush n, 2)) (hv : (Int8.ofInt n).toInt32 = v) (k : zJ E g nx cells slots (pc + 2) lv (.int v :: rest)) : zJ E g nx cells slots pc lv rest := by
  obtain ⟨⟨p, l', e, R, s, m, args, below, meth, c, Q⟩, D, τ, base⟩ := E
  obtain ⟨rfl, hx, hb, hml, hown, hts, hK, hN, hAO, hr, hlk, hnm, hRf, hRl, hRc, hRs, hbs⟩ := hE
  intro H locs ls hP hS hl
  exact lv_bipush hx hb hd hv (k H locs ls hP hS hl)
theorem z_sipush (hE : zOk E l M tc ts) {n : Int} {v : Int32} (hd : decode M.2.1 pc = .ok (.sipush n, 3)) (hv : (Int16.ofInt n).toInt32 = v) (k : zJ E g nx cells slots (pc + 3) lv (.int v :: rest)) : zJ E g nx cells slots pc lv rest := by
  obtain ⟨⟨p, l', e, R, s, m, args, below, meth, c, Q⟩, D, τ, base⟩ := E
  obtain ⟨rfl, hx, hb, hml, hown, hts, hK, hN, hAO, hr, hlk, hnm, hRf, hRl, hRc, hRs, hbs⟩ := hE
  intro H locs ls hP hS hl
  exact lv_sipush hx hb hd hv (k H locs ls hP hS hl)
theorem z_lconst (hE : zOk E l M tc ts) {n : Fin 2} {v : Int64} (hd : decode M.2.1 pc = .ok (.lconst n, 1)) (hv : Int64.ofNat (n : Nat) = v) (k : zJ E g nx cells slots (pc + 1) lv (.long v :: rest)) : zJ E g nx cells slots pc lv rest := by
  obtain ⟨⟨p, l', e, R, s, m, args, below, meth, c, Q⟩, D, τ, base⟩ := E
  obtain ⟨rfl, hx, hb, hml, hown, hts, hK, hN, hAO, hr, hlk, hnm, hRf, hRl, hRc, hRs, hbs⟩ := hE
  intro H locs ls hP hS hl
  exact lv_lconst hx hb hd hv (k H locs ls hP hS hl)
theorem z_null (hE : zOk E l M tc ts) (hd : decode M.2.1 pc = .ok (.aconst_null, 1)) (k : zJ E g nx cells slots (pc + 1) lv (.null :: rest)) : zJ E g nx cells slots pc lv rest := by
  obtain ⟨⟨p, l', e, R, s, m, args, below, meth, c, Q⟩, D, τ, base⟩ := E
  obtain ⟨rfl, hx, hb, hml, hown, hts, hK, hN, hAO, hr, hlk, hnm, hRf, hRl, hRc, hRs, hbs⟩ := hE
  intro H locs ls hP hS hl
  exact lv_null hx hb hd (k H locs ls hP hS hl)
theorem z_iload_n (hE : zOk E l M tc ts) {j : Fin 4} {x : Int32} (hd : decode M.2.1 pc = .ok (.iload_n j, 1)) (hl0 : lG lv (j : Nat) = some (.int x)) (k : zJ E g nx cells slots (pc + 1) lv (.int x :: rest)) : zJ E g nx cells slots pc lv rest := by
  obtain ⟨⟨p, l', e, R, s, m, args, below, meth, c, Q⟩, D, τ, base⟩ := E
  obtain ⟨rfl, hx, hb, hml, hown, hts, hK, hN, hAO, hr, hlk, hnm, hRf, hRl, hRc, hRs, hbs⟩ := hE
  intro H locs ls hP hS hl
  exact lv_iload_n hx hb hd rfl (lG_has hl hl0) (k H locs ls hP hS hl)
theorem z_iload (hE : zOk E l M tc ts) {i : Nat} {x : Int32} (hd : decode M.2.1 pc = .ok (.iload i, 2)) (hl0 : lG lv i = some (.int x)) (k : zJ E g nx cells slots (pc + 2) lv (.int x :: rest)) : zJ E g nx cells slots pc lv rest := by
  obtain ⟨⟨p, l', e, R, s, m, args, below, meth, c, Q⟩, D, τ, base⟩ := E
  obtain ⟨rfl, hx, hb, hml, hown, hts, hK, hN, hAO, hr, hlk, hnm, hRf, hRl, hRc, hRs, hbs⟩ := hE
  intro H locs ls hP hS hl
  exact lv_iload hx hb hd (lG_has hl hl0) (k H locs ls hP hS hl)
theorem z_lload_n (hE : zOk E l M tc ts) {j : Fin 4} {x : Int64} (hd : decode M.2.1 pc = .ok (.lload_n j, 1)) (hl0 : lG lv (j : Nat) = some (.long x)) (k : zJ E g nx cells slots (pc + 1) lv (.long x :: rest)) : zJ E g nx cells slots pc lv rest := by
  obtain ⟨⟨p, l', e, R, s, m, args, below, meth, c, Q⟩, D, τ, base⟩ := E
  obtain ⟨rfl, hx, hb, hml, hown, hts, hK, hN, hAO, hr, hlk, hnm, hRf, hRl, hRc, hRs, hbs⟩ := hE
  intro H locs ls hP hS hl
  exact lv_lload_n hx hb hd rfl (lG_has hl hl0) (k H locs ls hP hS hl)
theorem z_lload (hE : zOk E l M tc ts) {i : Nat} {x : Int64} (hd : decode M.2.1 pc = .ok (.lload i, 2)) (hl0 : lG lv i = some (.long x)) (k : zJ E g nx cells slots (pc + 2) lv (.long x :: rest)) : zJ E g nx cells slots pc lv rest := by
  obtain ⟨⟨p, l', e, R, s, m, args, below, meth, c, Q⟩, D, τ, base⟩ := E
  obtain ⟨rfl, hx, hb, hml, hown, hts, hK, hN, hAO, hr, hlk, hnm, hRf, hRl, hRc, hRs, hbs⟩ := hE
  intro H locs ls hP hS hl
  exact lv_lload hx hb hd (lG_has hl hl0) (k H locs ls hP hS hl)
theorem z_aload_n (hE : zOk E l M tc ts) {j : Fin 4} {x : Nat} (hd : decode M.2.1 pc = .ok (.aload_n j, 1)) (hl0 : lG lv (j : Nat) = some (.ref x)) (k : zJ E g nx cells slots (pc + 1) lv (.ref x :: rest)) : zJ E g nx cells slots pc lv rest := by
  obtain ⟨⟨p, l', e, R, s, m, args, below, meth, c, Q⟩, D, τ, base⟩ := E
  obtain ⟨rfl, hx, hb, hml, hown, hts, hK, hN, hAO, hr, hlk, hnm, hRf, hRl, hRc, hRs, hbs⟩ := hE
  intro H locs ls hP hS hl
  exact lv_aload_n hx hb hd rfl (lG_has hl hl0) (k H locs ls hP hS hl)
theorem z_aload (hE : zOk E l M tc ts) {i : Nat} {x : Nat} (hd : decode M.2.1 pc = .ok (.aload i, 2)) (hl0 : lG lv i = some (.ref x)) (k : zJ E g nx cells slots (pc + 2) lv (.ref x :: rest)) : zJ E g nx cells slots pc lv rest := by
  obtain ⟨⟨p, l', e, R, s, m, args, below, meth, c, Q⟩, D, τ, base⟩ := E
  obtain ⟨rfl, hx, hb, hml, hown, hts, hK, hN, hAO, hr, hlk, hnm, hRf, hRl, hRc, hRs, hbs⟩ := hE
  intro H locs ls hP hS hl
  exact lv_aload hx hb hd (lG_has hl hl0) (k H locs ls hP hS hl)
theorem z_aload_nN (hE : zOk E l M tc ts) {j : Fin 4} (hd : decode M.2.1 pc = .ok (.aload_n j, 1)) (hl0 : lG lv (j : Nat) = some .null) (k : zJ E g nx cells slots (pc + 1) lv (.null :: rest)) : zJ E g nx cells slots pc lv rest := by
  obtain ⟨⟨p, l', e, R, s, m, args, below, meth, c, Q⟩, D, τ, base⟩ := E
  obtain ⟨rfl, hx, hb, hml, hown, hts, hK, hN, hAO, hr, hlk, hnm, hRf, hRl, hRc, hRs, hbs⟩ := hE
  intro H locs ls hP hS hl
  exact lv_aload_nN hx hb hd rfl (lG_has hl hl0) (k H locs ls hP hS hl)
theorem z_aloadN (hE : zOk E l M tc ts) {i : Nat} (hd : decode M.2.1 pc = .ok (.aload i, 2)) (hl0 : lG lv i = some .null) (k : zJ E g nx cells slots (pc + 2) lv (.null :: rest)) : zJ E g nx cells slots pc lv rest := by
  obtain ⟨⟨p, l', e, R, s, m, args, below, meth, c, Q⟩, D, τ, base⟩ := E
  obtain ⟨rfl, hx, hb, hml, hown, hts, hK, hN, hAO, hr, hlk, hnm, hRf, hRl, hRc, hRs, hbs⟩ := hE
  intro H locs ls hP hS hl
  exact lv_aloadN hx hb hd (lG_has hl hl0) (k H locs ls hP hS hl)
theorem z_aload_nq (hE : zOk E l M tc ts) {j : Fin 4} {r : Option Nat} (hd : decode M.2.1 pc = .ok (.aload_n j, 1)) (hl0 : lG lv (j : Nat) = some (va_rf r)) (k : zJ E g nx cells slots (pc + 1) lv (va_rf r :: rest)) : zJ E g nx cells slots pc lv rest := by
  obtain ⟨⟨p, l', e, R, s, m, args, below, meth, c, Q⟩, D, τ, base⟩ := E
  obtain ⟨rfl, hx, hb, hml, hown, hts, hK, hN, hAO, hr, hlk, hnm, hRf, hRl, hRc, hRs, hbs⟩ := hE
  intro H locs ls hP hS hl
  cases r
  · exact lv_aload_nN hx hb hd rfl (lG_has hl hl0) (k H locs ls hP hS hl)
  · exact lv_aload_n hx hb hd rfl (lG_has hl hl0) (k H locs ls hP hS hl)
theorem z_aloadq (hE : zOk E l M tc ts) {i : Nat} {r : Option Nat} (hd : decode M.2.1 pc = .ok (.aload i, 2)) (hl0 : lG lv i = some (va_rf r)) (k : zJ E g nx cells slots (pc + 2) lv (va_rf r :: rest)) : zJ E g nx cells slots pc lv rest := by
  obtain ⟨⟨p, l', e, R, s, m, args, below, meth, c, Q⟩, D, τ, base⟩ := E
  obtain ⟨rfl, hx, hb, hml, hown, hts, hK, hN, hAO, hr, hlk, hnm, hRf, hRl, hRc, hRs, hbs⟩ := hE
  intro H locs ls hP hS hl
  cases r
  · exact lv_aloadN hx hb hd (lG_has hl hl0) (k H locs ls hP hS hl)
  · exact lv_aload hx hb hd (lG_has hl hl0) (k H locs ls hP hS hl)
theorem z_istore_n (hE : zOk E l M tc ts) {j : Fin 4} {i : Nat} {x : Int32} (hd : decode M.2.1 pc = .ok (.istore_n j, 1)) (hj : (j : Nat) = i) (hn : i < M.2.2.1) (k : zJ E g nx cells slots (pc + 1) (lS1 lv i (.int x)) rest) : zJ E g nx cells slots pc lv (.int x :: rest) := by
  obtain ⟨⟨p, l', e, R, s, m, args, below, meth, c, Q⟩, D, τ, base⟩ := E
  obtain ⟨rfl, hx, hb, hml, hown, hts, hK, hN, hAO, hr, hlk, hnm, hRf, hRl, hRc, hRs, hbs⟩ := hE
  intro H locs ls hP hS hl
  exact lv_istore_n hx hb hd hj hl (by rw [hml]; exact hn) rfl (fun ls hl => k H locs ls hP hS hl)
theorem z_istore (hE : zOk E l M tc ts) {i : Nat} {x : Int32} (hd : decode M.2.1 pc = .ok (.istore i, 2)) (hn : i < M.2.2.1) (k : zJ E g nx cells slots (pc + 2) (lS1 lv i (.int x)) rest) : zJ E g nx cells slots pc lv (.int x :: rest) := by
  obtain ⟨⟨p, l', e, R, s, m, args, below, meth, c, Q⟩, D, τ, base⟩ := E
  obtain ⟨rfl, hx, hb, hml, hown, hts, hK, hN, hAO, hr, hlk, hnm, hRf, hRl, hRc, hRs, hbs⟩ := hE
  intro H locs ls hP hS hl
  exact lv_istore hx hb hd hl (by rw [hml]; exact hn) rfl (fun ls hl => k H locs ls hP hS hl)
theorem z_lstore_n (hE : zOk E l M tc ts) {j : Fin 4} {i : Nat} {x : Int64} (hd : decode M.2.1 pc = .ok (.lstore_n j, 1)) (hj : (j : Nat) = i) (hn : i + 1 < M.2.2.1) (k : zJ E g nx cells slots (pc + 1) (lS2 lv i (.long x)) rest) : zJ E g nx cells slots pc lv (.long x :: rest) := by
  obtain ⟨⟨p, l', e, R, s, m, args, below, meth, c, Q⟩, D, τ, base⟩ := E
  obtain ⟨rfl, hx, hb, hml, hown, hts, hK, hN, hAO, hr, hlk, hnm, hRf, hRl, hRc, hRs, hbs⟩ := hE
  intro H locs ls hP hS hl
  exact lv_lstore_n hx hb hd hj hl (by rw [hml]; exact hn) rfl (fun ls hl => k H locs ls hP hS hl)
theorem z_lstore (hE : zOk E l M tc ts) {i : Nat} {x : Int64} (hd : decode M.2.1 pc = .ok (.lstore i, 2)) (hn : i + 1 < M.2.2.1) (k : zJ E g nx cells slots (pc + 2) (lS2 lv i (.long x)) rest) : zJ E g nx cells slots pc lv (.long x :: rest) := by
  obtain ⟨⟨p, l', e, R, s, m, args, below, meth, c, Q⟩, D, τ, base⟩ := E
  obtain ⟨rfl, hx, hb, hml, hown, hts, hK, hN, hAO, hr, hlk, hnm, hRf, hRl, hRc, hRs, hbs⟩ := hE
  intro H locs ls hP hS hl
  exact lv_lstore hx hb hd hl (by rw [hml]; exact hn) rfl (fun ls hl => k H locs ls hP hS hl)
theorem z_astore_n (hE : zOk E l M tc ts) {j : Fin 4} {i : Nat} {x : Nat} (hd : decode M.2.1 pc = .ok (.astore_n j, 1)) (hj : (j : Nat) = i) (hn : i < M.2.2.1) (k : zJ E g nx cells slots (pc + 1) (lS1 lv i (.ref x)) rest) : zJ E g nx cells slots pc lv (.ref x :: rest) := by
  obtain ⟨⟨p, l', e, R, s, m, args, below, meth, c, Q⟩, D, τ, base⟩ := E
  obtain ⟨rfl, hx, hb, hml, hown, hts, hK, hN, hAO, hr, hlk, hnm, hRf, hRl, hRc, hRs, hbs⟩ := hE
  intro H locs ls hP hS hl
  exact lv_astore_n hx hb hd hj hl (by rw [hml]; exact hn) rfl (fun ls hl => k H locs ls hP hS hl)
theorem z_astore (hE : zOk E l M tc ts) {i : Nat} {x : Nat} (hd : decode M.2.1 pc = .ok (.astore i, 2)) (hn : i < M.2.2.1) (k : zJ E g nx cells slots (pc + 2) (lS1 lv i (.ref x)) rest) : zJ E g nx cells slots pc lv (.ref x :: rest) := by
  obtain ⟨⟨p, l', e, R, s, m, args, below, meth, c, Q⟩, D, τ, base⟩ := E
  obtain ⟨rfl, hx, hb, hml, hown, hts, hK, hN, hAO, hr, hlk, hnm, hRf, hRl, hRc, hRs, hbs⟩ := hE
  intro H locs ls hP hS hl
  exact lv_astore hx hb hd hl (by rw [hml]; exact hn) rfl (fun ls hl => k H locs ls hP hS hl)
theorem z_astore_nq (hE : zOk E l M tc ts) {j : Fin 4} {i : Nat} {r : Option Nat} (hd : decode M.2.1 pc = .ok (.astore_n j, 1)) (hj : (j : Nat) = i) (hn : i < M.2.2.1) (k : zJ E g nx cells slots (pc + 1) (lS1 lv i (va_rf r)) rest) : zJ E g nx cells slots pc lv (va_rf r :: rest) := by
  obtain ⟨⟨p, l', e, R, s, m, args, below, meth, c, Q⟩, D, τ, base⟩ := E
  obtain ⟨rfl, hx, hb, hml, hown, hts, hK, hN, hAO, hr, hlk, hnm, hRf, hRl, hRc, hRs, hbs⟩ := hE
  intro H locs ls hP hS hl
  cases r
  · exact lv_astore_nN hx hb hd hj hl (by rw [hml]; exact hn) rfl (fun ls hl => k H locs ls hP hS hl)
  · exact lv_astore_n hx hb hd hj hl (by rw [hml]; exact hn) rfl (fun ls hl => k H locs ls hP hS hl)
theorem z_astoreq (hE : zOk E l M tc ts) {i : Nat} {r : Option Nat} (hd : decode M.2.1 pc = .ok (.astore i, 2)) (hn : i < M.2.2.1) (k : zJ E g nx cells slots (pc + 2) (lS1 lv i (va_rf r)) rest) : zJ E g nx cells slots pc lv (va_rf r :: rest) := by
  obtain ⟨⟨p, l', e, R, s, m, args, below, meth, c, Q⟩, D, τ, base⟩ := E
  obtain ⟨rfl, hx, hb, hml, hown, hts, hK, hN, hAO, hr, hlk, hnm, hRf, hRl, hRc, hRs, hbs⟩ := hE
  intro H locs ls hP hS hl
  cases r
  · exact lv_astoreN hx hb hd hl (by rw [hml]; exact hn) rfl (fun ls hl => k H locs ls hP hS hl)
  · exact lv_astore hx hb hd hl (by rw [hml]; exact hn) rfl (fun ls hl => k H locs ls hP hS hl)
theorem z_iinc (hE : zOk E l M tc ts) {i : Nat} {n : Int} {x v : Int32} (hd : decode M.2.1 pc = .ok (.iinc i n, 3)) (hl0 : lG lv i = some (.int x)) (hv : x + Int32.ofInt n = v) (hn : i < M.2.2.1) (k : zJ E g nx cells slots (pc + 3) (lS1 lv i (.int v)) rest) : zJ E g nx cells slots pc lv rest := by
  obtain ⟨⟨p, l', e, R, s, m, args, below, meth, c, Q⟩, D, τ, base⟩ := E
  obtain ⟨rfl, hx, hb, hml, hown, hts, hK, hN, hAO, hr, hlk, hnm, hRf, hRl, hRc, hRs, hbs⟩ := hE
  intro H locs ls hP hS hl
  obtain ⟨j, hj⟩ := List.getElem?_of_mem (lG_mem hl0)
  exact lv_iinc hx hb hd hl hj hv (by rw [hml]; exact hn) rfl (fun ls hl => k H locs ls hP hS hl)
theorem z_iadd (hE : zOk E l M tc ts) {x y v : Int32} (hd : decode M.2.1 pc = .ok (.iadd, 1)) (hv : x + y = v) (k : zJ E g nx cells slots (pc + 1) lv (.int v :: rest)) : zJ E g nx cells slots pc lv (.int y :: .int x :: rest) := by
  obtain ⟨⟨p, l', e, R, s, m, args, below, meth, c, Q⟩, D, τ, base⟩ := E
  obtain ⟨rfl, hx, hb, hml, hown, hts, hK, hN, hAO, hr, hlk, hnm, hRf, hRl, hRc, hRs, hbs⟩ := hE
  intro H locs ls hP hS hl
  subst hv
  exact lv_iadd hx hb hd (k H locs ls hP hS hl)
theorem z_isub (hE : zOk E l M tc ts) {x y v : Int32} (hd : decode M.2.1 pc = .ok (.isub, 1)) (hv : x - y = v) (k : zJ E g nx cells slots (pc + 1) lv (.int v :: rest)) : zJ E g nx cells slots pc lv (.int y :: .int x :: rest) := by
  obtain ⟨⟨p, l', e, R, s, m, args, below, meth, c, Q⟩, D, τ, base⟩ := E
  obtain ⟨rfl, hx, hb, hml, hown, hts, hK, hN, hAO, hr, hlk, hnm, hRf, hRl, hRc, hRs, hbs⟩ := hE
  intro H locs ls hP hS hl
  subst hv
  exact lv_isub hx hb hd (k H locs ls hP hS hl)
theorem z_imul (hE : zOk E l M tc ts) {x y v : Int32} (hd : decode M.2.1 pc = .ok (.imul, 1)) (hv : x * y = v) (k : zJ E g nx cells slots (pc + 1) lv (.int v :: rest)) : zJ E g nx cells slots pc lv (.int y :: .int x :: rest) := by
  obtain ⟨⟨p, l', e, R, s, m, args, below, meth, c, Q⟩, D, τ, base⟩ := E
  obtain ⟨rfl, hx, hb, hml, hown, hts, hK, hN, hAO, hr, hlk, hnm, hRf, hRl, hRc, hRs, hbs⟩ := hE
  intro H locs ls hP hS hl
  subst hv
  exact lv_imul hx hb hd (k H locs ls hP hS hl)
theorem z_iand (hE : zOk E l M tc ts) {x y v : Int32} (hd : decode M.2.1 pc = .ok (.iand, 1)) (hv : x &&& y = v) (k : zJ E g nx cells slots (pc + 1) lv (.int v :: rest)) : zJ E g nx cells slots pc lv (.int y :: .int x :: rest) := by
  obtain ⟨⟨p, l', e, R, s, m, args, below, meth, c, Q⟩, D, τ, base⟩ := E
  obtain ⟨rfl, hx, hb, hml, hown, hts, hK, hN, hAO, hr, hlk, hnm, hRf, hRl, hRc, hRs, hbs⟩ := hE
  intro H locs ls hP hS hl
  subst hv
  exact lv_iand hx hb hd (k H locs ls hP hS hl)
theorem z_ior (hE : zOk E l M tc ts) {x y v : Int32} (hd : decode M.2.1 pc = .ok (.ior, 1)) (hv : x ||| y = v) (k : zJ E g nx cells slots (pc + 1) lv (.int v :: rest)) : zJ E g nx cells slots pc lv (.int y :: .int x :: rest) := by
  obtain ⟨⟨p, l', e, R, s, m, args, below, meth, c, Q⟩, D, τ, base⟩ := E
  obtain ⟨rfl, hx, hb, hml, hown, hts, hK, hN, hAO, hr, hlk, hnm, hRf, hRl, hRc, hRs, hbs⟩ := hE
  intro H locs ls hP hS hl
  subst hv
  exact lv_ior hx hb hd (k H locs ls hP hS hl)
theorem z_ladd (hE : zOk E l M tc ts) {x y v : Int64} (hd : decode M.2.1 pc = .ok (.ladd, 1)) (hv : x + y = v) (k : zJ E g nx cells slots (pc + 1) lv (.long v :: rest)) : zJ E g nx cells slots pc lv (.long y :: .long x :: rest) := by
  obtain ⟨⟨p, l', e, R, s, m, args, below, meth, c, Q⟩, D, τ, base⟩ := E
  obtain ⟨rfl, hx, hb, hml, hown, hts, hK, hN, hAO, hr, hlk, hnm, hRf, hRl, hRc, hRs, hbs⟩ := hE
  intro H locs ls hP hS hl
  subst hv
  exact lv_ladd hx hb hd (k H locs ls hP hS hl)
theorem z_lsub (hE : zOk E l M tc ts) {x y v : Int64} (hd : decode M.2.1 pc = .ok (.lsub, 1)) (hv : x - y = v) (k : zJ E g nx cells slots (pc + 1) lv (.long v :: rest)) : zJ E g nx cells slots pc lv (.long y :: .long x :: rest) := by
  obtain ⟨⟨p, l', e, R, s, m, args, below, meth, c, Q⟩, D, τ, base⟩ := E
  obtain ⟨rfl, hx, hb, hml, hown, hts, hK, hN, hAO, hr, hlk, hnm, hRf, hRl, hRc, hRs, hbs⟩ := hE
  intro H locs ls hP hS hl
  subst hv
  exact lv_lsub hx hb hd (k H locs ls hP hS hl)
theorem z_lmul (hE : zOk E l M tc ts) {x y v : Int64} (hd : decode M.2.1 pc = .ok (.lmul, 1)) (hv : x * y = v) (k : zJ E g nx cells slots (pc + 1) lv (.long v :: rest)) : zJ E g nx cells slots pc lv (.long y :: .long x :: rest) := by
  obtain ⟨⟨p, l', e, R, s, m, args, below, meth, c, Q⟩, D, τ, base⟩ := E
  obtain ⟨rfl, hx, hb, hml, hown, hts, hK, hN, hAO, hr, hlk, hnm, hRf, hRl, hRc, hRs, hbs⟩ := hE
  intro H locs ls hP hS hl
  subst hv
  exact lv_lmul hx hb hd (k H locs ls hP hS hl)
theorem z_land (hE : zOk E l M tc ts) {x y v : Int64} (hd : decode M.2.1 pc = .ok (.land, 1)) (hv : x &&& y = v) (k : zJ E g nx cells slots (pc + 1) lv (.long v :: rest)) : zJ E g nx cells slots pc lv (.long y :: .long x :: rest) := by
  obtain ⟨⟨p, l', e, R, s, m, args, below, meth, c, Q⟩, D, τ, base⟩ := E
  obtain ⟨rfl, hx, hb, hml, hown, hts, hK, hN, hAO, hr, hlk, hnm, hRf, hRl, hRc, hRs, hbs⟩ := hE
  intro H locs ls hP hS hl
  subst hv
  exact lv_land hx hb hd (k H locs ls hP hS hl)
theorem z_lor (hE : zOk E l M tc ts) {x y v : Int64} (hd : decode M.2.1 pc = .ok (.lor, 1)) (hv : x ||| y = v) (k : zJ E g nx cells slots (pc + 1) lv (.long v :: rest)) : zJ E g nx cells slots pc lv (.long y :: .long x :: rest) := by
  obtain ⟨⟨p, l', e, R, s, m, args, below, meth, c, Q⟩, D, τ, base⟩ := E
  obtain ⟨rfl, hx, hb, hml, hown, hts, hK, hN, hAO, hr, hlk, hnm, hRf, hRl, hRc, hRs, hbs⟩ := hE
  intro H locs ls hP hS hl
  subst hv
  exact lv_lor hx hb hd (k H locs ls hP hS hl)
theorem z_lxor (hE : zOk E l M tc ts) {x y v : Int64} (hd : decode M.2.1 pc = .ok (.lxor, 1)) (hv : x ^^^ y = v) (k : zJ E g nx cells slots (pc + 1) lv (.long v :: rest)) : zJ E g nx cells slots pc lv (.long y :: .long x :: rest) := by
  obtain ⟨⟨p, l', e, R, s, m, args, below, meth, c, Q⟩, D, τ, base⟩ := E
  obtain ⟨rfl, hx, hb, hml, hown, hts, hK, hN, hAO, hr, hlk, hnm, hRf, hRl, hRc, hRs, hbs⟩ := hE
  intro H locs ls hP hS hl
  subst hv
  exact lv_lxor hx hb hd (k H locs ls hP hS hl)
theorem z_ishl (hE : zOk E l M tc ts) {x y v : Int32} (hd : decode M.2.1 pc = .ok (.ishl, 1)) (hv : x <<< (y &&& 31) = v) (k : zJ E g nx cells slots (pc + 1) lv (.int v :: rest)) : zJ E g nx cells slots pc lv (.int y :: .int x :: rest) := by
  obtain ⟨⟨p, l', e, R, s, m, args, below, meth, c, Q⟩, D, τ, base⟩ := E
  obtain ⟨rfl, hx, hb, hml, hown, hts, hK, hN, hAO, hr, hlk, hnm, hRf, hRl, hRc, hRs, hbs⟩ := hE
  intro H locs ls hP hS hl
  subst hv
  exact lv_ishl hx hb hd (k H locs ls hP hS hl)
theorem z_ishr (hE : zOk E l M tc ts) {x y v : Int32} (hd : decode M.2.1 pc = .ok (.ishr, 1)) (hv : x >>> (y &&& 31) = v) (k : zJ E g nx cells slots (pc + 1) lv (.int v :: rest)) : zJ E g nx cells slots pc lv (.int y :: .int x :: rest) := by
  obtain ⟨⟨p, l', e, R, s, m, args, below, meth, c, Q⟩, D, τ, base⟩ := E
  obtain ⟨rfl, hx, hb, hml, hown, hts, hK, hN, hAO, hr, hlk, hnm, hRf, hRl, hRc, hRs, hbs⟩ := hE
  intro H locs ls hP hS hl
  subst hv
  exact lv_ishr hx hb hd (k H locs ls hP hS hl)
theorem z_idiv (hE : zOk E l M tc ts) {x y v : Int32} (hd : decode M.2.1 pc = .ok (.idiv, 1)) (hne : ¬ y = 0) (hv : x / y = v) (k : zJ E g nx cells slots (pc + 1) lv (.int v :: rest)) : zJ E g nx cells slots pc lv (.int y :: .int x :: rest) := by
  obtain ⟨⟨p, l', e, R, s, m, args, below, meth, c, Q⟩, D, τ, base⟩ := E
  obtain ⟨rfl, hx, hb, hml, hown, hts, hK, hN, hAO, hr, hlk, hnm, hRf, hRl, hRc, hRs, hbs⟩ := hE
  intro H locs ls hP hS hl
  subst hv
  exact lv_idiv hx hb hd hne (k H locs ls hP hS hl)
theorem z_irem (hE : zOk E l M tc ts) {x y v : Int32} (hd : decode M.2.1 pc = .ok (.irem, 1)) (hne : ¬ y = 0) (hv : x - x / y * y = v) (k : zJ E g nx cells slots (pc + 1) lv (.int v :: rest)) : zJ E g nx cells slots pc lv (.int y :: .int x :: rest) := by
  obtain ⟨⟨p, l', e, R, s, m, args, below, meth, c, Q⟩, D, τ, base⟩ := E
  obtain ⟨rfl, hx, hb, hml, hown, hts, hK, hN, hAO, hr, hlk, hnm, hRf, hRl, hRc, hRs, hbs⟩ := hE
  intro H locs ls hP hS hl
  subst hv
  exact lv_irem hx hb hd hne (k H locs ls hP hS hl)
theorem z_ldiv (hE : zOk E l M tc ts) {x y v : Int64} (hd : decode M.2.1 pc = .ok (.ldiv, 1)) (hne : ¬ y = 0) (hv : x / y = v) (k : zJ E g nx cells slots (pc + 1) lv (.long v :: rest)) : zJ E g nx cells slots pc lv (.long y :: .long x :: rest) := by
  obtain ⟨⟨p, l', e, R, s, m, args, below, meth, c, Q⟩, D, τ, base⟩ := E
  obtain ⟨rfl, hx, hb, hml, hown, hts, hK, hN, hAO, hr, hlk, hnm, hRf, hRl, hRc, hRs, hbs⟩ := hE
  intro H locs ls hP hS hl
  subst hv
  exact lv_ldiv hx hb hd hne (k H locs ls hP hS hl)
theorem z_lrem (hE : zOk E l M tc ts) {x y v : Int64} (hd : decode M.2.1 pc = .ok (.lrem, 1)) (hne : ¬ y = 0) (hv : x - x / y * y = v) (k : zJ E g nx cells slots (pc + 1) lv (.long v :: rest)) : zJ E g nx cells slots pc lv (.long y :: .long x :: rest) := by
  obtain ⟨⟨p, l', e, R, s, m, args, below, meth, c, Q⟩, D, τ, base⟩ := E
  obtain ⟨rfl, hx, hb, hml, hown, hts, hK, hN, hAO, hr, hlk, hnm, hRf, hRl, hRc, hRs, hbs⟩ := hE
  intro H locs ls hP hS hl
  subst hv
  exact lv_lrem hx hb hd hne (k H locs ls hP hS hl)
theorem z_ineg (hE : zOk E l M tc ts) {x v : Int32} (hd : decode M.2.1 pc = .ok (.ineg, 1)) (hv : -x = v) (k : zJ E g nx cells slots (pc + 1) lv (.int v :: rest)) : zJ E g nx cells slots pc lv (.int x :: rest) := by
  obtain ⟨⟨p, l', e, R, s, m, args, below, meth, c, Q⟩, D, τ, base⟩ := E
  obtain ⟨rfl, hx, hb, hml, hown, hts, hK, hN, hAO, hr, hlk, hnm, hRf, hRl, hRc, hRs, hbs⟩ := hE
  intro H locs ls hP hS hl
  subst hv
  exact lv_ineg hx hb hd (k H locs ls hP hS hl)
theorem z_lneg (hE : zOk E l M tc ts) {x v : Int64} (hd : decode M.2.1 pc = .ok (.lneg, 1)) (hv : -x = v) (k : zJ E g nx cells slots (pc + 1) lv (.long v :: rest)) : zJ E g nx cells slots pc lv (.long x :: rest) := by
  obtain ⟨⟨p, l', e, R, s, m, args, below, meth, c, Q⟩, D, τ, base⟩ := E
  obtain ⟨rfl, hx, hb, hml, hown, hts, hK, hN, hAO, hr, hlk, hnm, hRf, hRl, hRc, hRs, hbs⟩ := hE
  intro H locs ls hP hS hl
  subst hv
  exact lv_lneg hx hb hd (k H locs ls hP hS hl)
theorem z_lshl (hE : zOk E l M tc ts) {x v : Int64} {y : Int32} (hd : decode M.2.1 pc = .ok (.lshl, 1)) (hv : x <<< (y.toInt64 &&& 63) = v) (k : zJ E g nx cells slots (pc + 1) lv (.long v :: rest)) : zJ E g nx cells slots pc lv (.int y :: .long x :: rest) := by
  obtain ⟨⟨p, l', e, R, s, m, args, below, meth, c, Q⟩, D, τ, base⟩ := E
  obtain ⟨rfl, hx, hb, hml, hown, hts, hK, hN, hAO, hr, hlk, hnm, hRf, hRl, hRc, hRs, hbs⟩ := hE
  intro H locs ls hP hS hl
  exact lv_lshl hx hb hd hv (k H locs ls hP hS hl)
theorem z_lshr (hE : zOk E l M tc ts) {x v : Int64} {y : Int32} (hd : decode M.2.1 pc = .ok (.lshr, 1)) (hv : x >>> (y.toInt64 &&& 63) = v) (k : zJ E g nx cells slots (pc + 1) lv (.long v :: rest)) : zJ E g nx cells slots pc lv (.int y :: .long x :: rest) := by
  obtain ⟨⟨p, l', e, R, s, m, args, below, meth, c, Q⟩, D, τ, base⟩ := E
  obtain ⟨rfl, hx, hb, hml, hown, hts, hK, hN, hAO, hr, hlk, hnm, hRf, hRl, hRc, hRs, hbs⟩ := hE
  intro H locs ls hP hS hl
  exact lv_lshr hx hb hd hv (k H locs ls hP hS hl)
theorem z_lushr (hE : zOk E l M tc ts) {x v : Int64} {y : Int32} (hd : decode M.2.1 pc = .ok (.lushr, 1)) (hv : (x.toUInt64 >>> (y.toInt64.toUInt64 &&& Int64.toUInt64 63)).toInt64 = v) (k : zJ E g nx cells slots (pc + 1) lv (.long v :: rest)) : zJ E g nx cells slots pc lv (.int y :: .long x :: rest) := by
  obtain ⟨⟨p, l', e, R, s, m, args, below, meth, c, Q⟩, D, τ, base⟩ := E
  obtain ⟨rfl, hx, hb, hml, hown, hts, hK, hN, hAO, hr, hlk, hnm, hRf, hRl, hRc, hRs, hbs⟩ := hE
  intro H locs ls hP hS hl
  exact lv_lushr hx hb hd hv (k H locs ls hP hS hl)
theorem z_i2l (hE : zOk E l M tc ts) {x : Int32} {v : Int64} (hd : decode M.2.1 pc = .ok (.i2l, 1)) (hv : x.toInt64 = v) (k : zJ E g nx cells slots (pc + 1) lv (.long v :: rest)) : zJ E g nx cells slots pc lv (.int x :: rest) := by
  obtain ⟨⟨p, l', e, R, s, m, args, below, meth, c, Q⟩, D, τ, base⟩ := E
  obtain ⟨rfl, hx, hb, hml, hown, hts, hK, hN, hAO, hr, hlk, hnm, hRf, hRl, hRc, hRs, hbs⟩ := hE
  intro H locs ls hP hS hl
  exact lv_i2l hx hb hd hv (k H locs ls hP hS hl)
theorem z_l2i (hE : zOk E l M tc ts) {x : Int64} {v : Int32} (hd : decode M.2.1 pc = .ok (.l2i, 1)) (hv : x.toInt32 = v) (k : zJ E g nx cells slots (pc + 1) lv (.int v :: rest)) : zJ E g nx cells slots pc lv (.long x :: rest) := by
  obtain ⟨⟨p, l', e, R, s, m, args, below, meth, c, Q⟩, D, τ, base⟩ := E
  obtain ⟨rfl, hx, hb, hml, hown, hts, hK, hN, hAO, hr, hlk, hnm, hRf, hRl, hRc, hRs, hbs⟩ := hE
  intro H locs ls hP hS hl
  exact lv_l2i hx hb hd hv (k H locs ls hP hS hl)
theorem z_lcmp (hE : zOk E l M tc ts) {x y : Int64} (hd : decode M.2.1 pc = .ok (.lcmp, 1)) (k : zJ E g nx cells slots (pc + 1) lv (.int (lg_cmp x y) :: rest)) : zJ E g nx cells slots pc lv (.long y :: .long x :: rest) := by
  obtain ⟨⟨p, l', e, R, s, m, args, below, meth, c, Q⟩, D, τ, base⟩ := E
  obtain ⟨rfl, hx, hb, hml, hown, hts, hK, hN, hAO, hr, hlk, hnm, hRf, hRl, hRc, hRs, hbs⟩ := hE
  intro H locs ls hP hS hl
  exact W.lcmp hx hb hd (k H locs ls hP hS hl)
theorem z_dup (hE : zOk E l M tc ts) {v : Value} (hd : decode M.2.1 pc = .ok (.dup, 1)) (hc : v.category = 1) (k : zJ E g nx cells slots (pc + 1) lv (v :: v :: rest)) : zJ E g nx cells slots pc lv (v :: rest) := by
  obtain ⟨⟨p, l', e, R, s, m, args, below, meth, c, Q⟩, D, τ, base⟩ := E
  obtain ⟨rfl, hx, hb, hml, hown, hts, hK, hN, hAO, hr, hlk, hnm, hRf, hRl, hRc, hRs, hbs⟩ := hE
  intro H locs ls hP hS hl
  exact lv_dup hx hb hd hc (k H locs ls hP hS hl)
theorem z_pop (hE : zOk E l M tc ts) {v : Value} (hd : decode M.2.1 pc = .ok (.pop, 1)) (hc : v.category = 1) (k : zJ E g nx cells slots (pc + 1) lv rest) : zJ E g nx cells slots pc lv (v :: rest) := by
  obtain ⟨⟨p, l', e, R, s, m, args, below, meth, c, Q⟩, D, τ, base⟩ := E
  obtain ⟨rfl, hx, hb, hml, hown, hts, hK, hN, hAO, hr, hlk, hnm, hRf, hRl, hRc, hRs, hbs⟩ := hE
  intro H locs ls hP hS hl
  exact lv_pop hx hb hd hc (k H locs ls hP hS hl)
theorem z_dup2 (hE : zOk E l M tc ts) {v w : Value} (hd : decode M.2.1 pc = .ok (.dup2, 1)) (hc : v.category = 1) (hc2 : w.category = 1) (k : zJ E g nx cells slots (pc + 1) lv (v :: w :: v :: w :: rest)) : zJ E g nx cells slots pc lv (v :: w :: rest) := by
  obtain ⟨⟨p, l', e, R, s, m, args, below, meth, c, Q⟩, D, τ, base⟩ := E
  obtain ⟨rfl, hx, hb, hml, hown, hts, hK, hN, hAO, hr, hlk, hnm, hRf, hRl, hRc, hRs, hbs⟩ := hE
  intro H locs ls hP hS hl
  exact lv_dup2_11 hx hb hd hc hc2 (k H locs ls hP hS hl)
theorem z_if_eq (hE : zOk E l M tc ts) {x : Int32} {off : Int} {tgt : Nat} (hd : decode M.2.1 pc = .ok (.ifCond .eq off, 3)) (ht : (pc : Int) + off = (tgt : Int)) (kt : x = 0 → zJ E g nx cells slots tgt lv rest) (kf : ¬ x = 0 → zJ E g nx cells slots (pc + 3) lv rest) : zJ E g nx cells slots pc lv (.int x :: rest) := by
  obtain ⟨⟨p, l', e, R, s, m, args, below, meth, c, Q⟩, D, τ, base⟩ := E
  obtain ⟨rfl, hx, hb, hml, hown, hts, hK, hN, hAO, hr, hlk, hnm, hRf, hRl, hRc, hRs, hbs⟩ := hE
  intro H locs ls hP hS hl
  exact lv_if_eq hx hb hd ht (fun h => kt h H locs ls hP hS hl) (fun h => kf h H locs ls hP hS hl)
theorem z_if_ne (hE : zOk E l M tc ts) {x : Int32} {off : Int} {tgt : Nat} (hd : decode M.2.1 pc = .ok (.ifCond .ne off, 3)) (ht : (pc : Int) + off = (tgt : Int)) (kt : ¬ x = 0 → zJ E g nx cells slots tgt lv rest) (kf : x = 0 → zJ E g nx cells slots (pc + 3) lv rest) : zJ E g nx cells slots pc lv (.int x :: rest) := by
  obtain ⟨⟨p, l', e, R, s, m, args, below, meth, c, Q⟩, D, τ, base⟩ := E
  obtain ⟨rfl, hx, hb, hml, hown, hts, hK, hN, hAO, hr, hlk, hnm, hRf, hRl, hRc, hRs, hbs⟩ := hE
  intro H locs ls hP hS hl
  exact lv_if_ne hx hb hd ht (fun h => kt h H locs ls hP hS hl) (fun h => kf h H locs ls hP hS hl)
theorem z_if_lt (hE : zOk E l M tc ts) {x : Int32} {off : Int} {tgt : Nat} (hd : decode M.2.1 pc = .ok (.ifCond .lt off, 3)) (ht : (pc : Int) + off = (tgt : Int)) (kt : x < 0 → zJ E g nx cells slots tgt lv rest) (kf : ¬ x < 0 → zJ E g nx cells slots (pc + 3) lv rest) : zJ E g nx cells slots pc lv (.int x :: rest) := by
  obtain ⟨⟨p, l', e, R, s, m, args, below, meth, c, Q⟩, D, τ, base⟩ := E
  obtain ⟨rfl, hx, hb, hml, hown, hts, hK, hN, hAO, hr, hlk, hnm, hRf, hRl, hRc, hRs, hbs⟩ := hE
  intro H locs ls hP hS hl
  exact lv_if_lt hx hb hd ht (fun h => kt h H locs ls hP hS hl) (fun h => kf h H locs ls hP hS hl)
theorem z_if_ge (hE : zOk E l M tc ts) {x : Int32} {off : Int} {tgt : Nat} (hd : decode M.2.1 pc = .ok (.ifCond .ge off, 3)) (ht : (pc : Int) + off = (tgt : Int)) (kt : 0 ≤ x → zJ E g nx cells slots tgt lv rest) (kf : ¬ 0 ≤ x → zJ E g nx cells slots (pc + 3) lv rest) : zJ E g nx cells slots pc lv (.int x :: rest) := by
  obtain ⟨⟨p, l', e, R, s, m, args, below, meth, c, Q⟩, D, τ, base⟩ := E
  obtain ⟨rfl, hx, hb, hml, hown, hts, hK, hN, hAO, hr, hlk, hnm, hRf, hRl, hRc, hRs, hbs⟩ := hE
  intro H locs ls hP hS hl
  exact lv_if_ge hx hb hd ht (fun h => kt h H locs ls hP hS hl) (fun h => kf h H locs ls hP hS hl)
theorem z_if_gt (hE : zOk E l M tc ts) {x : Int32} {off : Int} {tgt : Nat} (hd : decode M.2.1 pc = .ok (.ifCond .gt off, 3)) (ht : (pc : Int) + off = (tgt : Int)) (kt : 0 < x → zJ E g nx cells slots tgt lv rest) (kf : ¬ 0 < x → zJ E g nx cells slots (pc + 3) lv rest) : zJ E g nx cells slots pc lv (.int x :: rest) := by
  obtain ⟨⟨p, l', e, R, s, m, args, below, meth, c, Q⟩, D, τ, base⟩ := E
  obtain ⟨rfl, hx, hb, hml, hown, hts, hK, hN, hAO, hr, hlk, hnm, hRf, hRl, hRc, hRs, hbs⟩ := hE
  intro H locs ls hP hS hl
  exact lv_if_gt hx hb hd ht (fun h => kt h H locs ls hP hS hl) (fun h => kf h H locs ls hP hS hl)
theorem z_if_le (hE : zOk E l M tc ts) {x : Int32} {off : Int} {tgt : Nat} (hd : decode M.2.1 pc = .ok (.ifCond .le off, 3)) (ht : (pc : Int) + off = (tgt : Int)) (kt : x ≤ 0 → zJ E g nx cells slots tgt lv rest) (kf : ¬ x ≤ 0 → zJ E g nx cells slots (pc + 3) lv rest) : zJ E g nx cells slots pc lv (.int x :: rest) := by
  obtain ⟨⟨p, l', e, R, s, m, args, below, meth, c, Q⟩, D, τ, base⟩ := E
  obtain ⟨rfl, hx, hb, hml, hown, hts, hK, hN, hAO, hr, hlk, hnm, hRf, hRl, hRc, hRs, hbs⟩ := hE
  intro H locs ls hP hS hl
  exact lv_if_le hx hb hd ht (fun h => kt h H locs ls hP hS hl) (fun h => kf h H locs ls hP hS hl)
theorem z_icmp_eq (hE : zOk E l M tc ts) {x y : Int32} {off : Int} {tgt : Nat} (hd : decode M.2.1 pc = .ok (.if_icmp .eq off, 3)) (ht : (pc : Int) + off = (tgt : Int)) (kt : x = y → zJ E g nx cells slots tgt lv rest) (kf : ¬ x = y → zJ E g nx cells slots (pc + 3) lv rest) : zJ E g nx cells slots pc lv (.int y :: .int x :: rest) := by
  obtain ⟨⟨p, l', e, R, s, m, args, below, meth, c, Q⟩, D, τ, base⟩ := E
  obtain ⟨rfl, hx, hb, hml, hown, hts, hK, hN, hAO, hr, hlk, hnm, hRf, hRl, hRc, hRs, hbs⟩ := hE
  intro H locs ls hP hS hl
  exact lv_icmp_eq hx hb hd ht (fun h => kt h H locs ls hP hS hl) (fun h => kf h H locs ls hP hS hl)
theorem z_icmp_ne (hE : zOk E l M tc ts) {x y : Int32} {off : Int} {tgt : Nat} (hd : decode M.2.1 pc = .ok (.if_icmp .ne off, 3)) (ht : (pc : Int) + off = (tgt : Int)) (kt : ¬ x = y → zJ E g nx cells slots tgt lv rest) (kf : x = y → zJ E g nx cells slots (pc + 3) lv rest) : zJ E g nx cells slots pc lv (.int y :: .int x :: rest) := by
  obtain ⟨⟨p, l', e, R, s, m, args, below, meth, c, Q⟩, D, τ, base⟩ := E
  obtain ⟨rfl, hx, hb, hml, hown, hts, hK, hN, hAO, hr, hlk, hnm, hRf, hRl, hRc, hRs, hbs⟩ := hE
  intro H locs ls hP hS hl
  exact lv_icmp_ne hx hb hd ht (fun h => kt h H locs ls hP hS hl) (fun h => kf h H locs ls hP hS hl)
theorem z_icmp_lt (hE : zOk E l M tc ts) {x y : Int32} {off : Int} {tgt : Nat} (hd : decode M.2.1 pc = .ok (.if_icmp .lt off, 3)) (ht : (pc : Int) + off = (tgt : Int)) (kt : x < y → zJ E g nx cells slots tgt lv rest) (kf : ¬ x < y → zJ E g nx cells slots (pc + 3) lv rest) : zJ E g nx cells slots pc lv (.int y :: .int x :: rest) := by
  obtain ⟨⟨p, l', e, R, s, m, args, below, meth, c, Q⟩, D, τ, base⟩ := E
  obtain ⟨rfl, hx, hb, hml, hown, hts, hK, hN, hAO, hr, hlk, hnm, hRf, hRl, hRc, hRs, hbs⟩ := hE
  intro H locs ls hP hS hl
  exact lv_icmp_lt hx hb hd ht (fun h => kt h H locs ls hP hS hl) (fun h => kf h H locs ls hP hS hl)
theorem z_icmp_ge (hE : zOk E l M tc ts) {x y : Int32} {off : Int} {tgt : Nat} (hd : decode M.2.1 pc = .ok (.if_icmp .ge off, 3)) (ht : (pc : Int) + off = (tgt : Int)) (kt : y ≤ x → zJ E g nx cells slots tgt lv rest) (kf : ¬ y ≤ x → zJ E g nx cells slots (pc + 3) lv rest) : zJ E g nx cells slots pc lv (.int y :: .int x :: rest) := by
  obtain ⟨⟨p, l', e, R, s, m, args, below, meth, c, Q⟩, D, τ, base⟩ := E
  obtain ⟨rfl, hx, hb, hml, hown, hts, hK, hN, hAO, hr, hlk, hnm, hRf, hRl, hRc, hRs, hbs⟩ := hE
  intro H locs ls hP hS hl
  exact lv_icmp_ge hx hb hd ht (fun h => kt h H locs ls hP hS hl) (fun h => kf h H locs ls hP hS hl)
theorem z_icmp_gt (hE : zOk E l M tc ts) {x y : Int32} {off : Int} {tgt : Nat} (hd : decode M.2.1 pc = .ok (.if_icmp .gt off, 3)) (ht : (pc : Int) + off = (tgt : Int)) (kt : y < x → zJ E g nx cells slots tgt lv rest) (kf : ¬ y < x → zJ E g nx cells slots (pc + 3) lv rest) : zJ E g nx cells slots pc lv (.int y :: .int x :: rest) := by
  obtain ⟨⟨p, l', e, R, s, m, args, below, meth, c, Q⟩, D, τ, base⟩ := E
  obtain ⟨rfl, hx, hb, hml, hown, hts, hK, hN, hAO, hr, hlk, hnm, hRf, hRl, hRc, hRs, hbs⟩ := hE
  intro H locs ls hP hS hl
  exact lv_icmp_gt hx hb hd ht (fun h => kt h H locs ls hP hS hl) (fun h => kf h H locs ls hP hS hl)
theorem z_icmp_le (hE : zOk E l M tc ts) {x y : Int32} {off : Int} {tgt : Nat} (hd : decode M.2.1 pc = .ok (.if_icmp .le off, 3)) (ht : (pc : Int) + off = (tgt : Int)) (kt : x ≤ y → zJ E g nx cells slots tgt lv rest) (kf : ¬ x ≤ y → zJ E g nx cells slots (pc + 3) lv rest) : zJ E g nx cells slots pc lv (.int y :: .int x :: rest) := by
  obtain ⟨⟨p, l', e, R, s, m, args, below, meth, c, Q⟩, D, τ, base⟩ := E
  obtain ⟨rfl, hx, hb, hml, hown, hts, hK, hN, hAO, hr, hlk, hnm, hRf, hRl, hRc, hRs, hbs⟩ := hE
  intro H locs ls hP hS hl
  exact lv_icmp_le hx hb hd ht (fun h => kt h H locs ls hP hS hl) (fun h => kf h H locs ls hP hS hl)
theorem z_goto (hE : zOk E l M tc ts) {off : Int} {tgt : Nat} (hd : decode M.2.1 pc = .ok (.goto off, 3)) (ht : (pc : Int) + off = (tgt : Int)) (k : zJ E g nx cells slots tgt lv rest) : zJ E g nx cells slots pc lv rest := by
  obtain ⟨⟨p, l', e, R, s, m, args, below, meth, c, Q⟩, D, τ, base⟩ := E
  obtain ⟨rfl, hx, hb, hml, hown, hts, hK, hN, hAO, hr, hlk, hnm, hRf, hRl, hRc, hRs, hbs⟩ := hE
  intro H locs ls hP hS hl
  exact lv_goto hx hb hd ht (k H locs ls hP hS hl)
theorem z_ifnonnull (hE : zOk E l M tc ts) {r : Option Nat} {off : Int} {tgt : Nat} (hd : decode M.2.1 pc = .ok (.ifnonnull off, 3)) (ht : (pc : Int) + off = (tgt : Int)) (kt : ∀ a, r = some a → zJ E g nx cells slots tgt lv rest) (kf : r = none → zJ E g nx cells slots (pc + 3) lv rest) : zJ E g nx cells slots pc lv (va_rf r :: rest) := by
  obtain ⟨⟨p, l', e, R, s, m, args, below, meth, c, Q⟩, D, τ, base⟩ := E
  obtain ⟨rfl, hx, hb, hml, hown, hts, hK, hN, hAO, hr, hlk, hnm, hRf, hRl, hRc, hRs, hbs⟩ := hE
  intro H locs ls hP hS hl
  cases r with
  | none => exact lv_ifnonnullN hx hb hd (kf rfl H locs ls hP hS hl)
  | some a => exact lv_ifnonnull hx hb hd ht (kt a rfl H locs ls hP hS hl)
theorem z_ifnull (hE : zOk E l M tc ts) {r : Option Nat} {off : Int} {tgt : Nat} (hd : decode M.2.1 pc = .ok (.ifnull off, 3)) (ht : (pc : Int) + off = (tgt : Int)) (kt : r = none → zJ E g nx cells slots tgt lv rest) (kf : ∀ a, r = some a → zJ E g nx cells slots (pc + 3) lv rest) : zJ E g nx cells slots pc lv (va_rf r :: rest) := by
  obtain ⟨⟨p, l', e, R, s, m, args, below, meth, c, Q⟩, D, τ, base⟩ := E
  obtain ⟨rfl, hx, hb, hml, hown, hts, hK, hN, hAO, hr, hlk, hnm, hRf, hRl, hRc, hRs, hbs⟩ := hE
  intro H locs ls hP hS hl
  cases r with
  | none => exact lv_ifnullN hx hb hd ht (kt rfl H locs ls hP hS hl)
  | some a => exact lv_ifnull hx hb hd (kf a rfl H locs ls hP hS hl)
theorem z_tableOut (hE : zOk E l M tc ts) {dflt lo hi : Int} {offs : Array Int} {len : Nat} {x : Int32} {tgt : Nat} (hd : decode M.2.1 pc = .ok (.tableswitch dflt lo hi offs, len)) (h : x.toInt < lo ∨ hi < x.toInt) (ht : (pc : Int) + dflt = (tgt : Int)) (k : zJ E g nx cells slots tgt lv rest) : zJ E g nx cells slots pc lv (.int x :: rest) := by
  obtain ⟨⟨p, l', e, R, s, m, args, below, meth, c, Q⟩, D, τ, base⟩ := E
  obtain ⟨rfl, hx, hb, hml, hown, hts, hK, hN, hAO, hr, hlk, hnm, hRf, hRl, hRc, hRs, hbs⟩ := hE
  intro H locs ls hP hS hl
  exact lv_tableOut hx hb hd h ht (k H locs ls hP hS hl)
theorem z_tableIn (hE : zOk E l M tc ts) {dflt lo hi : Int} {offs : Array Int} {len : Nat} {x : Int32} {off : Int} {tgt : Nat} (hd : decode M.2.1 pc = .ok (.tableswitch dflt lo hi offs, len)) (h1 : ¬ x.toInt < lo) (h2 : ¬ hi < x.toInt) (ho : offs[(x.toInt - lo).toNat]? = some off) (ht : (pc : Int) + off = (tgt : Int)) (k : zJ E g nx cells slots tgt lv rest) : zJ E g nx cells slots pc lv (.int x :: rest) := by
  obtain ⟨⟨p, l', e, R, s, m, args, below, meth, c, Q⟩, D, τ, base⟩ := E
  obtain ⟨rfl, hx, hb, hml, hown, hts, hK, hN, hAO, hr, hlk, hnm, hRf, hRl, hRc, hRs, hbs⟩ := hE
  intro H locs ls hP hS hl
  exact lv_tableIn hx hb hd h1 h2 ho ht (k H locs ls hP hS hl)
theorem z_ldc (hE : zOk E l M tc ts) {index : Nat} {v : Int32} (hd : decode M.2.1 pc = .ok (.ldc index, 2)) (hc : Cond.constant M.1.cls index v ∈ Tw) (k : zJ E g nx cells slots (pc + 2) lv (.int v :: rest)) : zJ E g nx cells slots pc lv rest := by
  obtain ⟨⟨p, l', e, R, s, m, args, below, meth, c, Q⟩, D, τ, base⟩ := E
  obtain ⟨rfl, hx, hb, hml, hown, hts, hK, hN, hAO, hr, hlk, hnm, hRf, hRl, hRc, hRs, hbs⟩ := hE
  intro H locs ls hP hS hl
  exact lv_ldc hx hb hown (hts _ hc) hd (k H locs ls hP hS hl)
theorem z_ldc2 (hE : zOk E l M tc ts) {index : Nat} {v : Int64} (hd : decode M.2.1 pc = .ok (.ldc2_w index, 3)) (hc : Cond.constantLong M.1.cls index v ∈ Tw) (k : zJ E g nx cells slots (pc + 3) lv (.long v :: rest)) : zJ E g nx cells slots pc lv rest := by
  obtain ⟨⟨p, l', e, R, s, m, args, below, meth, c, Q⟩, D, τ, base⟩ := E
  obtain ⟨rfl, hx, hb, hml, hown, hts, hK, hN, hAO, hr, hlk, hnm, hRf, hRl, hRc, hRs, hbs⟩ := hE
  intro H locs ls hP hS hl
  exact lv_ldc2 hx hb hown (hts _ hc) hd (k H locs ls hP hS hl)
theorem z_get (hE : zOk E l M tc ts) {index ci k0 a : Nat} {fs : List Value} {v : Value} (hd : decode M.2.1 pc = .ok (.getfield index, 3)) (hf : FL M.1.cls index ci k0) (hg : g a = some (.inr (ci, fs))) (hv : fs[k0]? = some v) (k : zJ E g nx cells slots (pc + 3) lv (v :: rest)) : zJ E g nx cells slots pc lv (.ref a :: rest) := by
  obtain ⟨⟨p, l', e, R, s, m, args, below, meth, c, Q⟩, D, τ, base⟩ := E
  obtain ⟨rfl, hx, hb, hml, hown, hts, hK, hN, hAO, hr, hlk, hnm, hRf, hRl, hRc, hRs, hbs⟩ := hE
  intro H locs ls hP hS hl
  obtain ⟨C, T, N, h1, h2, h3, h4⟩ := hf
  exact va_get (ws := [(a, .inr (ci, fs))]) hx hb hts h2 hown hK (fun j q hq => by have hz : j < 1 := (List.getElem?_eq_some_iff.mp hq).1; rw [show j = 0 by omega] at hq; cases hq; exact (hP.2.2 a _ hg).2) 0 rfl h1 k0 h3 (hts _ h4) (fun _ h9 => h9) hv hd (k H locs ls hP hS hl)
theorem z_getN (hE : zOk E l M tc ts) {index ci k0 a : Nat} {fs : List Value} {v : Value} (hd : decode M.2.1 pc = .ok (.getfield index, 3)) (hf : FN M.1.cls index ci k0) (hg : g a = some (.inr (ci, fs))) (hv : fs[k0]? = some v) (k : zJ E g nx cells slots (pc + 3) lv (v :: rest)) : zJ E g nx cells slots pc lv (.ref a :: rest) := by
  obtain ⟨⟨p, l', e, R, s, m, args, below, meth, c, Q⟩, D, τ, base⟩ := E
  obtain ⟨rfl, hx, hb, hml, hown, hts, hK, hN, hAO, hr, hlk, hnm, hRf, hRl, hRc, hRs, hbs⟩ := hE
  intro H locs ls hP hS hl
  obtain ⟨C, T, N, host, h1, h2, h3, h4⟩ := hf
  exact va_getN (ws := [(a, .inr (ci, fs))]) hx hb hts h2 hown hK (fun j q hq => by have hz : j < 1 := (List.getElem?_eq_some_iff.mp hq).1; rw [show j = 0 by omega] at hq; cases hq; exact (hP.2.2 a _ hg).2) 0 rfl h1 k0 h3 (va_Nw.use rfl (hN _ h4)) (fun _ h9 => h9) hv hd (k H locs ls hP hS hl)
theorem z_put (hE : zOk E l M tc ts) {index ci k0 a : Nat} {fs : List Value} {v : Value} {ty0 : Nat → FieldType} (hd : decode M.2.1 pc = .ok (.putfield index, 3)) (hf : FL M.1.cls index ci k0) (hct : CT ci ty0) (hff : FF ci k0 false) (hg : g a = some (.inr (ci, fs))) (hn : narrow (ty0 k0) v = v) (hfit : fits (ty0 k0) v = true) (hlen : k0 < fs.length) (k : zJ E (gS g a (.inr (ci, fs.set k0 v))) nx cells slots (pc + 3) lv rest) : zJ E g nx cells slots pc lv (v :: .ref a :: rest) := by
  obtain ⟨⟨p, l', e, R, s, m, args, below, meth, c, Q⟩, D, τ, base⟩ := E
  obtain ⟨rfl, hx, hb, hml, hown, hts, hK, hN, hAO, hr, hlk, hnm, hRf, hRl, hRc, hRs, hbs⟩ := hE
  intro H locs ls hP hS hl
  obtain ⟨C, T, N, h1, h2, h3, h4⟩ := hf
  obtain ⟨C', T', N', h1', -, h5, h6⟩ := hct
  obtain ⟨C'', T'', N'', h1'', h7, h8⟩ := hff
  cases h1.symm.trans h1'
  cases h1.symm.trans h1''
  have hap := va_apart (own := M.1.cls) hts h2 ty0 h5 h6 hK h1
  obtain ⟨rr, e1, cell, q1, q2, q3, q4⟩ := (hP.2.2 a _ hg).2
  have hrr : rr = (C, T, N) := Option.some.inj (e1.symm.trans h1)
  subst hrr
  obtain ⟨hSl, hfc, kC, hkC, hkind⟩ := hK.1 ci _ h1
  obtain ⟨cf, kf, fi, f, hi, hsl⟩ := hSl k0 h3
  have hlay := hts _ (h2 _ (u_in_lay h3))
  unfold u_lay at hlay
  rw [if_neg (by rw [h7]; decide)] at hlay
  have hst := (u_facts hfc hkC (u_lays hts h2 h3) hi).1
  have h6' := u_store hfc hkC hkind hlay hi (h5 k0 h3) hn hfit
  refine W.putK hx hb (f := f) ⟨hown, hts _ h4, ⟨_, _, _, hi⟩, hst⟩ (by rw [q2]; exact h6') q1 q3 (by rw [hsl]; exact k2_hasslot (q4 k0 h3)) rfl rfl hd fun H' e1' e2' e3' => ?_
  rw [hsl] at e1'
  refine k H' _ ls (gP_set hP hg ?_ e2' e3') (hS.put e2' e3' (hP.2.2 a _ hg).1) hl
  exact ⟨_, h1, t_OB.to (V := updV (vp_V fs) k0 v) ⟨_, e1', q2, q3, t_set q4 hap h3 v⟩ (fun j _ => vp_updV_set hlen v j)⟩
theorem z_putN (hE : zOk E l M tc ts) {index ci k0 a : Nat} {fs : List Value} {v : Value} {ty0 : Nat → FieldType} (hd : decode M.2.1 pc = .ok (.putfield index, 3)) (hf : FN M.1.cls index ci k0) (hct : CT ci ty0) (hff : FF ci k0 false) (hg : g a = some (.inr (ci, fs))) (hn : narrow (ty0 k0) v = v) (hfit : fits (ty0 k0) v = true) (hlen : k0 < fs.length) (k : zJ E (gS g a (.inr (ci, fs.set k0 v))) nx cells slots (pc + 3) lv rest) : zJ E g nx cells slots pc lv (v :: .ref a :: rest) := by
  obtain ⟨⟨p, l', e, R, s, m, args, below, meth, c, Q⟩, D, τ, base⟩ := E
  obtain ⟨rfl, hx, hb, hml, hown, hts, hK, hN, hAO, hr, hlk, hnm, hRf, hRl, hRc, hRs, hbs⟩ := hE
  intro H locs ls hP hS hl
  obtain ⟨C, T, N, host, h1, h2, h3, h4⟩ := hf
  obtain ⟨C', T', N', h1', -, h5, h6⟩ := hct
  obtain ⟨C'', T'', N'', h1'', h7, h8⟩ := hff
  cases h1.symm.trans h1'
  cases h1.symm.trans h1''
  have hap := va_apart (own := M.1.cls) hts h2 ty0 h5 h6 hK h1
  obtain ⟨rr, e1, cell, q1, q2, q3, q4⟩ := (hP.2.2 a _ hg).2
  have hrr : rr = (C, T, N) := Option.some.inj (e1.symm.trans h1)
  subst hrr
  obtain ⟨hSl, hfc, kC, hkC, hkind⟩ := hK.1 ci _ h1
  obtain ⟨cf, kf, fi, f, hi, hsl⟩ := hSl k0 h3
  have hlay := hts _ (h2 _ (u_in_lay h3))
  unfold u_lay at hlay
  rw [if_neg (by rw [h7]; decide)] at hlay
  have hst := (u_facts hfc hkC (u_lays hts h2 h3) hi).1
  have h6' := u_store hfc hkC hkind hlay hi (h5 k0 h3) hn hfit
  refine va_WputK hx hb (f := f) hown (va_Nw.use rfl (hN _ h4)) hi hst (by rw [q2]; exact h6') q1 q3 (by rw [hsl]; exact k2_hasslot (q4 k0 h3)) rfl rfl hd fun H' e1' e2' e3' => ?_
  rw [hsl] at e1'
  refine k H' _ ls (gP_set hP hg ?_ e2' e3') (hS.put e2' e3' (hP.2.2 a _ hg).1) hl
  exact ⟨_, h1, t_OB.to (V := updV (vp_V fs) k0 v) ⟨_, e1', q2, q3, t_set q4 hap h3 v⟩ (fun j _ => vp_updV_set hlen v j)⟩
theorem z_putF (hE : zOk E l M tc ts) {index ci k0 a : Nat} {fs : List Value} {v : Value} {ty0 : Nat → FieldType} (hd : decode M.2.1 pc = .ok (.putfield index, 3)) (hf : FL M.1.cls index ci k0) (hct : CT ci ty0) (hff : FF ci k0 true) (hin : M.1.name = "<init>") (hoc : ∃ (C : String) (T : u_T) (N : Nat), classes[ci]? = some (C, T, N) ∧ C = M.1.cls) (hg : g a = some (.inr (ci, fs))) (hn : narrow (ty0 k0) v = v) (hfit : fits (ty0 k0) v = true) (hlen : k0 < fs.length) (k : zJ E (gS g a (.inr (ci, fs.set k0 v))) nx cells slots (pc + 3) lv rest) : zJ E g nx cells slots pc lv (v :: .ref a :: rest) := by
  obtain ⟨⟨p, l', e, R, s, m, args, below, meth, c, Q⟩, D, τ, base⟩ := E
  obtain ⟨rfl, hx, hb, hml, hown, hts, hK, hN, hAO, hr, hlk, hnm, hRf, hRl, hRc, hRs, hbs⟩ := hE
  intro H locs ls hP hS hl
  obtain ⟨C, T, N, h1, h2, h3, h4⟩ := hf
  obtain ⟨C', T', N', h1', -, h5, h6⟩ := hct
  obtain ⟨C'', T'', N'', h1'', h7, h8⟩ := hff
  cases h1.symm.trans h1'
  cases h1.symm.trans h1''
  have hap := va_apart (own := M.1.cls) hts h2 ty0 h5 h6 hK h1
  obtain ⟨rr, e1, cell, q1, q2, q3, q4⟩ := (hP.2.2 a _ hg).2
  have hrr : rr = (C, T, N) := Option.some.inj (e1.symm.trans h1)
  subst hrr
  obtain ⟨hSl, hfc, kC, hkC, hkind⟩ := hK.1 ci _ h1
  obtain ⟨cf, kf, fi, f, hi, hsl⟩ := hSl k0 h3
  have hlay := hts _ (h2 _ (u_in_lay h3))
  unfold u_lay at hlay
  rw [if_pos h7] at hlay
  have hst := (u_facts hfc hkC (u_lays hts h2 h3) hi).1
  obtain ⟨C3, T3, N3, h13, hC3⟩ := hoc
  cases h1.symm.trans h13
  have hcf : m.cls = cf := by
    obtain ⟨_, _, c', _, _, _, -, -, hf', -, -, -, hown2, -⟩ := Cond.laysFinal_spec hlay
    have e9 : c' = cf := by have := hi.symm.trans hf'; simp at this; exact this.1.symm
    rw [h8, hC3] at hown2
    rw [← e9]; exact Option.some.inj (hown.symm.trans hown2)
  have h6' := u_fits hfc hkC hkind (Or.inr hlay) hi (h5 k0 h3) hn hfit
  refine W.putFinK hx hb hown (hts _ h4) hi hst hcf (hnm hin) (by rw [q2]; exact h6') q1 q3 (by rw [hsl]; exact k2_hasslot (q4 k0 h3)) rfl rfl hd fun H' e1' e2' e3' => ?_
  rw [hsl] at e1'
  refine k H' _ ls (gP_set hP hg ?_ e2' e3') (hS.put e2' e3' (hP.2.2 a _ hg).1) hl
  exact ⟨_, h1, t_OB.to (V := updV (vp_V fs) k0 v) ⟨_, e1', q2, q3, t_set q4 hap h3 v⟩ (fun j _ => vp_updV_set hlen v j)⟩
theorem z_alen (hE : zOk E l M tc ts) {a t : Nat} {x : vp_A} {v : Int32} (hd : decode M.2.1 pc = .ok (.arraylength, 1)) (hg : g a = some (.inl (t, x))) (ht : t < 5) (hv : Int32.ofNat x.1 = v) (k : zJ E g nx cells slots (pc + 1) lv (.int v :: rest)) : zJ E g nx cells slots pc lv (.ref a :: rest) := by
  obtain ⟨⟨p, l', e, R, s, m, args, below, meth, c, Q⟩, D, τ, base⟩ := E
  obtain ⟨rfl, hx, hb, hml, hown, hts, hK, hN, hAO, hr, hlk, hnm, hRf, hRl, hRc, hRs, hbs⟩ := hE
  intro H locs ls hP hS hl
  obtain ⟨ty, hty⟩ : ∃ ty, (gTy τ)[t]? = some (τ t, ty) := by
    match t, ht with
    | 0, _ => exact ⟨_, rfl⟩
    | 1, _ => exact ⟨_, rfl⟩
    | 2, _ => exact ⟨_, rfl⟩
    | 3, _ => exact ⟨_, rfl⟩
    | 4, _ => exact ⟨_, rfl⟩
  exact va_alen (ws := [(a, .inl (τ t, x))]) hx hb hK (fun j q hq => by have hz : j < 1 := (List.getElem?_eq_some_iff.mp hq).1; rw [show j = 0 by omega] at hq; cases hq; exact (hP.2.2 a _ hg).2) 0 t rfl hty hv hd (k H locs ls hP hS hl)
theorem z_lald (hE : zOk E l M tc ts) {a n : Nat} {f : Nat → Int64} {i : Int32} (hd : decode M.2.1 pc = .ok (.laload, 1)) (hg : g a = some (.inl (0, n, .inr (.inl f)))) (hin : vp_in i n) (k : zJ E g nx cells slots (pc + 1) lv (.long (f i.toNatClampNeg) :: rest)) : zJ E g nx cells slots pc lv (.int i :: .ref a :: rest) := by
  obtain ⟨⟨p, l', e, R, s, m, args, below, meth, c, Q⟩, D, τ, base⟩ := E
  obtain ⟨rfl, hx, hb, hml, hown, hts, hK, hN, hAO, hr, hlk, hnm, hRf, hRl, hRc, hRs, hbs⟩ := hE
  intro H locs ls hP hS hl
  exact va_lald (ws := [(a, .inl (τ 0, n, .inr (.inl f)))]) hx hb hK (fun j q hq => by have hz : j < 1 := (List.getElem?_eq_some_iff.mp hq).1; rw [show j = 0 by omega] at hq; cases hq; exact (hP.2.2 a _ hg).2) 0 0 rfl rfl hin hd (k H locs ls hP hS hl)
theorem z_iald (hE : zOk E l M tc ts) {a n : Nat} {f : Nat → Int32} {i : Int32} (hd : decode M.2.1 pc = .ok (.iaload, 1)) (hg : g a = some (.inl (1, n, .inl f))) (hin : vp_in i n) (k : zJ E g nx cells slots (pc + 1) lv (.int (f i.toNatClampNeg) :: rest)) : zJ E g nx cells slots pc lv (.int i :: .ref a :: rest) := by
  obtain ⟨⟨p, l', e, R, s, m, args, below, meth, c, Q⟩, D, τ, base⟩ := E
  obtain ⟨rfl, hx, hb, hml, hown, hts, hK, hN, hAO, hr, hlk, hnm, hRf, hRl, hRc, hRs, hbs⟩ := hE
  intro H locs ls hP hS hl
  exact va_iald (ws := [(a, .inl (τ 1, n, .inl f))]) hx hb hK (fun j q hq => by have hz : j < 1 := (List.getElem?_eq_some_iff.mp hq).1; rw [show j = 0 by omega] at hq; cases hq; exact (hP.2.2 a _ hg).2) 0 1 rfl rfl hin hd (k H locs ls hP hS hl)
theorem z_zald (hE : zOk E l M tc ts) {a n : Nat} {f : Nat → Int32} {i : Int32} (hd : decode M.2.1 pc = .ok (.baload, 1)) (hg : g a = some (.inl (2, n, .inl f))) (hin : vp_in i n) (k : zJ E g nx cells slots (pc + 1) lv (.int (f i.toNatClampNeg) :: rest)) : zJ E g nx cells slots pc lv (.int i :: .ref a :: rest) := by
  obtain ⟨⟨p, l', e, R, s, m, args, below, meth, c, Q⟩, D, τ, base⟩ := E
  obtain ⟨rfl, hx, hb, hml, hown, hts, hK, hN, hAO, hr, hlk, hnm, hRf, hRl, hRc, hRs, hbs⟩ := hE
  intro H locs ls hP hS hl
  exact va_zald (ws := [(a, .inl (τ 2, n, .inl f))]) hx hb hK (fun j q hq => by have hz : j < 1 := (List.getElem?_eq_some_iff.mp hq).1; rw [show j = 0 by omega] at hq; cases hq; exact (hP.2.2 a _ hg).2) 0 2 rfl rfl hin hd (k H locs ls hP hS hl)
theorem z_aald (hE : zOk E l M tc ts) {a n t : Nat} {f : Nat → Option Nat} {i : Int32} (hd : decode M.2.1 pc = .ok (.aaload, 1)) (hg : g a = some (.inl (t, n, .inr (.inr (.inr (.inr f)))))) (ht : t = 3 ∨ t = 4) (hin : vp_in i n) (k : zJ E g nx cells slots (pc + 1) lv (va_rf (f i.toNatClampNeg) :: rest)) : zJ E g nx cells slots pc lv (.int i :: .ref a :: rest) := by
  obtain ⟨⟨p, l', e, R, s, m, args, below, meth, c, Q⟩, D, τ, base⟩ := E
  obtain ⟨rfl, hx, hb, hml, hown, hts, hK, hN, hAO, hr, hlk, hnm, hRf, hRl, hRc, hRs, hbs⟩ := hE
  intro H locs ls hP hS hl
  rcases ht with rfl | rfl
  · exact va_aldq (ws := [(a, .inl (τ 3, n, .inr (.inr (.inr (.inr f)))))]) hx hb hK (fun j q hq => by have hz : j < 1 := (List.getElem?_eq_some_iff.mp hq).1; rw [show j = 0 by omega] at hq; cases hq; exact (hP.2.2 a _ hg).2) 0 3 rfl rfl hin hd (k H locs ls hP hS hl)
  · exact va_aldq (ws := [(a, .inl (τ 4, n, .inr (.inr (.inr (.inr f)))))]) hx hb hK (fun j q hq => by have hz : j < 1 := (List.getElem?_eq_some_iff.mp hq).1; rw [show j = 0 by omega] at hq; cases hq; exact (hP.2.2 a _ hg).2) 0 4 rfl rfl hin hd (k H locs ls hP hS hl)
theorem z_last (hE : zOk E l M tc ts) {a n : Nat} {f : Nat → Int64} {i : Int32} {x : Int64} (hd : decode M.2.1 pc = .ok (.lastore, 1)) (hg : g a = some (.inl (0, n, .inr (.inl f)))) (hin : vp_in i n) (k : zJ E (gS g a (.inl (0, n, .inr (.inl (vp_updL f i.toNatClampNeg x))))) nx cells slots (pc + 1) lv rest) : zJ E g nx cells slots pc lv (.long x :: .int i :: .ref a :: rest) := by
  obtain ⟨⟨p, l', e, R, s, m, args, below, meth, c, Q⟩, D, τ, base⟩ := E
  obtain ⟨rfl, hx, hb, hml, hown, hts, hK, hN, hAO, hr, hlk, hnm, hRf, hRl, hRc, hRs, hbs⟩ := hE
  intro H locs ls hP hS hl
  refine W.last hx hb (hP.2.2 a _ hg).2 ((hK.2 0 _ rfl).1 n (fun j => .long (f j))) (fun q => by cases q) (by show ¬ (i < 0 ∨ (arrV _ _ _).slots.size ≤ _); rw [arrV_size]; exact hin) rfl rfl hd fun H1 e1 z oq => ?_
  refine k H1 _ ls (gP_set hP hg ?_ z oq) (hS.put z oq (hP.2.2 a _ hg).1) hl
  show H1[a]? = some (vp_cell _ _)
  rw [e1]
  rw [vp_cell_l, vp_cell_l, arrV_store]
  congr 2
  funext q
  by_cases hq : q = i.toNatClampNeg
  · subst hq
    simp [updV, vp_updL]
    try rfl
  · simp [updV, vp_updL, hq]
theorem z_iast (hE : zOk E l M tc ts) {a n : Nat} {f : Nat → Int32} {i : Int32} {x : Int32} (hd : decode M.2.1 pc = .ok (.iastore, 1)) (hg : g a = some (.inl (1, n, .inl f))) (hin : vp_in i n) (k : zJ E (gS g a (.inl (1, n, .inl (upd f i.toNatClampNeg x)))) nx cells slots (pc + 1) lv rest) : zJ E g nx cells slots pc lv (.int x :: .int i :: .ref a :: rest) := by
  obtain ⟨⟨p, l', e, R, s, m, args, below, meth, c, Q⟩, D, τ, base⟩ := E
  obtain ⟨rfl, hx, hb, hml, hown, hts, hK, hN, hAO, hr, hlk, hnm, hRf, hRl, hRc, hRs, hbs⟩ := hE
  intro H locs ls hP hS hl
  refine W.iast hx hb (hP.2.2 a _ hg).2 ((hK.2 1 _ rfl).1 n (fun j => .int (f j))) (fun q => by cases q) (by show ¬ (i < 0 ∨ (arrV _ _ _).slots.size ≤ _); rw [arrV_size]; exact hin) rfl rfl hd fun H1 e1 z oq => ?_
  refine k H1 _ ls (gP_set hP hg ?_ z oq) (hS.put z oq (hP.2.2 a _ hg).1) hl
  show H1[a]? = some (vp_cell _ _)
  rw [e1]
  rw [vp_cell_i, vp_cell_i, arrV_store]
  congr 2
  funext q
  by_cases hq : q = i.toNatClampNeg
  · subst hq
    simp [updV, upd]
    try rfl
  · simp [updV, upd, hq]
theorem z_zast (hE : zOk E l M tc ts) {a n : Nat} {f : Nat → Int32} {i : Int32} {x : Int32} (hd : decode M.2.1 pc = .ok (.bastore, 1)) (hg : g a = some (.inl (2, n, .inl f))) (hin : vp_in i n) (k : zJ E (gS g a (.inl (2, n, .inl (upd f i.toNatClampNeg (vp_nar .boolean x))))) nx cells slots (pc + 1) lv rest) : zJ E g nx cells slots pc lv (.int x :: .int i :: .ref a :: rest) := by
  obtain ⟨⟨p, l', e, R, s, m, args, below, meth, c, Q⟩, D, τ, base⟩ := E
  obtain ⟨rfl, hx, hb, hml, hown, hts, hK, hN, hAO, hr, hlk, hnm, hRf, hRl, hRc, hRs, hbs⟩ := hE
  intro H locs ls hP hS hl
  refine W.zast hx hb (hP.2.2 a _ hg).2 ((hK.2 2 _ rfl).1 n (fun j => .int (f j))) (fun q => by cases q) (by show ¬ (i < 0 ∨ (arrV _ _ _).slots.size ≤ _); rw [arrV_size]; exact hin) rfl rfl hd fun H1 e1 z oq => ?_
  refine k H1 _ ls (gP_set hP hg ?_ z oq) (hS.put z oq (hP.2.2 a _ hg).1) hl
  show H1[a]? = some (vp_cell _ _)
  rw [e1]
  rw [vp_cell_i, vp_cell_i, arrV_store]
  congr 2
  funext q
  by_cases hq : q = i.toNatClampNeg
  · subst hq
    simp [updV, upd, vp_nar]
    try rfl
  · simp [updV, upd, hq]
end ZK
