/-! calls: the callee's own judgement, whatever it is, is walked into and out of -/
/-- a method that may be called: its words -/
def am_ok (y : am_I) : Prop := plainFor y.1 = true ∧ y.2.2.1 ≤ 41 ∧ ((y.2.2.2.2 = [] ∧ Cond.code y.1 y.2.1 y.2.2.1 y.2.2.2.1 ∈ am_tbl) ∨ Cond.codeWith y.1 y.2.1 y.2.2.1 y.2.2.2.1 y.2.2.2.2 ∈ am_tbl)
/-- the locals at a method's entry -/
def am_ent (as : List Value) (n : Nat) : List (Option Value) := let l := as.flatMap (fun v => if v.category = 2 then [some v, none] else [some v]); l ++ List.replicate (n - l.length) none
theorem am_ent_at (as : List Value) : ∀ (i : Nat) (v : Value), (as.flatMap (fun v => if v.category = 2 then [some v, none] else [some v]))[i]? = some (some v) → (lg_sl as)[i]? = some (.val v) := by
  induction as with
  | nil => intro i v h; simp at h
  | cons a t ih =>
    intro i v h
    by_cases ha : a.category = 2
    · simp only [List.flatMap_cons, if_pos ha, lg_sl] at h ⊢
      match i, h with
      | 0, h => simp at h ⊢; exact h
      | 1, h => simp at h
      | i + 2, h =>
        simp only [List.cons_append, List.nil_append, List.getElem?_cons_succ] at h ⊢
        exact ih i v h
    · simp only [List.flatMap_cons, if_neg ha, lg_sl] at h ⊢
      match i, h with
      | 0, h => simp at h ⊢; exact h
      | i + 1, h =>
        simp only [List.cons_append, List.nil_append, List.getElem?_cons_succ] at h ⊢
        exact ih i v h
theorem am_ent_len (as : List Value) : (as.flatMap (fun v => if v.category = 2 then [some v, none] else [some v])).length = (lg_sl as).length := by
  induction as with
  | nil => rfl
  | cons a t ih =>
    simp only [List.flatMap_cons, lg_sl, List.length_append] at ih ⊢
    rw [ih]
    by_cases ha : a.category = 2 <;> simp [ha]
theorem am_ent_ls {as : List Value} {n : Nat} (h : (lg_sl as).length ≤ n) : am_Ls n (lg_sl as ++ List.replicate (n - (lg_sl as).length) Slot.unset).toArray (am_ent as n) := by
  have h1 := lv_entry as (n := n) h
  refine ⟨⟨h1.1, h1.2.1, fun q hq => absurd hq List.not_mem_nil⟩, fun i v hi => ?_⟩
  simp only [am_ent] at hi
  rcases Nat.lt_or_ge i (as.flatMap (fun (v : Value) => if v.category = 2 then [some v, none] else [some v])).length with hl | hl
  · rw [List.getElem?_append_left hl] at hi
    have h2 := am_ent_at as i v hi
    have hl2 : i < (lg_sl as).length := by rw [← am_ent_len]; exact hl
    simp only [List.getElem?_toArray]
    rw [List.getElem?_append_left hl2]
    exact h2
  · rw [List.getElem?_append_right hl] at hi
    have := List.mem_of_getElem? hi
    rw [List.mem_replicate] at this
    cases this.2
theorem am_ns {g : am_G} {S : am_S} {R : Room} {s : State} {H : Heap} {locs : List Loc} {cells slots : Nat} (h : am_Hp g S R s H locs cells slots) {q : Nat} {cell : Cell} (hq : g.2.2.1 ≤ q) (hc : H[q]? = some cell) : cell.vm.isStatics = false := by
  have hlt : q < S.2.1 := by rw [← h.2.2.1]; exact (Array.getElem?_eq_some_iff.mp hc).1
  obtain ⟨e, he⟩ := h.2.1 q hq hlt
  have h1 := (h.1 q e he).2
  cases e with
  | inl x =>
    have h1 : H[q]? = some (vp_cell (g.2.1 x.1) x.2) := h1
    rw [hc] at h1
    cases h1
    obtain ⟨t, n, f | f | f | f | f⟩ := x <;> rfl
  | inr o =>
    obtain ⟨r, -, cell', g1, -, g3, -⟩ := h1
    rw [hc] at g1
    cases g1
    rw [g3]; rfl
theorem am_St.into {p : Program} {l : Launch} {e : Env} {R : Room} {s : State} {m : MethodId} {args : Array Value} {below : List Frame} {meth : Method} {c : Code} {T : State} {locs : List Loc} {cells slots : Nat} {g : am_G} {S : am_S} {gg : JFrame} {mk : MethodId} {a : Array Value}
    (h : am_St g l s) (hH : am_Hp g S R s T.heap locs cells slots) (X : Stand p l e R s m args below meth c T locs cells slots) : am_St g l (T.calling gg mk a) := by
  obtain ⟨h1, h2, h3, h4, h5, h6⟩ := h
  have hal : s.vm.Alike (T.calling gg mk a).vm := X.warmed.alike
  have hk : ∀ q : Nat, q < s.heap.size → ¬ (am_A g) q → (T.calling gg mk a).heap[q]? = s.heap[q]? := hH.2.2.2.1.2.1
  exact ⟨h1, vx_Zq.moved hal (h2.kept hk), vx_Zq.moved hal (h3.kept hk), fun q hq => (h4 q hq).moved hal, fun q hq => by
    obtain ⟨a, ha⟩ := h5 q hq
    exact ⟨a, vk_R.warm (U := T.calling gg mk _) X.warmed ha⟩, fun C hC => (h6 C hC).moved hal⟩
section AmCalls
variable {p : Program} {l : Launch} {e : Env} {R : Room} {s : State} {m : MethodId} {args : Array Value} {below : List Frame} {meth : Method} {c : Code} {T : State} {locs : List Loc} {cells slots : Nat}
variable {g : am_G} {d : Nat} {y y' : am_I} {S : am_S} {P P' : am_O → am_S → Prop}
/-- the callee's frame, from the caller's -/
theorem am_Fx.into (hF : am_Fx g (d + 1) y p l R s m args meth c) (hH : am_Hp g S R s T.heap locs cells slots) (X : Stand p l e R s m args below meth c T locs cells slots) (hy : am_ok y') {mk : MethodId} (hn : s.methodNamed? y'.1 = some mk) (gg : JFrame) (a : Array Value) :
    ∃ (methk : Method) (ck : Code), T.vm.method? mk = some methk ∧ methk.code = some ck ∧ methk.locks = false ∧ T.plainMethod mk ∧ ck.maxLocals = y'.2.2.1 ∧ am_Fx g d y' p l { frames := R.frames - 1, cells := R.cells - cells, slots := R.slots - slots, locals := R.locals - 60 } (T.calling gg mk a) mk a methk ck := by
  obtain ⟨hx, -, -, -, -, -, hts, -, -, hK, hfr, hlo, hSt⟩ := hF
  obtain ⟨hp, hm45, hw⟩ := hy
  have hal : s.vm.Alike T.vm := X.warmed.alike
  have hts2 : ∀ w ∈ am_tbl, w.before a (T.calling gg mk a) = true := fun w hw => am_word (U := T.calling gg mk a) X.warmed (List.mem_filter.mp hw).2 (hts w hw)
  have hn2 : (T.calling gg mk a).methodNamed? y'.1 = some mk := X.named hn
  have key : ∃ (methk : Method) (ck : Code), (T.calling gg mk a).vm.method? mk = some methk ∧ methk.code = some ck ∧ ck.code = y'.2.1 ∧ ck.maxLocals = y'.2.2.1 ∧ methk.sig.returnType = y'.2.2.2.1 ∧ methk.locks = false ∧ ck.exceptionTable.toList.map (fun h => (h.startPc, h.endPc, h.handlerPc, h.catchType)) = y'.2.2.2.2 := by
    rcases hw with ⟨h1, h2⟩ | h2
    · obtain ⟨methk, ck, q1, q2, q3, q4, q5, q6, q7, -⟩ := Cond.code_spec hn2 (hts2 _ h2)
      refine ⟨methk, ck, q1, q2, q3, q4, q5, q6, ?_⟩
      have : ck.exceptionTable = #[] := by simpa using q7
      rw [this, h1]; rfl
    · obtain ⟨mk', methk, ck, q0, q1, q2, q3, q4, q5, q6, q7, -⟩ := Cond.codeWith_spec (hts2 _ h2)
      cases hn2.symm.trans q0
      exact ⟨methk, ck, q1, q2, q3, q4, q6, q7, q5⟩
  obtain ⟨methk, ck, q1, q2, q3, q4, q5, q6, q7⟩ := key
  have hpl : (T.calling gg mk a).plainMethod mk := State.plainMethod.of_named hp hn2 q1
  refine ⟨methk, ck, q1, q2, q6, hpl, q4, hx, q3, q4, q5, (name_of_methodNamed hn2 q1).1, findClass_of_methodNamed hn2, hts2, q6, q7, va_K.moved hal hK, by show d + 6 ≤ R.frames - 1; omega, by show 60 * d + 100 ≤ R.locals - 60; omega, am_St.into hSt hH X⟩
theorem am_Hp.into (hH : am_Hp g S R s T.heap locs cells slots) (X : Stand p l e R s m args below meth c T locs cells slots) (gg : JFrame) (mk : MethodId) (a : Array Value) (f lo : Nat) :
    am_Hp g S { frames := f, cells := R.cells - cells, slots := R.slots - slots, locals := lo } (T.calling gg mk a) T.heap [] 0 0 := by
  obtain ⟨h1, h2, h3, h4, h5, h6, h7, h8, h9, h10, h11, h12⟩ := id hH
  refine ⟨h1, h2, h3, va_S.rf, fun q cell hq hc => am_ns hH hq hc, by show S.2.1 + (R.cells - cells) = g.2.2.2.1 + 0; omega, Nat.zero_le _, by show S.2.2 + (R.slots - slots) = g.2.2.2.2.1 + 0; omega, Nat.zero_le _, Nat.le_trans h10 h4.1, ?_, h12⟩
  exact (va_X.moved (U := T.calling gg mk a) X.warmed.alike h11).kept (h4.2.1 _ (Nat.lt_of_lt_of_le h12 h10) (Nat.not_le.mpr h12))
theorem am_Hp.outOf {T2 : State} {S1 : am_S} {L : List Loc} {k j f lo : Nat} {gg : JFrame} {mk : MethodId} {a : Array Value} (hH : am_Hp g S R s T.heap locs cells slots) (h : am_Hp g S1 { frames := f, cells := R.cells - cells, slots := R.slots - slots, locals := lo } (T.calling gg mk a) T2.heap L k j) : am_Hp g S1 R s T2.heap (locs ++ L) (cells + k) (slots + j) := by
  obtain ⟨h1, h2, h3, h4, h5, h6, h7, h8, h9, h10, h11, h12⟩ := hH
  obtain ⟨i1, i2, i3, i4, i5, i6, i7, i8, i9, -⟩ := h
  have i6 : S1.2.1 + (R.cells - cells) = g.2.2.2.1 + k := i6
  have i7 : k ≤ R.cells - cells := i7
  have i8 : S1.2.2 + (R.slots - slots) = g.2.2.2.2.1 + j := i8
  have i9 : j ≤ R.slots - slots := i9
  have i4 : va_S (am_A g) T.heap T2.heap L := i4
  refine ⟨i1, i2, i3, ⟨Nat.le_trans h4.1 i4.1, fun q q1 q2 => (i4.2.1 q (Nat.lt_of_lt_of_le q1 h4.1) q2).trans (h4.2.1 q q1 q2), fun q hq => ?_⟩, h5, by omega, by omega, by omega, by omega, h10, h11, h12⟩
  rcases List.mem_append.mp hq with hq | hq
  · exact h4.2.2 q hq
  · exact i4.2.2 q hq
/-- into a callee, and out of it -/
theorem am_run (X : Stand p l e R s m args below meth c T locs cells slots) (hF : am_Fx g (d + 1) y p l R s m args meth c) (hH : am_Hp g S R s T.heap locs cells slots) (hy : am_ok y') {mk : MethodId} (hn : s.methodNamed? y'.1 = some mk) {gg : JFrame} (hg : gg.method = m) (hsize : gg.locals.size = c.maxLocals) (hmr : gg.monitorRoom = 0) {ig : Instr} {len : Nat} (hdg : decode c.code gg.pc = .ok (ig, len)) {as : List Value} (hlen : (lg_sl as).length ≤ y'.2.2.1) (hw : (gg.stack.map fun v => v.category).sum ≤ 8)
    (hc : am_W g d y' (0, am_ent as y'.2.2.1, []) S P') (acts : List Action) :
    ∃ (t : State), Steps p.tables e below (doInvoke e (T.setTop gg) acts mk as.toArray).1 t ∧
      ((∃ (v : Option Value) (S1 : am_S) (T2 : State) (L : List Loc) (k j : Nat), P' (.inl v) S1 ∧ Stand p l e R s m args below meth c T2 (locs ++ L) (cells + k) (slots + j) ∧ am_Hp g S1 R s T2.heap (locs ++ L) (cells + k) (slots + j) ∧ t = T2.setTop { gg with pc := gg.pc + len, stack := v.toList ++ gg.stack }) ∨
       (∃ (x : Nat) (S1 : am_S) (T2 : State) (L : List Loc) (k j : Nat), P' (.inr x) S1 ∧ Stand p l e R s m args below meth c T2 (locs ++ L) (cells + k) (slots + j) ∧ am_Hp g S1 R s T2.heap (locs ++ L) (cells + k) (slots + j) ∧ t = (T2.setTop gg).pushFrame (.throwing x))) := by
  obtain ⟨methk, ck, hmk, hck, hlk, hpk, hml, hFk⟩ := hF.into hH X hy hn gg as.toArray
  have hfr : d + 1 + 6 ≤ R.frames := hF.2.2.2.2.2.2.2.2.2.2.1
  have hlo : 60 * (d + 1) + 100 ≤ R.locals := hF.2.2.2.2.2.2.2.2.2.2.2.1
  have h45 := hy.2.1
  have hcl : cells ≤ R.cells := hH.2.2.2.2.2.2.1
  have hsl : slots ≤ R.slots := hH.2.2.2.2.2.2.2.2.1
  obtain ⟨Y0, hin⟩ := X.into hg hsize hdg as.toArray (R' := { frames := R.frames - 1, cells := R.cells - cells, slots := R.slots - slots, locals := R.locals - 60 }) hmk hck hlk hpk (by show R.frames - 1 + 1 ≤ R.frames; omega) (by rw [hmr, hml]; show 2 * 0 + _ + _ + (R.locals - 60) ≤ R.locals; omega) (by show cells + (R.cells - cells) ≤ R.cells; omega) (by show slots + (R.slots - slots) ≤ R.slots; omega)
  have hent : entryFrame mk as.toArray ck.maxLocals = F0 mk 0 ((lg_sl as ++ List.replicate (ck.maxLocals - (lg_sl as).length) Slot.unset).toArray) [] := lg_entry_eq mk as ck.maxLocals
  have hheap : ((T.setTop gg).pushFrame (.java (entryFrame mk as.toArray ck.maxLocals))).heap = T.heap := by simp [State.pushFrame, State.setFrames, State.setTop, State.modifyTopJava]
  obtain ⟨t, hst, o, S1, L, k, j, hP, hrun, hend, hW, hsame, hH1⟩ := hc p l e _ _ mk as.toArray (.java gg :: below) methk ck T.heap [] 0 0 _ hFk (hH.into X gg mk as.toArray _ _) (am_ent_ls hlen) _ hheap Y0
  refine ⟨t, ?_, ?_⟩
  · have h9 := Steps.weaken (mid := [.java gg]) hst
    rw [hml] at hent
    rw [hin acts]
    generalize (T.setTop gg).pushFrame (.java (entryFrame mk as.toArray ck.maxLocals)) = U9 at h9 ⊢
    rw [hml, hent]
    exact h9
  · cases o with
    | inl v =>
      obtain ⟨T2, X2, hW2, -, ht⟩ := X.outOf hg hdg hend hW hsame
      have hh : t.heap = T2.heap := by rw [ht]; simp [State.setTop, State.modifyTopJava]
      rw [hh] at hH1
      exact Or.inl ⟨v, S1, T2, L, k, j, hP, X2, hH.outOf hH1, ht⟩
    | inr x =>
      obtain ⟨T2, X2, hW2, -, ht⟩ := X.outOfThrown hg hend hW hsame
      have hh : t.heap = T2.heap := by rw [ht]; simp [State.pushFrame, State.setFrames, State.setTop, State.modifyTopJava]
      rw [hh] at hH1
      exact Or.inr ⟨x, S1, T2, L, k, j, hP, X2, hH.outOf hH1, ht⟩
end AmCalls
section AmCallRows
variable {g : am_G} {d : Nat} {y y' : am_I} {pc : Nat} {L : List (Option Value)} {st rest as : List Value} {S : am_S} {P P' : am_O → am_S → Prop}
/-- what happens to a throw that comes out of the call at pc: no handler there (nh), or one -/
def am_Cat (g : am_G) (d : Nat) (y : am_I) (pc : Nat) (L : List (Option Value)) (x : Nat) (S : am_S) (P : am_O → am_S → Prop) : Prop :=
  ∀ (p : Program) (l : Launch) (e : Env) (R : Room) (s : State) (m : MethodId) (args : Array Value) (below : List Frame) (meth : Method) (c : Code) (T : State) (locs : List Loc) (cells slots : Nat) (ls : Array Slot) (rest : List Value),
    am_Fx g d y p l R s m args meth c → am_Hp g S R s T.heap locs cells slots → am_Ls y.2.2.1 ls L → Stand p l e R s m args below meth c T locs cells slots →
    ∃ t, Steps p.tables e below ((T.setTop (F0 m pc ls rest)).pushFrame (.throwing x)) t ∧ am_Q g R s below P t
theorem am_catNo {x : Nat} (hh : y.2.2.2.2 = []) (hP : P (.inr x) S) : am_Cat g d y pc L x S P := by
  intro p l e R s m args below meth c T locs cells slots ls rest hF hH hL X
  have he : c.exceptionTable.toList.map (fun h => (h.startPc, h.endPc, h.handlerPc, h.catchType)) = [] := hF.2.2.2.2.2.2.2.2.1.trans hh
  have he2 : c.exceptionTable.toList = [] := List.map_eq_nil_iff.mp he
  obtain ⟨a1, a2, a3, a4, a5⟩ := X.leaveThrown x (g := F0 m pc ls rest) rfl rfl rfl (fun q hq => by rw [he2] at hq; cases hq) hF.2.2.2.2.2.2.2.1
  exact ⟨_, a1, .inr x, S, locs, cells, slots, hP, a2, a3, a4, a5, hH⟩
def am_cS (own : String) (ix : Nat) (y' : am_I) (n : Nat) : Prop := am_ok y' ∧ Cond.methodLink own ix y'.1 ∈ am_tbl ∧ Cond.static y'.1 ∈ am_tbl ∧ Cond.initialized y'.1.cls ∈ am_tbl ∧ (y'.1.cls ≠ "java/lang/invoke/MethodHandle" ∧ y'.1.cls ≠ "java/lang/invoke/VarHandle") ∧ ∃ sig, parseMethodDescriptor y'.1.desc = some sig ∧ sig.parameters.length = n
def am_cV (own : String) (ix : Nat) (y' : am_I) (ci n : Nat) : Prop := am_ok y' ∧ Cond.methodLink own ix y'.1 ∈ am_tbl ∧ Cond.instanceMethod y'.1 ∈ am_tbl ∧ Cond.selects y'.1.cls y'.1 y'.1 ∈ am_tbl ∧ (∃ (T : u_T) (N : Nat), am_cl[ci]? = some (y'.1.cls, T, N)) ∧ (y'.1.cls ≠ "java/lang/invoke/MethodHandle" ∧ y'.1.cls ≠ "java/lang/invoke/VarHandle") ∧ ∃ sig, parseMethodDescriptor y'.1.desc = some sig ∧ sig.parameters.length = n
def am_cI (own : String) (ix : Nat) (y' : am_I) (n : Nat) : Prop := am_ok y' ∧ y'.1.name = "<init>" ∧ y'.2.2.2.1 = none ∧ y'.2.2.2.2 = [] ∧ Cond.methodLink own ix y'.1 ∈ am_tbl ∧ Cond.instanceMethod y'.1 ∈ am_tbl ∧ Cond.code y'.1 y'.2.1 y'.2.2.1 none ∈ am_tbl ∧ (y'.1.cls ≠ "java/lang/invoke/MethodHandle" ∧ y'.1.cls ≠ "java/lang/invoke/VarHandle") ∧ ∃ sig, parseMethodDescriptor y'.1.desc = some sig ∧ sig.parameters.length = n
theorem am_callS {ix n : Nat} (as rest : List Value) (hd : decode y.2.1 pc = .ok (.invokestatic ix, 3)) (hc : am_cS y.1.cls ix y' n) (hn : as.length = n) (hst : st = as.reverse ++ rest) (hl : (lg_sl as).length ≤ y'.2.2.1) (hw : (rest.map fun v => v.category).sum ≤ 8)
    (hm : am_W g d y' (0, am_ent as y'.2.2.1, []) S P') (k : ∀ v S1, P' (.inl v) S1 → am_W g (d + 1) y (pc + 3, L, v.toList ++ rest) S1 P) (kt : ∀ x S1, P' (.inr x) S1 → am_Cat g (d + 1) y pc L x S1 P) : am_W g (d + 1) y (pc, L, st) S P := by
  intro p l e R s m args below meth c H locs cells slots ls hF hH hL T hT X
  obtain ⟨hx, hb, hml, -, -, hown, hts, -⟩ := id hF
  obtain ⟨hok, h1, h2, h3, h4, sig, h5, h6⟩ := hc
  subst hT
  subst hst
  have hnamed : ∃ mk, s.methodNamed? y'.1 = some mk := by
    rcases hok.2.2 with ⟨-, q⟩ | q
    · exact Cond.code_named (hts _ q)
    · obtain ⟨mk, _, _, q0, -⟩ := Cond.codeWith_spec (hts _ q); exact ⟨mk, q0⟩
  obtain ⟨mk, hnamed⟩ := hnamed
  obtain ⟨methM, hmethM, hsigM⟩ : ∃ methM, s.vm.method? mk = some methM ∧ parseMethodDescriptor y'.1.desc = some methM.sig := by
    rcases hok.2.2 with ⟨-, q⟩ | q
    · obtain ⟨methM, _, q1, -, -, -, -, -, -, q2⟩ := Cond.code_spec hnamed (hts _ q); exact ⟨methM, q1, q2⟩
    · obtain ⟨mk', methM, _, q0, q1, -, -, -, -, -, -, q2⟩ := Cond.codeWith_spec (hts _ q)
      cases hnamed.symm.trans q0
      exact ⟨methM, q1, q2⟩
  have hstatic : methM.isStatic = true := Cond.static_spec hnamed hmethM (hts _ h2)
  obtain ⟨kP, hkP, -⟩ := className_of_methodNamed hnamed
  have hinitP : kP.init = .initialized := Cond.initialized_spec (findClass_of_methodNamed hnamed) hkP (hts _ h3)
  have hlen : as.length = methM.sig.parameters.length := by
    rw [h5] at hsigM
    rw [← Option.some.inj hsigM, h6, hn]
  obtain ⟨vm1, X1, hstep⟩ := X.invokestatic hx hown (hts _ h1) hnamed hmethM hstatic hkP hinitP h4 (g := F0 m pc ls (as.reverse ++ rest)) rfl (argsL := as) (rest := rest) hlen rfl (by rw [hb]; exact hd)
  obtain ⟨t, hsteps, hr⟩ := am_run (T := T.setVm vm1) X1 hF hH hok hnamed (gg := F0 m pc ls rest) rfl (hL.1.1.trans hml.symm) rfl (ig := .invokestatic ix) (len := 3) (by rw [hb]; exact hd) hl hw hm []
  rcases hr with ⟨v, S1, T2, L2, k2, j2, hP1, X2, hH2, ht⟩ | ⟨x, S1, T2, L2, k2, j2, hP1, X2, hH2, ht⟩
  · obtain ⟨t2, a1, b1⟩ := k v S1 hP1 p l e R s m args below meth c T2.heap _ _ _ ls hF hH2 hL T2 rfl X2
    exact ⟨t2, hstep _ (fun acts => by rw [doInvoke_state]; exact hsteps.trans (by rw [ht]; exact a1)), b1⟩
  · obtain ⟨t2, a1, b1⟩ := kt x S1 hP1 p l e R s m args below meth c T2 _ _ _ ls rest hF hH2 hL X2
    exact ⟨t2, hstep _ (fun acts => by rw [doInvoke_state]; exact hsteps.trans (by rw [ht]; exact a1)), b1⟩
theorem am_callV {ix ci n b : Nat} {fs : List Value} (as rest : List Value) (hd : decode y.2.1 pc = .ok (.invokevirtual ix, 3)) (hc : am_cV y.1.cls ix y' ci n) (hM : S.1 b = some (.inr (ci, fs))) (hn : as.length = n) (hst : st = as.reverse ++ .ref b :: rest) (hl : (lg_sl (.ref b :: as)).length ≤ y'.2.2.1) (hw : (rest.map fun v => v.category).sum ≤ 8)
    (hm : am_W g d y' (0, am_ent (.ref b :: as) y'.2.2.1, []) S P') (k : ∀ v S1, P' (.inl v) S1 → am_W g (d + 1) y (pc + 3, L, v.toList ++ rest) S1 P) (kt : ∀ x S1, P' (.inr x) S1 → am_Cat g (d + 1) y pc L x S1 P) : am_W g (d + 1) y (pc, L, st) S P := by
  intro p l e R s m args below meth c H locs cells slots ls hF hH hL T hT X
  obtain ⟨hx, hb, hml, -, -, hown, hts, -, -, hK, -⟩ := id hF
  obtain ⟨hok, h1, h2, h3, ⟨TC, NC, hcl⟩, h4, sig, h5, h6⟩ := hc
  subst hT
  subst hst
  obtain ⟨mk, methM, hnamed, hmethM, hstM, habM⟩ := Cond.instanceMethod_spec (hts _ h2)
  obtain ⟨methM', hmethM', hsigM⟩ : ∃ methM, s.vm.method? mk = some methM ∧ parseMethodDescriptor y'.1.desc = some methM.sig := by
    rcases hok.2.2 with ⟨-, q⟩ | q
    · obtain ⟨methM, _, q1, -, -, -, -, -, -, q2⟩ := Cond.code_spec hnamed (hts _ q); exact ⟨methM, q1, q2⟩
    · obtain ⟨mk', methM, _, q0, q1, -, -, -, -, -, -, q2⟩ := Cond.codeWith_spec (hts _ q)
      cases hnamed.symm.trans q0
      exact ⟨methM, q1, q2⟩
  cases hmethM.symm.trans hmethM'
  obtain ⟨cellB, hcB, hoB, hclB⟩ := va_recv (q0 := 0) hK (hH.one hM) hcl rfl
  have hclB : s.vm.findClass y'.1.cls = some cellB.cls := hclB
  obtain ⟨c2, r2, m2, q1, q2, q3, q4, kP, hkP, hkPi⟩ := Cond.selects_spec (hts _ h3)
  cases hclB.symm.trans q1
  cases (State.methodFound?_of_named hnamed h4).symm.trans q2
  cases hnamed.symm.trans q3
  have hselP : selectMethod e.platform s.vm cellB.cls mk = .method mk := by rw [Launch.admits_selectMethod X.admits]; exact q4
  have hlen : as.length = methM.sig.parameters.length := by
    rw [h5] at hsigM
    rw [← Option.some.inj hsigM, h6, hn]
  obtain ⟨vm1, X1, hstep⟩ := X.invokevirtual hx hown (hts _ h1) hnamed hmethM hstM hkP hkPi h4 (a := b) (cell := cellB) hcB (fun z h => by rw [h] at hoB; cases hoB) hselP hmethM habM hkP hkPi (g := F0 m pc ls (as.reverse ++ .ref b :: rest)) rfl (argsL := as) (rest := rest) hlen rfl (by rw [hb]; exact hd)
  obtain ⟨t, hsteps, hr⟩ := am_run (T := T.setVm vm1) X1 hF hH hok hnamed (gg := F0 m pc ls rest) rfl (hL.1.1.trans hml.symm) rfl (ig := .invokevirtual ix) (len := 3) (by rw [hb]; exact hd) (as := .ref b :: as) hl hw hm []
  rcases hr with ⟨v, S1, T2, L2, k2, j2, hP1, X2, hH2, ht⟩ | ⟨x, S1, T2, L2, k2, j2, hP1, X2, hH2, ht⟩
  · obtain ⟨t2, a1, b1⟩ := k v S1 hP1 p l e R s m args below meth c T2.heap _ _ _ ls hF hH2 hL T2 rfl X2
    exact ⟨t2, hstep _ (fun acts => by rw [doInvoke_state]; exact hsteps.trans (by rw [ht]; exact a1)), b1⟩
  · obtain ⟨t2, a1, b1⟩ := kt x S1 hP1 p l e R s m args below meth c T2 _ _ _ ls rest hF hH2 hL X2
    exact ⟨t2, hstep _ (fun acts => by rw [doInvoke_state]; exact hsteps.trans (by rw [ht]; exact a1)), b1⟩
theorem am_callI {ix n b : Nat} (as rest : List Value) (hd : decode y.2.1 pc = .ok (.invokespecial ix, 3)) (hc : am_cI y.1.cls ix y' n) (hn : as.length = n) (hst : st = as.reverse ++ .ref b :: rest) (hl : (lg_sl (.ref b :: as)).length ≤ y'.2.2.1) (hw : (rest.map fun v => v.category).sum ≤ 8)
    (hm : am_W g d y' (0, am_ent (.ref b :: as) y'.2.2.1, []) S P') (k : ∀ v S1, P' (.inl v) S1 → am_W g (d + 1) y (pc + 3, L, v.toList ++ rest) S1 P) (kt : ∀ x S1, P' (.inr x) S1 → am_Cat g (d + 1) y pc L x S1 P) : am_W g (d + 1) y (pc, L, st) S P := by
  intro p l e R s m args below meth c H locs cells slots ls hF hH hL T hT X
  obtain ⟨hx, hb, hml, -, -, hown, hts, -, -, hK, -⟩ := id hF
  obtain ⟨hok, hin1, hrt, hhs, h1, h2, h3, h4, sig, h5, h6⟩ := hc
  subst hT
  subst hst
  have hpl : e.platform.magicAccessors = ({} : Platform).magicAccessors := by rw [X.admits.platform]
  obtain ⟨mk, methM, cM, kP, vm1, hnamed, hmethM, hcodeM, -, hlocalsM, -, hkP, -, hW1, hstep⟩ := Steps.initColdArgs (e := e) X.here hx X.warmed hpl hown hin1 h4 (hts _ h1) (hts _ h2) (hts _ h3) (f := F0 m pc ls (as.reverse ++ .ref b :: rest)) rfl (argsL := as) (rest := rest) (fun sg hs => by rw [h5] at hs; rw [← Option.some.inj hs, h6, hn]) rfl (by rw [hb]; exact hd)
  have X1 := X.noted hW1
  obtain ⟨t, hsteps, hr⟩ := am_run (T := T.setVm vm1) X1 hF hH hok hnamed (gg := F0 m pc ls rest) rfl (hL.1.1.trans hml.symm) rfl (ig := .invokespecial ix) (len := 3) (by rw [hb]; exact hd) (as := .ref b :: as) hl hw hm []
  rcases hr with ⟨v, S1, T2, L2, k2, j2, hP1, X2, hH2, ht⟩ | ⟨x, S1, T2, L2, k2, j2, hP1, X2, hH2, ht⟩
  · obtain ⟨t2, a1, b1⟩ := k v S1 hP1 p l e R s m args below meth c T2.heap _ _ _ ls hF hH2 hL T2 rfl X2
    exact ⟨t2, hstep _ (fun acts => by rw [doInvoke_state]; exact hsteps.trans (by rw [ht]; exact a1)), b1⟩
  · obtain ⟨t2, a1, b1⟩ := kt x S1 hP1 p l e R s m args below meth c T2 _ _ _ ls rest hF hH2 hL X2
    exact ⟨t2, hstep _ (fun acts => by rw [doInvoke_state]; exact hsteps.trans (by rw [ht]; exact a1)), b1⟩
end AmCallRows
