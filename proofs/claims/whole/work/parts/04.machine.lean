/-! the abstract machine: the heap's own cells as a map; am_W: from this frame, with these cells, it ends with P -/
abbrev am_M : Type := Nat → Option va_E
/-- the cells, how many cells the heap has, the slots used -/
abbrev am_S : Type := am_M × Nat × Nat
abbrev am_F : Type := Nat × List (Option Value) × List Value
/-- returned, or threw -/
abbrev am_O : Type := Option Value ⊕ Nat
/-- a method: name, bytes, locals, what it returns, handlers -/
abbrev am_I : Type := MethodName × ByteArray × Nat × Option FieldType × List (Nat × Nat × Nat × Nat)
/-- D, the classes of arrays, the first own cell, the cells' and slots' ends, the script -/
abbrev am_G : Type := va_G × (Nat → ClassId) × Nat × Nat × Nat × Nat × Nat × (Nat → Int32)
abbrev am_A (g : am_G) : Nat → Prop := fun q : Nat => g.2.2.1 ≤ q
def am_tr (K : Nat → ClassId) (e : va_E) : va_E := match e with
  | .inl x => .inl (K x.1, x.2)
  | .inr o => .inr o
def am_tys (g : am_G) : List (ClassId × FieldType) := am_tyl.zipIdx.map (fun q => (g.2.1 q.2, q.1))
theorem am_tys_at {g : am_G} {t : Nat} {ty : FieldType} (h : am_tyl[t]? = some ty) : (am_tys g)[t]? = some (g.2.1 t, ty) := by
  simp [am_tys, List.getElem?_map, List.getElem?_zipIdx, h]
def am_up (M : am_M) (a : Nat) (e : va_E) : am_M := fun q => if q = a then some e else M q
theorem am_up_s {M : am_M} {a : Nat} {e : va_E} : am_up M a e a = some e := by simp [am_up]
theorem am_up_n {M : am_M} {a b : Nat} {e : va_E} (h : b ≠ a) : am_up M a e b = M b := by simp [am_up, h]
/-- what is known of the launch and of cells that nobody writes -/
def am_St (g : am_G) (l : Launch) (s : State) : Prop :=
  l.stackTraces = false ∧ vx_Zq Bundle.tN "UNASSIGNED_STACK" Bundle.steD (am_A g) s s.heap ∧ vx_Zq Bundle.tN "SUPPRESSED_SENTINEL" Bundle.listD (am_A g) s s.heap ∧ (∀ q ∈ am_ncl, va_Nc q.1 q.2 s) ∧ (∀ q ∈ am_strs, ∃ a : Nat, vk_R q.1 q.2.1 q.2.2 a s) ∧ ∀ C ∈ am_aos, va_AO C s
/-- what is known of the frame -/
def am_Fx (g : am_G) (d : Nat) (y : am_I) (p : Program) (l : Launch) (R : Room) (s : State) (m : MethodId) (args : Array Value) (meth : Method) (c : Code) : Prop :=
  p.tables.exec = Jvm.exec ∧ c.code = y.2.1 ∧ c.maxLocals = y.2.2.1 ∧ meth.sig.returnType = y.2.2.2.1 ∧ meth.name = y.1.name ∧ s.vm.findClass y.1.cls = some m.cls ∧ (∀ w ∈ am_tbl, w.before args s = true) ∧ meth.locks = false ∧
  c.exceptionTable.toList.map (fun h => (h.startPc, h.endPc, h.handlerPc, h.catchType)) = y.2.2.2.2 ∧ va_K g.1 am_cl (am_tys g) s ∧ d + 6 ≤ R.frames ∧ 60 * d + 100 ≤ R.locals ∧ am_St g l s
/-- the heap holds the cells -/
def am_Hp (g : am_G) (S : am_S) (R : Room) (s : State) (H : Heap) (locs : List Loc) (cells slots : Nat) : Prop :=
  (∀ (a : Nat) (e : va_E), S.1 a = some e → g.2.2.1 ≤ a ∧ va_at g.1 am_cl (a, am_tr g.2.1 e) H) ∧ (∀ q : Nat, g.2.2.1 ≤ q → q < S.2.1 → ∃ e, S.1 q = some e) ∧ H.size = S.2.1 ∧ va_S (am_A g) s.heap H locs ∧
  (∀ (q : Nat) (cell : Cell), g.2.2.1 ≤ q → s.heap[q]? = some cell → cell.vm.isStatics = false) ∧ S.2.1 + R.cells = g.2.2.2.1 + cells ∧ cells ≤ R.cells ∧ S.2.2 + R.slots = g.2.2.2.2.1 + slots ∧ slots ≤ R.slots ∧ g.2.2.1 ≤ s.heap.size ∧
  va_X g.2.2.2.2.2.1 g.2.2.2.2.2.2.1 g.2.2.2.2.2.2.2 s s.heap ∧ g.2.2.2.2.2.1 < g.2.2.1
/-- the frame holds the locals -/
def am_Ls (n : Nat) (ls : Array Slot) (L : List (Option Value)) : Prop := lv_has ls n [] ∧ ∀ (i : Nat) (v : Value), L[i]? = some (some v) → ls[i]? = some (.val v)
def am_out (o : am_O) : Outcome := match o with
  | .inl v => .returned v
  | .inr a => .threw a
/-- the end -/
def am_Q (g : am_G) (R : Room) (s : State) (below : List Frame) (P : am_O → am_S → Prop) (t : State) : Prop :=
  ∃ (o : am_O) (S : am_S) (L : List Loc) (k j : Nat), P o S ∧ t.status = .running ∧ Ended t below (am_out o) ∧ s.WarmedH t.vm ∧ s.sameButNew ({ t with vm := s.vm } : State) L k j ∧ am_Hp g S R s t.heap L k j
def am_W (g : am_G) (d : Nat) (y : am_I) (F : am_F) (S : am_S) (P : am_O → am_S → Prop) : Prop :=
  ∀ (p : Program) (l : Launch) (e : Env) (R : Room) (s : State) (m : MethodId) (args : Array Value) (below : List Frame) (meth : Method) (c : Code) (H : Heap) (locs : List Loc) (cells slots : Nat) (ls : Array Slot),
    am_Fx g d y p l R s m args meth c → am_Hp g S R s H locs cells slots → am_Ls y.2.2.1 ls F.2.1 → W p l e R s m args below meth c H locs cells slots (am_Q g R s below P) (F0 m F.1 ls F.2.2)
theorem am_mono {g : am_G} {d : Nat} {y : am_I} {F : am_F} {S : am_S} {P P' : am_O → am_S → Prop} (h : ∀ o S', P o S' → P' o S') (k : am_W g d y F S P) : am_W g d y F S P' := by
  intro p l e R s m args below meth c H locs cells slots ls hF hH hL T hT X
  obtain ⟨t, a, o, S', L, k1, j1, b1, b2⟩ := k p l e R s m args below meth c H locs cells slots ls hF hH hL T hT X
  exact ⟨t, a, o, S', L, k1, j1, h o S' b1, b2⟩
/-- the map changes at one cell -/
theorem am_Hp.put {g : am_G} {S : am_S} {R : Room} {s : State} {H H1 : Heap} {locs : List Loc} {cells slots a i : Nat} {e0 e1 : va_E} (h : am_Hp g S R s H locs cells slots) (h0 : S.1 a = some e0) (he : va_at g.1 am_cl (a, am_tr g.2.1 e1) H1) (z : H1.size = H.size) (oq : ∀ q : Nat, q ≠ a → H1[q]? = H[q]?) :
    am_Hp g (am_up S.1 a e1, S.2) R s H1 (locs ++ [⟨a, i⟩]) cells slots := by
  obtain ⟨h1, h2, h3, h4, h5⟩ := h
  refine ⟨fun b e hb => ?_, fun q q1 q2 => ?_, z.trans h3, h4.put z oq (h1 a e0 h0).1, h5⟩
  · by_cases hba : b = a
    · subst hba
      have hb : am_up S.1 b e1 b = some e := hb
      rw [am_up_s] at hb
      cases hb
      exact ⟨(h1 b e0 h0).1, he⟩
    · have hb : am_up S.1 a e1 b = some e := hb
      rw [am_up_n hba] at hb
      exact ⟨(h1 b e hb).1, (h1 b e hb).2.kept (oq b hba)⟩
  · by_cases hqa : q = a
    · exact ⟨e1, by rw [hqa]; exact am_up_s⟩
    · obtain ⟨e, he⟩ := h2 q q1 q2
      exact ⟨e, (am_up_n hqa).trans he⟩
/-- a cell comes -/
theorem am_Hp.new {g : am_G} {S : am_S} {R : Room} {s : State} {H H1 : Heap} {locs : List Loc} {cells slots N : Nat} {e1 : va_E} (h : am_Hp g S R s H locs cells slots) (he : va_at g.1 am_cl (S.2.1, am_tr g.2.1 e1) H1) (z : H1.size = H.size + 1) (oq : ∀ q : Nat, q < H.size → H1[q]? = H[q]?) (hc : S.2.1 + 1 ≤ g.2.2.2.1) (hz : S.2.2 + N ≤ g.2.2.2.2.1) :
    am_Hp g (am_up S.1 S.2.1 e1, S.2.1 + 1, S.2.2 + N) R s H1 locs (cells + 1) (slots + N) := by
  obtain ⟨h1, h2, h3, h4, h5, h6, h7, h8, h9, h10, h11⟩ := h
  have hb : g.2.2.1 ≤ H.size := Nat.le_trans h10 h4.1
  refine ⟨fun b e hbe => ?_, fun q q1 q2 => ?_, by rw [z, h3], ⟨Nat.le_trans h4.1 (by omega), fun q q1 q2 => (oq q (Nat.lt_of_lt_of_le q1 h4.1)).trans (h4.2.1 q q1 q2), h4.2.2⟩, h5, by show S.2.1 + 1 + R.cells = g.2.2.2.1 + (cells + 1); omega, by omega, by show S.2.2 + N + R.slots = g.2.2.2.2.1 + (slots + N); omega, by omega, h10, h11⟩
  · have hbe : am_up S.1 S.2.1 e1 b = some e := hbe
    by_cases hba : b = S.2.1
    · subst hba
      rw [am_up_s] at hbe
      cases hbe
      exact ⟨by rw [← h3]; exact hb, he⟩
    · rw [am_up_n hba] at hbe
      exact ⟨(h1 b e hbe).1, (h1 b e hbe).2.kept (oq b ((h1 b e hbe).2.lt))⟩
  · have q2 : q < S.2.1 + 1 := q2
    by_cases hqa : q = S.2.1
    · exact ⟨e1, by rw [hqa]; exact am_up_s⟩
    · obtain ⟨e, he⟩ := h2 q q1 (by omega)
      exact ⟨e, (am_up_n hqa).trans he⟩
theorem am_Hp.one {g : am_G} {S : am_S} {R : Room} {s : State} {H : Heap} {locs : List Loc} {cells slots a : Nat} {e0 : va_E} (h : am_Hp g S R s H locs cells slots) (h0 : S.1 a = some e0) : va_P g.1 am_cl [(a, am_tr g.2.1 e0)] H := by
  intro k q hk
  have hz : k < 1 := (List.getElem?_eq_some_iff.mp hk).1
  rw [show k = 0 by omega] at hk
  cases hk
  exact (h.1 a e0 h0).2
/-- locals -/
def am_gd (L : List (Option Value)) (i : Nat) : Bool := match i with
  | 0 => true
  | j + 1 => match L[j]? with
    | some (some v) => v.category == 1
    | _ => true
def am_ll (L : List (Option Value)) : List (Nat × Value) := L.zipIdx.filterMap (fun q => q.1.map (fun v => (q.2, v)))
theorem am_ll_mem {L : List (Option Value)} {i : Nat} {v : Value} : (i, v) ∈ am_ll L ↔ L[i]? = some (some v) := by
  simp only [am_ll, List.mem_filterMap, Option.map_eq_some_iff, Prod.mk.injEq, Prod.exists, List.mk_mem_zipIdx_iff_getElem?]
  constructor
  · rintro ⟨a, b, h1, w, h2, h3, h4⟩
    subst h2; subst h3; subst h4
    exact h1
  · intro h
    exact ⟨some v, i, h, v, rfl, rfl, rfl⟩
theorem am_Ls.ll {n : Nat} {ls : Array Slot} {L : List (Option Value)} (h : am_Ls n ls L) : lv_has ls n (am_ll L) := ⟨h.1.1, h.1.2.1, fun q hq => h.2 q.1 q.2 (am_ll_mem.mp hq)⟩
theorem am_Ls.of {n : Nat} {ls : Array Slot} {L : List (Option Value)} {l : List (Nat × Value)} (h : lv_has ls n l) (hl : ∀ (i : Nat) (v : Value), L[i]? = some (some v) → (i, v) ∈ l) : am_Ls n ls L := ⟨⟨h.1, h.2.1, fun q hq => absurd hq List.not_mem_nil⟩, fun i v hi => h.2.2 (i, v) (hl i v hi)⟩
theorem am_gd_spec {L : List (Option Value)} {i j : Nat} {v : Value} (h : am_gd L i = true) (hj : L[j]? = some (some v)) (e : j + 1 = i) : v.category = 1 := by
  subst e
  simpa [am_gd, hj] using h
theorem am_st1 {n : Nat} {ls : Array Slot} {L : List (Option Value)} {i : Nat} {v : Value} {ls' : Array Slot} (hg : am_gd L i = true) (h : lv_has ls' n ((i, v) :: (am_ll L).filter (fun q => !(q.1 == i) && !(q.1 + 1 == i && q.2.category == 2)))) : am_Ls n ls' (L.set i (some v)) := by
  refine am_Ls.of h (fun j w hj => ?_)
  by_cases hji : j = i
  · subst hji
    rw [List.getElem?_set_self' ] at hj
    cases hL : L[j]? with
    | none => rw [hL] at hj; cases hj
    | some z => rw [hL] at hj; cases hj; exact List.mem_cons_self
  · rw [List.getElem?_set_ne (Ne.symm hji)] at hj
    refine List.mem_cons_of_mem _ (List.mem_filter.mpr ⟨am_ll_mem.mpr hj, ?_⟩)
    have h1 : ¬ (j + 1 = i ∧ w.category = 2) := fun hq => by
      have := am_gd_spec hg hj hq.1
      omega
    simp [hji]
    omega
theorem am_st2 {n : Nat} {ls : Array Slot} {L : List (Option Value)} {i : Nat} {v : Value} {ls' : Array Slot} (hg : am_gd L i = true) (h : lv_has ls' n ((i, v) :: (am_ll L).filter (fun q => !(q.1 == i) && (!(q.1 == i + 1) && !(q.1 + 1 == i && q.2.category == 2))))) : am_Ls n ls' ((L.set i (some v)).set (i + 1) none) := by
  refine am_Ls.of h (fun j w hj => ?_)
  by_cases hj1 : j = i + 1
  · subst hj1
    rw [List.getElem?_set_self'] at hj
    cases hL : (L.set i (some v))[i + 1]? with
    | none => rw [hL] at hj; cases hj
    | some z => rw [hL] at hj; cases hj
  · rw [List.getElem?_set_ne (Ne.symm hj1)] at hj
    by_cases hji : j = i
    · subst hji
      rw [List.getElem?_set_self'] at hj
      cases hL : L[j]? with
      | none => rw [hL] at hj; cases hj
      | some z => rw [hL] at hj; cases hj; exact List.mem_cons_self
    · rw [List.getElem?_set_ne (Ne.symm hji)] at hj
      refine List.mem_cons_of_mem _ (List.mem_filter.mpr ⟨am_ll_mem.mpr hj, ?_⟩)
      have h1 : ¬ (j + 1 = i ∧ w.category = 2) := fun hq => by
        have := am_gd_spec hg hj hq.1
        omega
      simp [hji, hj1]
      omega
section AmRows
variable {g : am_G} {d : Nat} {y : am_I} {pc : Nat} {L : List (Option Value)} {st : List Value} {S : am_S} {P : am_O → am_S → Prop}

theorem am_iadd {x z : Int32} (hd : decode y.2.1 pc = .ok (.iadd, 1))  (k : am_W g d y (pc + 1, L, .int (x + z) :: st) S P) : am_W g d y (pc, L, .int z :: .int x :: st) S P := by
  intro p l e R s m args below meth c H locs cells slots ls hF hH hL
  exact lv_iadd hF.1 hF.2.1 hd  (k p l e R s m args below meth c H locs cells slots ls hF hH hL)
theorem am_isub {x z : Int32} (hd : decode y.2.1 pc = .ok (.isub, 1))  (k : am_W g d y (pc + 1, L, .int (x - z) :: st) S P) : am_W g d y (pc, L, .int z :: .int x :: st) S P := by
  intro p l e R s m args below meth c H locs cells slots ls hF hH hL
  exact lv_isub hF.1 hF.2.1 hd  (k p l e R s m args below meth c H locs cells slots ls hF hH hL)
theorem am_imul {x z : Int32} (hd : decode y.2.1 pc = .ok (.imul, 1))  (k : am_W g d y (pc + 1, L, .int (x * z) :: st) S P) : am_W g d y (pc, L, .int z :: .int x :: st) S P := by
  intro p l e R s m args below meth c H locs cells slots ls hF hH hL
  exact lv_imul hF.1 hF.2.1 hd  (k p l e R s m args below meth c H locs cells slots ls hF hH hL)
theorem am_iand {x z : Int32} (hd : decode y.2.1 pc = .ok (.iand, 1))  (k : am_W g d y (pc + 1, L, .int (x &&& z) :: st) S P) : am_W g d y (pc, L, .int z :: .int x :: st) S P := by
  intro p l e R s m args below meth c H locs cells slots ls hF hH hL
  exact lv_iand hF.1 hF.2.1 hd  (k p l e R s m args below meth c H locs cells slots ls hF hH hL)
theorem am_ior {x z : Int32} (hd : decode y.2.1 pc = .ok (.ior, 1))  (k : am_W g d y (pc + 1, L, .int (x ||| z) :: st) S P) : am_W g d y (pc, L, .int z :: .int x :: st) S P := by
  intro p l e R s m args below meth c H locs cells slots ls hF hH hL
  exact lv_ior hF.1 hF.2.1 hd  (k p l e R s m args below meth c H locs cells slots ls hF hH hL)
theorem am_ixor {x z : Int32} (hd : decode y.2.1 pc = .ok (.ixor, 1))  (k : am_W g d y (pc + 1, L, .int (x ^^^ z) :: st) S P) : am_W g d y (pc, L, .int z :: .int x :: st) S P := by
  intro p l e R s m args below meth c H locs cells slots ls hF hH hL
  exact lv_ixor hF.1 hF.2.1 hd  (k p l e R s m args below meth c H locs cells slots ls hF hH hL)
theorem am_idiv {x z : Int32} (hd : decode y.2.1 pc = .ok (.idiv, 1)) (hz : ¬ z = 0) (k : am_W g d y (pc + 1, L, .int (x / z) :: st) S P) : am_W g d y (pc, L, .int z :: .int x :: st) S P := by
  intro p l e R s m args below meth c H locs cells slots ls hF hH hL
  exact lv_idiv hF.1 hF.2.1 hd hz (k p l e R s m args below meth c H locs cells slots ls hF hH hL)
theorem am_irem {x z : Int32} (hd : decode y.2.1 pc = .ok (.irem, 1)) (hz : ¬ z = 0) (k : am_W g d y (pc + 1, L, .int (x - x / z * z) :: st) S P) : am_W g d y (pc, L, .int z :: .int x :: st) S P := by
  intro p l e R s m args below meth c H locs cells slots ls hF hH hL
  exact lv_irem hF.1 hF.2.1 hd hz (k p l e R s m args below meth c H locs cells slots ls hF hH hL)
theorem am_ishl {x z : Int32} (hd : decode y.2.1 pc = .ok (.ishl, 1))  (k : am_W g d y (pc + 1, L, .int (x <<< (z &&& 31)) :: st) S P) : am_W g d y (pc, L, .int z :: .int x :: st) S P := by
  intro p l e R s m args below meth c H locs cells slots ls hF hH hL
  exact lv_ishl hF.1 hF.2.1 hd  (k p l e R s m args below meth c H locs cells slots ls hF hH hL)
theorem am_ishr {x z : Int32} (hd : decode y.2.1 pc = .ok (.ishr, 1))  (k : am_W g d y (pc + 1, L, .int (x >>> (z &&& 31)) :: st) S P) : am_W g d y (pc, L, .int z :: .int x :: st) S P := by
  intro p l e R s m args below meth c H locs cells slots ls hF hH hL
  exact lv_ishr hF.1 hF.2.1 hd  (k p l e R s m args below meth c H locs cells slots ls hF hH hL)
theorem am_ineg {x : Int32} (hd : decode y.2.1 pc = .ok (.ineg, 1))  (k : am_W g d y (pc + 1, L, .int (-x) :: st) S P) : am_W g d y (pc, L, .int x :: st) S P := by
  intro p l e R s m args below meth c H locs cells slots ls hF hH hL
  exact lv_ineg hF.1 hF.2.1 hd (k p l e R s m args below meth c H locs cells slots ls hF hH hL)
theorem am_ladd {x z : Int64} (hd : decode y.2.1 pc = .ok (.ladd, 1))  (k : am_W g d y (pc + 1, L, .long (x + z) :: st) S P) : am_W g d y (pc, L, .long z :: .long x :: st) S P := by
  intro p l e R s m args below meth c H locs cells slots ls hF hH hL
  exact lv_ladd hF.1 hF.2.1 hd (k p l e R s m args below meth c H locs cells slots ls hF hH hL)
theorem am_lsub {x z : Int64} (hd : decode y.2.1 pc = .ok (.lsub, 1))  (k : am_W g d y (pc + 1, L, .long (x - z) :: st) S P) : am_W g d y (pc, L, .long z :: .long x :: st) S P := by
  intro p l e R s m args below meth c H locs cells slots ls hF hH hL
  exact lv_lsub hF.1 hF.2.1 hd (k p l e R s m args below meth c H locs cells slots ls hF hH hL)
theorem am_lmul {x z : Int64} (hd : decode y.2.1 pc = .ok (.lmul, 1))  (k : am_W g d y (pc + 1, L, .long (x * z) :: st) S P) : am_W g d y (pc, L, .long z :: .long x :: st) S P := by
  intro p l e R s m args below meth c H locs cells slots ls hF hH hL
  exact lv_lmul hF.1 hF.2.1 hd (k p l e R s m args below meth c H locs cells slots ls hF hH hL)
theorem am_land {x z : Int64} (hd : decode y.2.1 pc = .ok (.land, 1))  (k : am_W g d y (pc + 1, L, .long (x &&& z) :: st) S P) : am_W g d y (pc, L, .long z :: .long x :: st) S P := by
  intro p l e R s m args below meth c H locs cells slots ls hF hH hL
  exact lv_land hF.1 hF.2.1 hd (k p l e R s m args below meth c H locs cells slots ls hF hH hL)
theorem am_lor {x z : Int64} (hd : decode y.2.1 pc = .ok (.lor, 1))  (k : am_W g d y (pc + 1, L, .long (x ||| z) :: st) S P) : am_W g d y (pc, L, .long z :: .long x :: st) S P := by
  intro p l e R s m args below meth c H locs cells slots ls hF hH hL
  exact lv_lor hF.1 hF.2.1 hd (k p l e R s m args below meth c H locs cells slots ls hF hH hL)
theorem am_lxor {x z : Int64} (hd : decode y.2.1 pc = .ok (.lxor, 1))  (k : am_W g d y (pc + 1, L, .long (x ^^^ z) :: st) S P) : am_W g d y (pc, L, .long z :: .long x :: st) S P := by
  intro p l e R s m args below meth c H locs cells slots ls hF hH hL
  exact lv_lxor hF.1 hF.2.1 hd (k p l e R s m args below meth c H locs cells slots ls hF hH hL)
theorem am_lneg {x : Int64} (hd : decode y.2.1 pc = .ok (.lneg, 1))  (k : am_W g d y (pc + 1, L, .long (-x) :: st) S P) : am_W g d y (pc, L, .long x :: st) S P := by
  intro p l e R s m args below meth c H locs cells slots ls hF hH hL
  exact lv_lneg hF.1 hF.2.1 hd (k p l e R s m args below meth c H locs cells slots ls hF hH hL)
theorem am_lshl {x : Int64} {z : Int32} (hd : decode y.2.1 pc = .ok (.lshl, 1))  (k : am_W g d y (pc + 1, L, .long (x <<< (z.toInt64 &&& 63)) :: st) S P) : am_W g d y (pc, L, .int z :: .long x :: st) S P := by
  intro p l e R s m args below meth c H locs cells slots ls hF hH hL
  exact lv_lshl hF.1 hF.2.1 hd rfl (k p l e R s m args below meth c H locs cells slots ls hF hH hL)
theorem am_i2l {x : Int32} (hd : decode y.2.1 pc = .ok (.i2l, 1))  (k : am_W g d y (pc + 1, L, .long (x.toInt64) :: st) S P) : am_W g d y (pc, L, .int x :: st) S P := by
  intro p l e R s m args below meth c H locs cells slots ls hF hH hL
  exact lv_i2l hF.1 hF.2.1 hd rfl (k p l e R s m args below meth c H locs cells slots ls hF hH hL)
theorem am_l2i {x : Int64} (hd : decode y.2.1 pc = .ok (.l2i, 1))  (k : am_W g d y (pc + 1, L, .int (x.toInt32) :: st) S P) : am_W g d y (pc, L, .long x :: st) S P := by
  intro p l e R s m args below meth c H locs cells slots ls hF hH hL
  exact lv_l2i hF.1 hF.2.1 hd rfl (k p l e R s m args below meth c H locs cells slots ls hF hH hL)
theorem am_i2b {x : Int32} (hd : decode y.2.1 pc = .ok (.i2b, 1))  (k : am_W g d y (pc + 1, L, .int (x.toInt8.toInt32) :: st) S P) : am_W g d y (pc, L, .int x :: st) S P := by
  intro p l e R s m args below meth c H locs cells slots ls hF hH hL
  exact lv_i2b hF.1 hF.2.1 hd rfl (k p l e R s m args below meth c H locs cells slots ls hF hH hL)
theorem am_i2s {x : Int32} (hd : decode y.2.1 pc = .ok (.i2s, 1))  (k : am_W g d y (pc + 1, L, .int (x.toInt16.toInt32) :: st) S P) : am_W g d y (pc, L, .int x :: st) S P := by
  intro p l e R s m args below meth c H locs cells slots ls hF hH hL
  exact lv_i2s hF.1 hF.2.1 hd rfl (k p l e R s m args below meth c H locs cells slots ls hF hH hL)
theorem am_iconst {n : Int} (v : Int32) (hd : decode y.2.1 pc = .ok (.iconst n, 1)) (hv : Int32.ofInt n = v) (k : am_W g d y (pc + 1, L, .int v :: st) S P) : am_W g d y (pc, L, st) S P := by
  intro p l e R s m args below meth c H locs cells slots ls hF hH hL
  exact lv_iconst hF.1 hF.2.1 hd hv (k p l e R s m args below meth c H locs cells slots ls hF hH hL)
theorem am_bipush {n : Int} (v : Int32) (hd : decode y.2.1 pc = .ok (.bipush n, 2)) (hv : (Int8.ofInt n).toInt32 = v) (k : am_W g d y (pc + 2, L, .int v :: st) S P) : am_W g d y (pc, L, st) S P := by
  intro p l e R s m args below meth c H locs cells slots ls hF hH hL
  exact lv_bipush hF.1 hF.2.1 hd hv (k p l e R s m args below meth c H locs cells slots ls hF hH hL)
theorem am_sipush {n : Int} (v : Int32) (hd : decode y.2.1 pc = .ok (.sipush n, 3)) (hv : (Int16.ofInt n).toInt32 = v) (k : am_W g d y (pc + 3, L, .int v :: st) S P) : am_W g d y (pc, L, st) S P := by
  intro p l e R s m args below meth c H locs cells slots ls hF hH hL
  exact lv_sipush hF.1 hF.2.1 hd hv (k p l e R s m args below meth c H locs cells slots ls hF hH hL)
theorem am_lconst {n : Fin 2} (v : Int64) (hd : decode y.2.1 pc = .ok (.lconst n, 1)) (hv : Int64.ofNat (n : Nat) = v) (k : am_W g d y (pc + 1, L, .long v :: st) S P) : am_W g d y (pc, L, st) S P := by
  intro p l e R s m args below meth c H locs cells slots ls hF hH hL
  exact lv_lconst hF.1 hF.2.1 hd hv (k p l e R s m args below meth c H locs cells slots ls hF hH hL)
theorem am_ldc {ix : Nat} (v : Int32) (hd : decode y.2.1 pc = .ok (.ldc ix, 2)) (hc : Jvm.Cond.constant y.1.cls ix v ∈ am_tbl) (k : am_W g d y (pc + 2, L, .int v :: st) S P) : am_W g d y (pc, L, st) S P := by
  intro p l e R s m args below meth c H locs cells slots ls hF hH hL
  exact lv_ldc hF.1 hF.2.1 hF.2.2.2.2.2.1 (hF.2.2.2.2.2.2.1 _ hc) hd (k p l e R s m args below meth c H locs cells slots ls hF hH hL)
theorem am_ldcw {ix : Nat} (v : Int32) (hd : decode y.2.1 pc = .ok (.ldc_w ix, 3)) (hc : Jvm.Cond.constant y.1.cls ix v ∈ am_tbl) (k : am_W g d y (pc + 3, L, .int v :: st) S P) : am_W g d y (pc, L, st) S P := by
  intro p l e R s m args below meth c H locs cells slots ls hF hH hL
  exact lv_ldcw hF.1 hF.2.1 hF.2.2.2.2.2.1 (hF.2.2.2.2.2.2.1 _ hc) hd (k p l e R s m args below meth c H locs cells slots ls hF hH hL)
theorem am_ldc2 {ix : Nat} (v : Int64) (hd : decode y.2.1 pc = .ok (.ldc2_w ix, 3)) (hc : Jvm.Cond.constantLong y.1.cls ix v ∈ am_tbl) (k : am_W g d y (pc + 3, L, .long v :: st) S P) : am_W g d y (pc, L, st) S P := by
  intro p l e R s m args below meth c H locs cells slots ls hF hH hL
  exact lv_ldc2 hF.1 hF.2.1 hF.2.2.2.2.2.1 (hF.2.2.2.2.2.2.1 _ hc) hd (k p l e R s m args below meth c H locs cells slots ls hF hH hL)
theorem am_null  (hd : decode y.2.1 pc = .ok (.aconst_null, 1))  (k : am_W g d y (pc + 1, L, .null :: st) S P) : am_W g d y (pc, L, st) S P := by
  intro p l e R s m args below meth c H locs cells slots ls hF hH hL
  exact lv_null hF.1 hF.2.1 hd (k p l e R s m args below meth c H locs cells slots ls hF hH hL)
theorem am_dup {v : Value} (hd : decode y.2.1 pc = .ok (.dup, 1)) (h1 : v.category = 1) (k : am_W g d y (pc + 1, L, v :: v :: st) S P) : am_W g d y (pc, L, v :: st) S P := by
  intro p l e R s m args below meth c H locs cells slots ls hF hH hL
  exact lv_dup hF.1 hF.2.1 hd h1 (k p l e R s m args below meth c H locs cells slots ls hF hH hL)
theorem am_pop {v : Value} (hd : decode y.2.1 pc = .ok (.pop, 1)) (h1 : v.category = 1) (k : am_W g d y (pc + 1, L, st) S P) : am_W g d y (pc, L, v :: st) S P := by
  intro p l e R s m args below meth c H locs cells slots ls hF hH hL
  exact lv_pop hF.1 hF.2.1 hd h1 (k p l e R s m args below meth c H locs cells slots ls hF hH hL)
theorem am_dupx1 {v u : Value} (hd : decode y.2.1 pc = .ok (.dup_x1, 1)) (h1 : v.category = 1) (h2 : u.category = 1) (k : am_W g d y (pc + 1, L, v :: u :: v :: st) S P) : am_W g d y (pc, L, v :: u :: st) S P := by
  intro p l e R s m args below meth c H locs cells slots ls hF hH hL
  exact lv_dup_x1 hF.1 hF.2.1 hd h1 h2 (k p l e R s m args below meth c H locs cells slots ls hF hH hL)
theorem am_dup211 {v u : Value} (hd : decode y.2.1 pc = .ok (.dup2, 1)) (h1 : v.category = 1) (h2 : u.category = 1) (k : am_W g d y (pc + 1, L, v :: u :: v :: u :: st) S P) : am_W g d y (pc, L, v :: u :: st) S P := by
  intro p l e R s m args below meth c H locs cells slots ls hF hH hL
  exact lv_dup2_11 hF.1 hF.2.1 hd h1 h2 (k p l e R s m args below meth c H locs cells slots ls hF hH hL)
theorem am_dup22 {v : Value} (hd : decode y.2.1 pc = .ok (.dup2, 1)) (h1 : v.category = 2) (k : am_W g d y (pc + 1, L, v :: v :: st) S P) : am_W g d y (pc, L, v :: st) S P := by
  intro p l e R s m args below meth c H locs cells slots ls hF hH hL
  exact lv_dup2_2 hF.1 hF.2.1 hd h1 (k p l e R s m args below meth c H locs cells slots ls hF hH hL)
theorem am_iloadn {n : Fin 4} {x : Int32} (hd : decode y.2.1 pc = .ok (.iload_n n, 1)) (hl : L[(n : Nat)]? = some (some (.int x))) (k : am_W g d y (pc + 1, L, .int x :: st) S P) : am_W g d y (pc, L, st) S P := by
  intro p l e R s m args below meth c H locs cells slots ls hF hH hL
  exact lv_iload_n hF.1 hF.2.1 hd rfl (hL.2 _ _ hl) (k p l e R s m args below meth c H locs cells slots ls hF hH hL)
theorem am_iload {i : Nat} {x : Int32} (hd : decode y.2.1 pc = .ok (.iload i, 2)) (hl : L[i]? = some (some (.int x))) (k : am_W g d y (pc + 2, L, .int x :: st) S P) : am_W g d y (pc, L, st) S P := by
  intro p l e R s m args below meth c H locs cells slots ls hF hH hL
  exact lv_iload hF.1 hF.2.1 hd (hL.2 _ _ hl) (k p l e R s m args below meth c H locs cells slots ls hF hH hL)
theorem am_lloadn {n : Fin 4} {x : Int64} (hd : decode y.2.1 pc = .ok (.lload_n n, 1)) (hl : L[(n : Nat)]? = some (some (.long x))) (k : am_W g d y (pc + 1, L, .long x :: st) S P) : am_W g d y (pc, L, st) S P := by
  intro p l e R s m args below meth c H locs cells slots ls hF hH hL
  exact lv_lload_n hF.1 hF.2.1 hd rfl (hL.2 _ _ hl) (k p l e R s m args below meth c H locs cells slots ls hF hH hL)
theorem am_lload {i : Nat} {x : Int64} (hd : decode y.2.1 pc = .ok (.lload i, 2)) (hl : L[i]? = some (some (.long x))) (k : am_W g d y (pc + 2, L, .long x :: st) S P) : am_W g d y (pc, L, st) S P := by
  intro p l e R s m args below meth c H locs cells slots ls hF hH hL
  exact lv_lload hF.1 hF.2.1 hd (hL.2 _ _ hl) (k p l e R s m args below meth c H locs cells slots ls hF hH hL)
theorem am_aloadn {n : Fin 4} {x : Nat} (hd : decode y.2.1 pc = .ok (.aload_n n, 1)) (hl : L[(n : Nat)]? = some (some (.ref x))) (k : am_W g d y (pc + 1, L, .ref x :: st) S P) : am_W g d y (pc, L, st) S P := by
  intro p l e R s m args below meth c H locs cells slots ls hF hH hL
  exact lv_aload_n hF.1 hF.2.1 hd rfl (hL.2 _ _ hl) (k p l e R s m args below meth c H locs cells slots ls hF hH hL)
theorem am_aload {i : Nat} {x : Nat} (hd : decode y.2.1 pc = .ok (.aload i, 2)) (hl : L[i]? = some (some (.ref x))) (k : am_W g d y (pc + 2, L, .ref x :: st) S P) : am_W g d y (pc, L, st) S P := by
  intro p l e R s m args below meth c H locs cells slots ls hF hH hL
  exact lv_aload hF.1 hF.2.1 hd (hL.2 _ _ hl) (k p l e R s m args below meth c H locs cells slots ls hF hH hL)
theorem am_istoren {n : Fin 4} {x : Int32} {L' : List (Option Value)} (hd : decode y.2.1 pc = .ok (.istore_n n, 1)) (hn : (n : Nat) < y.2.2.1) (hg : am_gd L (n : Nat) = true) (hL' : (L.set (n : Nat) (some (.int x))) = L') (k : am_W g d y (pc + 1, L', st) S P) : am_W g d y (pc, L, .int x :: st) S P := by
  intro p l e R s m args below meth c H locs cells slots ls hF hH hL
  subst hL'
  exact lv_istore_n hF.1 hF.2.1 hd rfl hL.ll hn rfl (fun ls' h' => k p l e R s m args below meth c H locs cells slots ls' hF hH (am_st1 (ls := ls) hg h'))
theorem am_istore {i : Nat} {x : Int32} {L' : List (Option Value)} (hd : decode y.2.1 pc = .ok (.istore i, 2)) (hn : i < y.2.2.1) (hg : am_gd L i = true) (hL' : (L.set i (some (.int x))) = L') (k : am_W g d y (pc + 2, L', st) S P) : am_W g d y (pc, L, .int x :: st) S P := by
  intro p l e R s m args below meth c H locs cells slots ls hF hH hL
  subst hL'
  exact lv_istore hF.1 hF.2.1 hd  hL.ll hn rfl (fun ls' h' => k p l e R s m args below meth c H locs cells slots ls' hF hH (am_st1 (ls := ls) hg h'))
theorem am_astoren {n : Fin 4} {x : Nat} {L' : List (Option Value)} (hd : decode y.2.1 pc = .ok (.astore_n n, 1)) (hn : (n : Nat) < y.2.2.1) (hg : am_gd L (n : Nat) = true) (hL' : (L.set (n : Nat) (some (.ref x))) = L') (k : am_W g d y (pc + 1, L', st) S P) : am_W g d y (pc, L, .ref x :: st) S P := by
  intro p l e R s m args below meth c H locs cells slots ls hF hH hL
  subst hL'
  exact lv_astore_n hF.1 hF.2.1 hd rfl hL.ll hn rfl (fun ls' h' => k p l e R s m args below meth c H locs cells slots ls' hF hH (am_st1 (ls := ls) hg h'))
theorem am_astore {i : Nat} {x : Nat} {L' : List (Option Value)} (hd : decode y.2.1 pc = .ok (.astore i, 2)) (hn : i < y.2.2.1) (hg : am_gd L i = true) (hL' : (L.set i (some (.ref x))) = L') (k : am_W g d y (pc + 2, L', st) S P) : am_W g d y (pc, L, .ref x :: st) S P := by
  intro p l e R s m args below meth c H locs cells slots ls hF hH hL
  subst hL'
  exact lv_astore hF.1 hF.2.1 hd  hL.ll hn rfl (fun ls' h' => k p l e R s m args below meth c H locs cells slots ls' hF hH (am_st1 (ls := ls) hg h'))
theorem am_lstoren {n : Fin 4} {x : Int64} {L' : List (Option Value)} (hd : decode y.2.1 pc = .ok (.lstore_n n, 1)) (hn : (n : Nat) + 1 < y.2.2.1) (hg : am_gd L (n : Nat) = true) (hL' : ((L.set (n : Nat) (some (.long x))).set ((n : Nat) + 1) none) = L') (k : am_W g d y (pc + 1, L', st) S P) : am_W g d y (pc, L, .long x :: st) S P := by
  intro p l e R s m args below meth c H locs cells slots ls hF hH hL
  subst hL'
  exact lv_lstore_n hF.1 hF.2.1 hd rfl hL.ll hn rfl (fun ls' h' => k p l e R s m args below meth c H locs cells slots ls' hF hH (am_st2 (ls := ls) hg h'))
theorem am_lstore {i : Nat} {x : Int64} {L' : List (Option Value)} (hd : decode y.2.1 pc = .ok (.lstore i, 2)) (hn : i + 1 < y.2.2.1) (hg : am_gd L i = true) (hL' : ((L.set i (some (.long x))).set (i + 1) none) = L') (k : am_W g d y (pc + 2, L', st) S P) : am_W g d y (pc, L, .long x :: st) S P := by
  intro p l e R s m args below meth c H locs cells slots ls hF hH hL
  subst hL'
  exact lv_lstore hF.1 hF.2.1 hd  hL.ll hn rfl (fun ls' h' => k p l e R s m args below meth c H locs cells slots ls' hF hH (am_st2 (ls := ls) hg h'))
theorem am_iinc {i : Nat} {n : Int} {x v : Int32} {L' : List (Option Value)} (hd : decode y.2.1 pc = .ok (.iinc i n, 3)) (hl : L[i]? = some (some (.int x))) (hv : x + Int32.ofInt n = v) (hn : i < y.2.2.1) (hg : am_gd L i = true) (hL' : L.set i (some (.int v)) = L') (k : am_W g d y (pc + 3, L', st) S P) : am_W g d y (pc, L, st) S P := by
  intro p l e R s m args below meth c H locs cells slots ls hF hH hL
  subst hL'
  obtain ⟨q, hq⟩ := List.getElem?_of_mem (am_ll_mem.mpr hl)
  exact lv_iinc hF.1 hF.2.1 hd hL.ll hq hv hn rfl (fun ls' h' => k p l e R s m args below meth c H locs cells slots ls' hF hH (am_st1 (ls := ls) hg h'))
theorem am_ifeq {x : Int32} {off : Int} {tgt : Nat} (hd : decode y.2.1 pc = .ok (.ifCond .eq off, 3)) (ht : (pc : Int) + off = (tgt : Int)) (kt : x = 0 → am_W g d y (tgt, L, st) S P) (kf : ¬ x = 0 → am_W g d y (pc + 3, L, st) S P) : am_W g d y (pc, L, .int x :: st) S P := by
  intro p l e R s m args below meth c H locs cells slots ls hF hH hL
  exact lv_if_eq hF.1 hF.2.1 hd ht (fun h => kt h p l e R s m args below meth c H locs cells slots ls hF hH hL) (fun h => kf h p l e R s m args below meth c H locs cells slots ls hF hH hL)
theorem am_ifne {x : Int32} {off : Int} {tgt : Nat} (hd : decode y.2.1 pc = .ok (.ifCond .ne off, 3)) (ht : (pc : Int) + off = (tgt : Int)) (kt : ¬ x = 0 → am_W g d y (tgt, L, st) S P) (kf : x = 0 → am_W g d y (pc + 3, L, st) S P) : am_W g d y (pc, L, .int x :: st) S P := by
  intro p l e R s m args below meth c H locs cells slots ls hF hH hL
  exact lv_if_ne hF.1 hF.2.1 hd ht (fun h => kt h p l e R s m args below meth c H locs cells slots ls hF hH hL) (fun h => kf h p l e R s m args below meth c H locs cells slots ls hF hH hL)
theorem am_iflt {x : Int32} {off : Int} {tgt : Nat} (hd : decode y.2.1 pc = .ok (.ifCond .lt off, 3)) (ht : (pc : Int) + off = (tgt : Int)) (kt : x < 0 → am_W g d y (tgt, L, st) S P) (kf : ¬ x < 0 → am_W g d y (pc + 3, L, st) S P) : am_W g d y (pc, L, .int x :: st) S P := by
  intro p l e R s m args below meth c H locs cells slots ls hF hH hL
  exact lv_if_lt hF.1 hF.2.1 hd ht (fun h => kt h p l e R s m args below meth c H locs cells slots ls hF hH hL) (fun h => kf h p l e R s m args below meth c H locs cells slots ls hF hH hL)
theorem am_ifge {x : Int32} {off : Int} {tgt : Nat} (hd : decode y.2.1 pc = .ok (.ifCond .ge off, 3)) (ht : (pc : Int) + off = (tgt : Int)) (kt : 0 ≤ x → am_W g d y (tgt, L, st) S P) (kf : ¬ 0 ≤ x → am_W g d y (pc + 3, L, st) S P) : am_W g d y (pc, L, .int x :: st) S P := by
  intro p l e R s m args below meth c H locs cells slots ls hF hH hL
  exact lv_if_ge hF.1 hF.2.1 hd ht (fun h => kt h p l e R s m args below meth c H locs cells slots ls hF hH hL) (fun h => kf h p l e R s m args below meth c H locs cells slots ls hF hH hL)
theorem am_ifgt {x : Int32} {off : Int} {tgt : Nat} (hd : decode y.2.1 pc = .ok (.ifCond .gt off, 3)) (ht : (pc : Int) + off = (tgt : Int)) (kt : 0 < x → am_W g d y (tgt, L, st) S P) (kf : ¬ 0 < x → am_W g d y (pc + 3, L, st) S P) : am_W g d y (pc, L, .int x :: st) S P := by
  intro p l e R s m args below meth c H locs cells slots ls hF hH hL
  exact lv_if_gt hF.1 hF.2.1 hd ht (fun h => kt h p l e R s m args below meth c H locs cells slots ls hF hH hL) (fun h => kf h p l e R s m args below meth c H locs cells slots ls hF hH hL)
theorem am_ifle {x : Int32} {off : Int} {tgt : Nat} (hd : decode y.2.1 pc = .ok (.ifCond .le off, 3)) (ht : (pc : Int) + off = (tgt : Int)) (kt : x ≤ 0 → am_W g d y (tgt, L, st) S P) (kf : ¬ x ≤ 0 → am_W g d y (pc + 3, L, st) S P) : am_W g d y (pc, L, .int x :: st) S P := by
  intro p l e R s m args below meth c H locs cells slots ls hF hH hL
  exact lv_if_le hF.1 hF.2.1 hd ht (fun h => kt h p l e R s m args below meth c H locs cells slots ls hF hH hL) (fun h => kf h p l e R s m args below meth c H locs cells slots ls hF hH hL)
theorem am_iceq {x z : Int32} {off : Int} {tgt : Nat} (hd : decode y.2.1 pc = .ok (.if_icmp .eq off, 3)) (ht : (pc : Int) + off = (tgt : Int)) (kt : x = z → am_W g d y (tgt, L, st) S P) (kf : ¬ x = z → am_W g d y (pc + 3, L, st) S P) : am_W g d y (pc, L, .int z :: .int x :: st) S P := by
  intro p l e R s m args below meth c H locs cells slots ls hF hH hL
  exact lv_icmp_eq hF.1 hF.2.1 hd ht (fun h => kt h p l e R s m args below meth c H locs cells slots ls hF hH hL) (fun h => kf h p l e R s m args below meth c H locs cells slots ls hF hH hL)
theorem am_icne {x z : Int32} {off : Int} {tgt : Nat} (hd : decode y.2.1 pc = .ok (.if_icmp .ne off, 3)) (ht : (pc : Int) + off = (tgt : Int)) (kt : ¬ x = z → am_W g d y (tgt, L, st) S P) (kf : x = z → am_W g d y (pc + 3, L, st) S P) : am_W g d y (pc, L, .int z :: .int x :: st) S P := by
  intro p l e R s m args below meth c H locs cells slots ls hF hH hL
  exact lv_icmp_ne hF.1 hF.2.1 hd ht (fun h => kt h p l e R s m args below meth c H locs cells slots ls hF hH hL) (fun h => kf h p l e R s m args below meth c H locs cells slots ls hF hH hL)
theorem am_iclt {x z : Int32} {off : Int} {tgt : Nat} (hd : decode y.2.1 pc = .ok (.if_icmp .lt off, 3)) (ht : (pc : Int) + off = (tgt : Int)) (kt : x < z → am_W g d y (tgt, L, st) S P) (kf : ¬ x < z → am_W g d y (pc + 3, L, st) S P) : am_W g d y (pc, L, .int z :: .int x :: st) S P := by
  intro p l e R s m args below meth c H locs cells slots ls hF hH hL
  exact lv_icmp_lt hF.1 hF.2.1 hd ht (fun h => kt h p l e R s m args below meth c H locs cells slots ls hF hH hL) (fun h => kf h p l e R s m args below meth c H locs cells slots ls hF hH hL)
theorem am_icge {x z : Int32} {off : Int} {tgt : Nat} (hd : decode y.2.1 pc = .ok (.if_icmp .ge off, 3)) (ht : (pc : Int) + off = (tgt : Int)) (kt : z ≤ x → am_W g d y (tgt, L, st) S P) (kf : ¬ z ≤ x → am_W g d y (pc + 3, L, st) S P) : am_W g d y (pc, L, .int z :: .int x :: st) S P := by
  intro p l e R s m args below meth c H locs cells slots ls hF hH hL
  exact lv_icmp_ge hF.1 hF.2.1 hd ht (fun h => kt h p l e R s m args below meth c H locs cells slots ls hF hH hL) (fun h => kf h p l e R s m args below meth c H locs cells slots ls hF hH hL)
theorem am_icgt {x z : Int32} {off : Int} {tgt : Nat} (hd : decode y.2.1 pc = .ok (.if_icmp .gt off, 3)) (ht : (pc : Int) + off = (tgt : Int)) (kt : z < x → am_W g d y (tgt, L, st) S P) (kf : ¬ z < x → am_W g d y (pc + 3, L, st) S P) : am_W g d y (pc, L, .int z :: .int x :: st) S P := by
  intro p l e R s m args below meth c H locs cells slots ls hF hH hL
  exact lv_icmp_gt hF.1 hF.2.1 hd ht (fun h => kt h p l e R s m args below meth c H locs cells slots ls hF hH hL) (fun h => kf h p l e R s m args below meth c H locs cells slots ls hF hH hL)
theorem am_icle {x z : Int32} {off : Int} {tgt : Nat} (hd : decode y.2.1 pc = .ok (.if_icmp .le off, 3)) (ht : (pc : Int) + off = (tgt : Int)) (kt : x ≤ z → am_W g d y (tgt, L, st) S P) (kf : ¬ x ≤ z → am_W g d y (pc + 3, L, st) S P) : am_W g d y (pc, L, .int z :: .int x :: st) S P := by
  intro p l e R s m args below meth c H locs cells slots ls hF hH hL
  exact lv_icmp_le hF.1 hF.2.1 hd ht (fun h => kt h p l e R s m args below meth c H locs cells slots ls hF hH hL) (fun h => kf h p l e R s m args below meth c H locs cells slots ls hF hH hL)
theorem am_aceq {x z : Nat} {off : Int} {tgt : Nat} (hd : decode y.2.1 pc = .ok (.if_acmp .eq off, 3)) (ht : (pc : Int) + off = (tgt : Int)) (kt : x = z → am_W g d y (tgt, L, st) S P) (kf : ¬ x = z → am_W g d y (pc + 3, L, st) S P) : am_W g d y (pc, L, .ref z :: .ref x :: st) S P := by
  intro p l e R s m args below meth c H locs cells slots ls hF hH hL
  exact lv_acmp_eq (rx := some x) (ry := some z) hF.1 hF.2.1 hd ht (fun h => kt (by simpa using h) p l e R s m args below meth c H locs cells slots ls hF hH hL) (fun h => kf (by simpa using h) p l e R s m args below meth c H locs cells slots ls hF hH hL)
theorem am_acne {x z : Nat} {off : Int} {tgt : Nat} (hd : decode y.2.1 pc = .ok (.if_acmp .ne off, 3)) (ht : (pc : Int) + off = (tgt : Int)) (kt : ¬ x = z → am_W g d y (tgt, L, st) S P) (kf : x = z → am_W g d y (pc + 3, L, st) S P) : am_W g d y (pc, L, .ref z :: .ref x :: st) S P := by
  intro p l e R s m args below meth c H locs cells slots ls hF hH hL
  exact lv_acmp_ne (rx := some x) (ry := some z) hF.1 hF.2.1 hd ht (fun h => kt (by simpa using h) p l e R s m args below meth c H locs cells slots ls hF hH hL) (fun h => kf (by simpa using h) p l e R s m args below meth c H locs cells slots ls hF hH hL)
theorem am_lookup {dflt : Int} {ps : Array (Int × Int)} {len tgt : Nat} {x : Int32} {off : Int} (hd : decode y.2.1 pc = .ok (.lookupswitch dflt ps, len)) (hp : (ps.toList.zip (ps.toList.drop 1)).all (fun (a, next) => a.1 < next.1) = true) (ho : Op.lookupswitch.offset ps.toList dflt x.toInt = off) (ht : (pc : Int) + off = (tgt : Int)) (k : am_W g d y (tgt, L, st) S P) : am_W g d y (pc, L, .int x :: st) S P := by
  intro p l e R s m args below meth c H locs cells slots ls hF hH hL
  exact lv_lookup hF.1 hF.2.1 hd hp ho ht (k p l e R s m args below meth c H locs cells slots ls hF hH hL)
theorem am_tabOut {dflt lo hi : Int} {offs : Array Int} {len tgt : Nat} {x : Int32} (hd : decode y.2.1 pc = .ok (.tableswitch dflt lo hi offs, len)) (h : x.toInt < lo ∨ hi < x.toInt) (ht : (pc : Int) + dflt = (tgt : Int)) (k : am_W g d y (tgt, L, st) S P) : am_W g d y (pc, L, .int x :: st) S P := by
  intro p l e R s m args below meth c H locs cells slots ls hF hH hL
  exact lv_tableOut hF.1 hF.2.1 hd h ht (k p l e R s m args below meth c H locs cells slots ls hF hH hL)
theorem am_tabIn {dflt lo hi : Int} {offs : Array Int} {len tgt : Nat} {x : Int32} {off : Int} (hd : decode y.2.1 pc = .ok (.tableswitch dflt lo hi offs, len)) (h1 : ¬ x.toInt < lo) (h2 : ¬ hi < x.toInt) (ho : offs[(x.toInt - lo).toNat]? = some off) (ht : (pc : Int) + off = (tgt : Int)) (k : am_W g d y (tgt, L, st) S P) : am_W g d y (pc, L, .int x :: st) S P := by
  intro p l e R s m args below meth c H locs cells slots ls hF hH hL
  exact lv_tableIn hF.1 hF.2.1 hd h1 h2 ho ht (k p l e R s m args below meth c H locs cells slots ls hF hH hL)
theorem am_lcmp {x z : Int64} (hd : decode y.2.1 pc = .ok (.lcmp, 1)) (k : am_W g d y (pc + 1, L, .int (lg_cmp x z) :: st) S P) : am_W g d y (pc, L, .long z :: .long x :: st) S P := by
  intro p l e R s m args below meth c H locs cells slots ls hF hH hL
  exact W.lcmp hF.1 hF.2.1 hd (k p l e R s m args below meth c H locs cells slots ls hF hH hL)
theorem am_goto {off : Int} {tgt : Nat} (hd : decode y.2.1 pc = .ok (.goto off, 3)) (ht : (pc : Int) + off = (tgt : Int)) (k : am_W g d y (tgt, L, st) S P) : am_W g d y (pc, L, st) S P := by
  intro p l e R s m args below meth c H locs cells slots ls hF hH hL
  exact lv_goto hF.1 hF.2.1 hd ht (k p l e R s m args below meth c H locs cells slots ls hF hH hL)
def am_fl (own : String) (ix ci k : Nat) : Prop := ∃ (C : String) (T : u_T) (N : Nat), am_cl[ci]? = some (C, T, N) ∧ (∀ w ∈ u_ws C T N, w ∈ am_tbl) ∧ k < N ∧ Cond.fieldLink own ix (T k).1 (T k).2.1 (T k).2.2.1 ∈ am_tbl
def am_fp (own : String) (ix ci k : Nat) (ty : FieldType) (fin : Bool) : Prop := ∃ (C : String) (T : u_T) (N : Nat) (ty0 : Nat → FieldType), am_cl[ci]? = some (C, T, N) ∧ (∀ w ∈ u_ws C T N, w ∈ am_tbl) ∧ k < N ∧ Cond.fieldLink own ix (T k).1 (T k).2.1 (T k).2.2.1 ∈ am_tbl ∧
  (∀ k, k < N → parseFieldDescriptor (T k).2.2.1 = some (ty0 k)) ∧ ty0 k = ty ∧ (∀ a, a < N → ∀ b, b < N → a ≠ b → (T a).2.1 ≠ (T b).2.1) ∧ (T k).2.2.2 = fin ∧ (T k).1 = (if fin then own else (T k).1)
theorem am_get {a ix ci k : Nat} {fs : List Value} {v : Value} (hd : decode y.2.1 pc = .ok (.getfield ix, 3)) (hf : am_fl y.1.cls ix ci k) (hM : S.1 a = some (.inr (ci, fs))) (hv : fs[k]? = some v) (kk : am_W g d y (pc + 3, L, v :: st) S P) : am_W g d y (pc, L, .ref a :: st) S P := by
  intro p l e R s m args below meth c H locs cells slots ls hF hH hL
  obtain ⟨C, T, N, hc, hin, hk, hl⟩ := hf
  obtain ⟨hx, hb, -, -, -, hown, hts, -, -, hK, -⟩ := id hF
  exact va_get hx hb hts hin hown hK (hH.one hM) 0 rfl hc k hk (hts _ hl) (fun _ h9 => h9) hv hd (kk p l e R s m args below meth c H locs cells slots ls hF hH hL)
theorem am_put {a ix ci k : Nat} {ty : FieldType} {fs : List Value} {v : Value} (hd : decode y.2.1 pc = .ok (.putfield ix, 3)) (hf : am_fp y.1.cls ix ci k ty false) (hM : S.1 a = some (.inr (ci, fs))) (hn : narrow ty v = v) (hfit : fits ty v = true) (hl : k < fs.length) (kk : am_W g d y (pc + 3, L, st) (am_up S.1 a (.inr (ci, fs.set k v)), S.2) P) : am_W g d y (pc, L, v :: .ref a :: st) S P := by
  intro p l e R s m args below meth c H locs cells slots ls hF hH hL
  obtain ⟨C, T, N, ty0, hc, hin, hk, hlk, hty, hte, hnm, hfin, -⟩ := hf
  obtain ⟨hx, hb, -, -, -, hown, hts, -, -, hK, -⟩ := id hF
  have hap := va_apart (own := y.1.cls) hts hin ty0 hty hnm hK hc
  obtain ⟨r, h1, cell, q1, q2, q3, q4⟩ := (hH.1 a _ hM).2
  have hr : r = (C, T, N) := Option.some.inj (h1.symm.trans hc)
  subst hr
  obtain ⟨hS, hfc, kC, hkC, hkind⟩ := hK.1 ci _ hc
  obtain ⟨cf, kf, fi, f, hi, hsl⟩ := hS k hk
  have hlay := hts _ (hin _ (u_in_lay hk))
  unfold u_lay at hlay
  rw [if_neg (by rw [hfin]; decide)] at hlay
  have hst := (u_facts hfc hkC (u_lays hts hin hk) hi).1
  have h6 := u_store hfc hkC hkind hlay hi ((hty k hk).trans (congrArg some hte)) hn hfit
  refine W.putK hx hb (f := f) ⟨hown, hts _ hlk, ⟨_, _, _, hi⟩, hst⟩ (by rw [q2]; exact h6) q1 q3 (by rw [hsl]; exact k2_hasslot (q4 k hk)) rfl rfl hd fun H' e1 e2 e3 => ?_
  rw [hsl] at e1 ⊢
  exact kk p l e R s m args below meth c H' _ cells slots ls hF (hH.put hM ⟨_, hc, t_OB.to (V := updV (vp_V fs) k v) ⟨_, e1, q2, q3, t_set q4 hap hk v⟩ (fun j _ => vp_updV_set hl v j)⟩ e2 e3) hL
theorem am_putF {a ix ci k : Nat} {ty : FieldType} {fs : List Value} {v : Value} (hd : decode y.2.1 pc = .ok (.putfield ix, 3)) (hf : am_fp y.1.cls ix ci k ty true) (hin2 : y.1.name = "<init>") (hM : S.1 a = some (.inr (ci, fs))) (hn : narrow ty v = v) (hfit : fits ty v = true) (hl : k < fs.length) (kk : am_W g d y (pc + 3, L, st) (am_up S.1 a (.inr (ci, fs.set k v)), S.2) P) : am_W g d y (pc, L, v :: .ref a :: st) S P := by
  intro p l e R s m args below meth c H locs cells slots ls hF hH hL
  obtain ⟨C, T, N, ty0, hc, hin, hk, hlk, hty, hte, hnm, hfin, hdecl⟩ := hf
  rw [if_pos rfl] at hdecl
  obtain ⟨hx, hb, -, -, hmn, hown, hts, -, -, hK, -⟩ := id hF
  have hap := va_apart (own := y.1.cls) hts hin ty0 hty hnm hK hc
  obtain ⟨r, h1, cell, q1, q2, q3, q4⟩ := (hH.1 a _ hM).2
  have hr : r = (C, T, N) := Option.some.inj (h1.symm.trans hc)
  subst hr
  obtain ⟨hS, hfc, kC, hkC, hkind⟩ := hK.1 ci _ hc
  obtain ⟨cf, kf, fi, f, hi, hsl⟩ := hS k hk
  have hlay := hts _ (hin _ (u_in_lay hk))
  unfold u_lay at hlay
  rw [if_pos hfin] at hlay
  have hst := (u_facts hfc hkC (u_lays hts hin hk) hi).1
  have hcf : m.cls = cf := by
    obtain ⟨_, _, c', _, _, _, -, -, hf', -, -, -, hown2, -⟩ := Cond.laysFinal_spec hlay
    have e1 : c' = cf := by have := hi.symm.trans hf'; simp at this; exact this.1.symm
    rw [hdecl] at hown2
    rw [← e1]; exact Option.some.inj (hown.symm.trans hown2)
  have h6 := u_fits hfc hkC hkind (Or.inr hlay) hi ((hty k hk).trans (congrArg some hte)) hn hfit
  refine W.putFinK hx hb hown (hts _ hlk) hi hst hcf (hmn.trans hin2) (by rw [q2]; exact h6) q1 q3 (by rw [hsl]; exact k2_hasslot (q4 k hk)) rfl rfl hd fun H' e1 e2 e3 => ?_
  rw [hsl] at e1 ⊢
  exact kk p l e R s m args below meth c H' _ cells slots ls hF (hH.put hM ⟨_, hc, t_OB.to (V := updV (vp_V fs) k v) ⟨_, e1, q2, q3, t_set q4 hap hk v⟩ (fun j _ => vp_updV_set hl v j)⟩ e2 e3) hL
theorem am_iald {a t n : Nat} {f : Nat → Int32} {i : Int32} (hd : decode y.2.1 pc = .ok (.iaload, 1)) (ht : am_tyl[t]? = some .int) (hM : S.1 a = some (.inl (t, n, .inl f))) (hi : vp_in i n) (kk : am_W g d y (pc + 1, L, .int (f i.toNatClampNeg) :: st) S P) : am_W g d y (pc, L, .int i :: .ref a :: st) S P := by
  intro p l e R s m args below meth c H locs cells slots ls hF hH hL
  obtain ⟨hx, hb, -, -, -, hown, hts, -, -, hK, -⟩ := id hF
  exact va_iald hx hb hK (hH.one hM) 0 t rfl (am_tys_at ht) hi hd (kk p l e R s m args below meth c H locs cells slots ls hF hH hL)
theorem am_lald {a t n : Nat} {f : Nat → Int64} {i : Int32} (hd : decode y.2.1 pc = .ok (.laload, 1)) (ht : am_tyl[t]? = some .long) (hM : S.1 a = some (.inl (t, n, .inr (.inl f)))) (hi : vp_in i n) (kk : am_W g d y (pc + 1, L, .long (f i.toNatClampNeg) :: st) S P) : am_W g d y (pc, L, .int i :: .ref a :: st) S P := by
  intro p l e R s m args below meth c H locs cells slots ls hF hH hL
  obtain ⟨hx, hb, -, -, -, hown, hts, -, -, hK, -⟩ := id hF
  exact va_lald hx hb hK (hH.one hM) 0 t rfl (am_tys_at ht) hi hd (kk p l e R s m args below meth c H locs cells slots ls hF hH hL)
theorem am_zald {a t n : Nat} {f : Nat → Int32} {i : Int32} (hd : decode y.2.1 pc = .ok (.baload, 1)) (ht : am_tyl[t]? = some .boolean) (hM : S.1 a = some (.inl (t, n, .inl f))) (hi : vp_in i n) (kk : am_W g d y (pc + 1, L, .int (f i.toNatClampNeg) :: st) S P) : am_W g d y (pc, L, .int i :: .ref a :: st) S P := by
  intro p l e R s m args below meth c H locs cells slots ls hF hH hL
  obtain ⟨hx, hb, -, -, -, hown, hts, -, -, hK, -⟩ := id hF
  exact va_zald hx hb hK (hH.one hM) 0 t rfl (am_tys_at ht) hi hd (kk p l e R s m args below meth c H locs cells slots ls hF hH hL)
theorem am_aald {a t n : Nat} {C : String} {f : Nat → Option Nat} {i : Int32} {v : Nat} (hd : decode y.2.1 pc = .ok (.aaload, 1)) (ht : am_tyl[t]? = some (.object C)) (hM : S.1 a = some (.inl (t, n, .inr (.inr (.inr (.inr f)))))) (hi : vp_in i n) (hv : f i.toNatClampNeg = some v) (kk : am_W g d y (pc + 1, L, .ref v :: st) S P) : am_W g d y (pc, L, .int i :: .ref a :: st) S P := by
  intro p l e R s m args below meth c H locs cells slots ls hF hH hL
  obtain ⟨hx, hb, -, -, -, hown, hts, -, -, hK, -⟩ := id hF
  refine va_aldq hx hb hK (hH.one hM) 0 t rfl (am_tys_at ht) hi hd ?_
  rw [hv]
  exact kk p l e R s m args below meth c H locs cells slots ls hF hH hL
theorem am_alen {a t : Nat} {x : vp_A} {ty : FieldType} (hd : decode y.2.1 pc = .ok (.arraylength, 1)) (ht : am_tyl[t]? = some ty) (hM : S.1 a = some (.inl (t, x))) (kk : am_W g d y (pc + 1, L, .int (nI x.1) :: st) S P) : am_W g d y (pc, L, .ref a :: st) S P := by
  intro p l e R s m args below meth c H locs cells slots ls hF hH hL
  obtain ⟨hx, hb, -, -, -, hown, hts, -, -, hK, -⟩ := id hF
  exact va_alen hx hb hK (hH.one hM) 0 t rfl (am_tys_at ht) rfl hd (kk p l e R s m args below meth c H locs cells slots ls hF hH hL)
theorem am_sld {i : Int32} (hd : decode y.2.1 pc = .ok (.iaload, 1)) (hi : vp_in i g.2.2.2.2.2.2.1) (kk : am_W g d y (pc + 1, L, .int (g.2.2.2.2.2.2.2 i.toNatClampNeg) :: st) S P) : am_W g d y (pc, L, .int i :: .ref g.2.2.2.2.2.1 :: st) S P := by
  intro p l e R s m args below meth c H locs cells slots ls hF hH hL
  obtain ⟨hx, hb, -, -, -, hown, hts, -, -, hK, -⟩ := id hF
  obtain ⟨-, -, -, hS, -, -, -, -, -, hbs, hX, hbb⟩ := id hH
  exact va_sld hx hb hX (Nat.lt_of_lt_of_le hbb hbs) (A := am_A g) (Nat.not_le.mpr hbb) hS hi hd (kk p l e R s m args below meth c H locs cells slots ls hF hH hL)
theorem am_slen (hd : decode y.2.1 pc = .ok (.arraylength, 1)) (kk : am_W g d y (pc + 1, L, .int (nI g.2.2.2.2.2.2.1) :: st) S P) : am_W g d y (pc, L, .ref g.2.2.2.2.2.1 :: st) S P := by
  intro p l e R s m args below meth c H locs cells slots ls hF hH hL
  obtain ⟨hx, hb, -, -, -, hown, hts, -, -, hK, -⟩ := id hF
  obtain ⟨-, -, -, hS, -, -, -, -, -, hbs, hX, hbb⟩ := id hH
  exact va_slen hx hb hX (Nat.lt_of_lt_of_le hbb hbs) (A := am_A g) (Nat.not_le.mpr hbb) hS hd (kk p l e R s m args below meth c H locs cells slots ls hF hH hL)
theorem am_iast {a t n : Nat} {f : Nat → Int32} {i : Int32} {x : Int32} (hd : decode y.2.1 pc = .ok (.iastore, 1)) (ht : am_tyl[t]? = some .int) (hM : S.1 a = some (.inl (t, n, .inl f))) (hi : vp_in i n) (kk : am_W g d y (pc + 1, L, st) (am_up S.1 a (.inl (t, n, .inl (upd f i.toNatClampNeg x))), S.2) P) : am_W g d y (pc, L, .int x :: .int i :: .ref a :: st) S P := by
  intro p l e R s m args below meth c H locs cells slots ls hF hH hL
  obtain ⟨hx, hb, -, -, -, hown, hts, -, -, hK, -⟩ := id hF
  refine W.iast hx hb (hH.1 a _ hM).2 ((hK.2 t _ (am_tys_at ht)).1 n (fun j => .int (f j))) (fun q => by cases q) (by show ¬ (i < 0 ∨ (arrV _ _ _).slots.size ≤ _); rw [arrV_size]; exact hi) rfl rfl hd fun H1 e1 z oq => ?_
  refine kk p l e R s m args below meth c H1 _ cells slots ls hF (hH.put hM ?_ z oq) hL
  show H1[a]? = some (vp_cell _ _)
  rw [e1]
  show some (Cell.setSlot (vp_cell _ _) _ _) = _
  rw [vp_cell_i, vp_cell_i, arrV_store]
  congr 2
  funext q
  by_cases hq : q = i.toNatClampNeg
  · subst hq
    simp [updV, upd, vp_updL]
    try rfl
  · simp [updV, upd, vp_updL, hq]
theorem am_last {a t n : Nat} {f : Nat → Int64} {i : Int32} {x : Int64} (hd : decode y.2.1 pc = .ok (.lastore, 1)) (ht : am_tyl[t]? = some .long) (hM : S.1 a = some (.inl (t, n, .inr (.inl f)))) (hi : vp_in i n) (kk : am_W g d y (pc + 1, L, st) (am_up S.1 a (.inl (t, n, .inr (.inl (vp_updL f i.toNatClampNeg x)))), S.2) P) : am_W g d y (pc, L, .long x :: .int i :: .ref a :: st) S P := by
  intro p l e R s m args below meth c H locs cells slots ls hF hH hL
  obtain ⟨hx, hb, -, -, -, hown, hts, -, -, hK, -⟩ := id hF
  refine W.last hx hb (hH.1 a _ hM).2 ((hK.2 t _ (am_tys_at ht)).1 n (fun j => .long (f j))) (fun q => by cases q) (by show ¬ (i < 0 ∨ (arrV _ _ _).slots.size ≤ _); rw [arrV_size]; exact hi) rfl rfl hd fun H1 e1 z oq => ?_
  refine kk p l e R s m args below meth c H1 _ cells slots ls hF (hH.put hM ?_ z oq) hL
  show H1[a]? = some (vp_cell _ _)
  rw [e1]
  show some (Cell.setSlot (vp_cell _ _) _ _) = _
  rw [vp_cell_l, vp_cell_l, arrV_store]
  congr 2
  funext q
  by_cases hq : q = i.toNatClampNeg
  · subst hq
    simp [updV, upd, vp_updL]
    try rfl
  · simp [updV, upd, vp_updL, hq]
theorem am_zast {a t n : Nat} {f : Nat → Int32} {i : Int32} {x : Int32} (hd : decode y.2.1 pc = .ok (.bastore, 1)) (ht : am_tyl[t]? = some .boolean) (hM : S.1 a = some (.inl (t, n, .inl f))) (hi : vp_in i n) (kk : am_W g d y (pc + 1, L, st) (am_up S.1 a (.inl (t, n, .inl (upd f i.toNatClampNeg (vp_nar .boolean x)))), S.2) P) : am_W g d y (pc, L, .int x :: .int i :: .ref a :: st) S P := by
  intro p l e R s m args below meth c H locs cells slots ls hF hH hL
  obtain ⟨hx, hb, -, -, -, hown, hts, -, -, hK, -⟩ := id hF
  refine W.zast hx hb (hH.1 a _ hM).2 ((hK.2 t _ (am_tys_at ht)).1 n (fun j => .int (f j))) (fun q => by cases q) (by show ¬ (i < 0 ∨ (arrV _ _ _).slots.size ≤ _); rw [arrV_size]; exact hi) rfl rfl hd fun H1 e1 z oq => ?_
  refine kk p l e R s m args below meth c H1 _ cells slots ls hF (hH.put hM ?_ z oq) hL
  show H1[a]? = some (vp_cell _ _)
  rw [e1]
  show some (Cell.setSlot (vp_cell _ _) _ _) = _
  rw [vp_cell_i, vp_cell_i, arrV_store]
  congr 2
  funext q
  by_cases hq : q = i.toNatClampNeg
  · subst hq
    simp [updV, upd, vp_updL, vp_nar]
    try rfl
  · simp [updV, upd, vp_updL, hq]
theorem am_aast {a t n ci v : Nat} {r : vw_C} {vs : List Value} {f : Nat → Option Nat} {i : Int32} (hd : decode y.2.1 pc = .ok (.aastore, 1)) (ht : am_tyl[t]? = some (.object r.1)) (hM : S.1 a = some (.inl (t, n, .inr (.inr (.inr (.inr f)))))) (hv : S.1 v = some (.inr (ci, vs))) (hc : am_cl[ci]? = some r) (hi : vp_in i n) (kk : am_W g d y (pc + 1, L, st) (am_up S.1 a (.inl (t, n, .inr (.inr (.inr (.inr (va_up f i.toNatClampNeg (some v))))))), S.2) P) : am_W g d y (pc, L, .ref v :: .int i :: .ref a :: st) S P := by
  intro p l e R s m args below meth c H locs cells slots ls hF hH hL
  obtain ⟨hx, hb, -, -, -, hown, hts, -, -, hK, -⟩ := id hF
  have hlt : i.toNatClampNeg < n := Nat.not_le.mp fun q => hi (Or.inr q)
  have h0 : ¬ i < 0 := fun q => hi (Or.inl q)
  obtain ⟨r', hr', cellV, g1, g2, g3, -⟩ := (hH.1 v _ hv).2
  have hcls := (hK.1 ci r hc).2
  obtain ⟨kA, comp, k1, k2, k3, -⟩ := (hK.2 t _ (am_tys_at ht)).2
  have hcomp : comp = g.1.1 ci := Option.some.inj (k3.symm.trans hcls.1)
  subst hcomp
  obtain ⟨kC, hkC, -⟩ := hcls.2
  refine W.aast hx hb (hH.1 a _ hM).2 (fun q h => by cases h) (fun h => by cases h) k1 k2 rfl hkC ⟨h0, by show _ < (arrV _ _ _).slots.size; rw [arrV_size]; exact hlt⟩ g1 (fun q h => by rw [g3] at h; cases h) (by rw [g2]; exact hkC) (by rw [g2]; exact va_assign hcls) rfl rfl hd fun H1 e1 z oq => ?_
  refine kk p l e R s m args below meth c H1 _ cells slots ls hF (hH.put hM ?_ z oq) hL
  show H1[a]? = some (vp_cell _ _)
  rw [e1]
  show some (Cell.setSlot (vp_cell _ _) _ _) = _
  rw [vp_cell_q, vp_cell_q, arrV_store]
  congr 2
  funext q
  by_cases hq : q = i.toNatClampNeg
  · subst hq
    simp [updV, va_up, va_rf]
  · simp [updV, va_up, hq]
theorem am_newa {t N' : Nat} {atype : ArrayType} {ty : FieldType} {n : Int32} {a0 : vp_A} (hd : decode y.2.1 pc = .ok (.newarray atype, 2)) (hty : newarray.typeOf atype = ty) (hw : Cond.arrayClass (newarray.typeOf atype) ∈ am_tbl) (ht : am_tyl[t]? = some ty) (ha : ∀ cA : ClassId, vp_cell cA a0 = arrV cA N' (fun _ => defaultValue ty)) (hra : ∀ (U : State) (cA : ClassId), va_RA U cA ty → U.vm.findClass ("[" ++ ty.toString) = some cA) (hn : ¬ n < 0) (hN : n.toNatClampNeg = N') (hbytes : N' * componentBytes ty ≤ 536870912) (hc : S.2.1 + 1 ≤ g.2.2.2.1) (hz : S.2.2 + N' ≤ g.2.2.2.2.1)
    (kk : am_W g d y (pc + 2, L, .ref S.2.1 :: st) (am_up S.1 S.2.1 (.inl (t, a0)), S.2.1 + 1, S.2.2 + N') P) : am_W g d y (pc, L, .int n :: st) S P := by
  intro p l e R s m args below meth c H locs cells slots ls hF hH hL
  obtain ⟨hx, hb, -, -, -, hown, hts, -, -, hK, -⟩ := id hF
  obtain ⟨-, -, hsz, hS, -, hcs, hcs1, hss, hss1, -⟩ := id hH
  subst hty
  refine va_newaK hx hb (hts _ hw) rfl hd rfl hn hN hbytes (by omega) (by omega) hsz fun H1 cA e1 z1 o1 hAr hNm => ?_
  have hcA : cA = g.2.1 t := Option.some.inj (hNm.symm.trans (hra s _ (hK.2 t _ (am_tys_at ht)).2))
  subst hcA
  refine kk p l e R s m args below meth c H1 locs (cells + 1) (slots + N') ls hF (hH.new ?_ (by rw [z1, hsz]) (fun q hq => o1 q (by rw [← hsz]; exact hq)) hc hz) hL
  show H1[S.2.1]? = some (vp_cell _ _)
  rw [ha]
  exact e1
theorem am_newq {t N' ix : Nat} {C : String} {n : Int32} (hd : decode y.2.1 pc = .ok (.anewarray ix, 3)) (hw : Cond.classLink y.1.cls ix C ∈ am_tbl) (hw2 : C ∈ am_aos) (ht : am_tyl[t]? = some (.object C)) (hn : ¬ n < 0) (hN : n.toNatClampNeg = N') (hbytes : N' * 4 ≤ 536870912) (hc : S.2.1 + 1 ≤ g.2.2.2.1) (hz : S.2.2 + N' ≤ g.2.2.2.2.1)
    (kk : am_W g d y (pc + 3, L, .ref S.2.1 :: st) (am_up S.1 S.2.1 (.inl (t, N', .inr (.inr (.inr (.inr (fun _ => none)))))), S.2.1 + 1, S.2.2 + N') P) : am_W g d y (pc, L, .int n :: st) S P := by
  intro p l e R s m args below meth c H locs cells slots ls hF hH hL
  obtain ⟨hx, hb, -, -, -, hown, hts, -, -, hK, -⟩ := id hF
  obtain ⟨-, -, hsz, hS, -, hcs, hcs1, hss, hss1, -⟩ := id hH
  subst hN
  refine W.anew hx hb hown (hts _ hw) (va_AO.use (hF.2.2.2.2.2.2.2.2.2.2.2.2.2.2.2.2.2 C hw2)) rfl hd rfl hn hbytes (by omega) (by omega) fun cA kA comp f1 f2 f3 f4 => ?_
  obtain ⟨kA', comp', -, -, -, k4⟩ := (hK.2 t _ (am_tys_at ht)).2
  have hcA : cA = g.2.1 t := Option.some.inj (f1.symm.trans k4)
  subst hcA
  generalize hH1 : H.push ({ cls := g.2.1 t, slots := Array.replicate n.toNatClampNeg .null, vm := .none } : Cell) = H1
  have z1 : H1.size = H.size + 1 := by rw [← hH1, Array.size_push]
  have e1 : H1[H.size]? = some (arrV (g.2.1 t) n.toNatClampNeg (fun _ => .null)) := by rw [← hH1, Array.getElem?_push_size, ← arrV_new]
  have o1 : ∀ q : Nat, q < H.size → H1[q]? = H[q]? := fun q hq => by rw [← hH1, Array.getElem?_push, if_neg (Nat.ne_of_lt hq)]
  have e2 : F0 m (pc + 3) ls (.ref H.size :: st) = F0 m (pc + 3) ls (.ref S.2.1 :: st) := by rw [hsz]
  refine W.eq e2 (kk p l e R s m args below meth c H1 locs (cells + 1) (slots + n.toNatClampNeg) ls hF (hH.new ?_ z1 o1 hc hz) hL)
  show H1[S.2.1]? = some (vp_cell _ _)
  rw [← hsz, vp_cell_q]
  exact e1
/-- a class that can be made: its words -/
def am_nw (own : String) (ix ci : Nat) (fs : List Value) : Prop := ∃ (C : String) (T : u_T) (N : Nat) (ty : Nat → FieldType), am_cl[ci]? = some (C, T, N) ∧ (∀ w ∈ u_ws C T N, w ∈ am_tbl) ∧ (∀ k, k < N → parseFieldDescriptor (T k).2.2.1 = some (ty k)) ∧ Cond.classLink own ix C ∈ am_tbl ∧ Cond.instantiable C N ∈ am_tbl ∧ Cond.initialized C ∈ am_tbl ∧ (∀ j, j < N → defaultValue (ty j) = vp_V fs j) ∧ fs.length = N
theorem am_new {ix ci : Nat} {fs : List Value} (hd : decode y.2.1 pc = .ok (.new ix, 3)) (hw : am_nw y.1.cls ix ci fs) (hc : S.2.1 + 1 ≤ g.2.2.2.1) (hz : S.2.2 + fs.length ≤ g.2.2.2.2.1)
    (kk : am_W g d y (pc + 3, L, .ref S.2.1 :: st) (am_up S.1 S.2.1 (.inr (ci, fs)), S.2.1 + 1, S.2.2 + fs.length) P) : am_W g d y (pc, L, st) S P := by
  intro p l e R s m args below meth c H locs cells slots ls hF hH hL
  obtain ⟨hx, hb, -, -, -, hown, hts, -, -, hK, -⟩ := id hF
  obtain ⟨-, -, hsz, hS, -, hcs, hcs1, hss, hss1, -⟩ := id hH
  obtain ⟨C, T, N, ty, hcl, hin, hty, hl1, hl2, hl3, hdf, hlen⟩ := hw
  subst hlen
  have hKn := hK.1 ci _ hcl
  refine W.newcK hx hb hown (hts _ hl1) (hts _ hl2) (hts _ hl3) rfl hd (by omega) (by omega) hKn.2.1 hsz fun H1 kC hkC e1 z1 o1 => ?_
  exact kk p l e R s m args below meth c H1 locs (cells + 1) (slots + fs.length) ls hF (hH.new ⟨_, hcl, (u_born ty hts hin hKn hkC e1 hty).to hdf⟩ (by rw [z1, hsz]) (fun q hq => o1 q (by rw [← hsz]; exact hq)) hc hz) hL
/-- Object's constructor -/
theorem am_obj {ix a : Nat} (hd : decode y.2.1 pc = .ok (.invokespecial ix, 3)) (h1 : Cond.methodLink y.1.cls ix objectInit ∈ am_tbl) (h2 : Cond.instanceMethod objectInit ∈ am_tbl) (h3 : Cond.code objectInit ⟨#[0xb1]⟩ 1 none ∈ am_tbl) (hr : (st.map fun v => v.category).sum ≤ 8) (kk : am_W g d y (pc + 3, L, st) S P) : am_W g d y (pc, L, .ref a :: st) S P := by
  intro p l e R s m args below meth c H locs cells slots ls hF hH hL
  obtain ⟨hx, hb, -, -, -, hown, hts, -, -, hK, -⟩ := id hF
  have hfr : d + 6 ≤ R.frames := hF.2.2.2.2.2.2.2.2.2.2.1
  have hlo : 60 * d + 100 ≤ R.locals := hF.2.2.2.2.2.2.2.2.2.2.2.1
  refine W.objInit hx hb hown (hts _ h1) (hts _ h2) (hts _ h3) rfl (hL.1.1.trans hF.2.2.1.symm) rfl hd (by omega) ?_ (kk p l e R s m args below meth c H locs cells slots ls hF hH hL)
  show 2 * 0 + _ + 12 ≤ R.locals
  omega
theorem am_iret {v : Int32} (hd : decode y.2.1 pc = .ok (.ireturn, 1)) (hq : y.2.2.2.1 = some .int) (hP : P (.inl (some (.int v))) S) : am_W g d y (pc, L, [.int v]) S P := by
  intro p l e R s m args below meth c H locs cells slots ls hF hH hL
  obtain ⟨hx, hb, -, hr, -, -, -, hlocks, -⟩ := id hF
  intro T hT X
  obtain ⟨fs, hret, hrun, hended, hW, hframe⟩ := X.leave (v := (some (.int v))) (fun h => by rw [hr, hq] at h; cases h) hlocks
  have hmeth2 : T.vm.method? m = some meth := X.method'
  rw [hq] at hr
  refine ⟨T.setFrames fs, ?_, .inl (some (.int v)), S, locs, cells, slots, hP, hrun, hended, hW, hframe, by show am_Hp g S R s T.heap locs cells slots; rw [hT]; exact hH⟩
  jvm_step X.here [X.here.top, hx, hb, hd, hmeth2, hr, narrow]
  (try refine ⟨rfl, ?_⟩); (try refine ⟨rfl, ?_⟩)
  first | (intro acts; rw [hret _ acts rfl rfl rfl]) | rw [hret _ _ rfl rfl rfl]
  exact Steps.refl _
theorem am_zret {v : Int32} (hd : decode y.2.1 pc = .ok (.ireturn, 1)) (hq : y.2.2.2.1 = some .boolean) (hn : narrow .boolean (.int v) = .int v) (hP : P (.inl (some (.int v))) S) : am_W g d y (pc, L, [.int v]) S P := by
  intro p l e R s m args below meth c H locs cells slots ls hF hH hL
  obtain ⟨hx, hb, -, hr, -, -, -, hlocks, -⟩ := id hF
  intro T hT X
  obtain ⟨fs, hret, hrun, hended, hW, hframe⟩ := X.leave (v := (some (.int v))) (fun h => by rw [hr, hq] at h; cases h) hlocks
  have hmeth2 : T.vm.method? m = some meth := X.method'
  rw [hq] at hr
  refine ⟨T.setFrames fs, ?_, .inl (some (.int v)), S, locs, cells, slots, hP, hrun, hended, hW, hframe, by show am_Hp g S R s T.heap locs cells slots; rw [hT]; exact hH⟩
  jvm_step X.here [X.here.top, hx, hb, hd, hmeth2, hr, hn]
  (try refine ⟨rfl, ?_⟩); (try refine ⟨rfl, ?_⟩)
  first | (intro acts; rw [hret _ acts rfl rfl rfl]) | rw [hret _ _ rfl rfl rfl]
  exact Steps.refl _
theorem am_lret {v : Int64} (hd : decode y.2.1 pc = .ok (.lreturn, 1)) (hq : y.2.2.2.1 = some .long) (hP : P (.inl (some (.long v))) S) : am_W g d y (pc, L, [.long v]) S P := by
  intro p l e R s m args below meth c H locs cells slots ls hF hH hL
  obtain ⟨hx, hb, -, hr, -, -, -, hlocks, -⟩ := id hF
  intro T hT X
  obtain ⟨fs, hret, hrun, hended, hW, hframe⟩ := X.leave (v := (some (.long v))) (fun h => by rw [hr, hq] at h; cases h) hlocks
  have hmeth2 : T.vm.method? m = some meth := X.method'
  rw [hq] at hr
  refine ⟨T.setFrames fs, ?_, .inl (some (.long v)), S, locs, cells, slots, hP, hrun, hended, hW, hframe, by show am_Hp g S R s T.heap locs cells slots; rw [hT]; exact hH⟩
  jvm_step X.here [X.here.top, hx, hb, hd, hmeth2, hr, narrow]
  (try refine ⟨rfl, ?_⟩); (try refine ⟨rfl, ?_⟩)
  first | (intro acts; rw [hret _ acts rfl rfl rfl]) | rw [hret _ _ rfl rfl rfl]
  exact Steps.refl _
theorem am_vret  (hd : decode y.2.1 pc = .ok (.return_, 1)) (hq : y.2.2.2.1 = none) (hP : P (.inl none) S) : am_W g d y (pc, L, []) S P := by
  intro p l e R s m args below meth c H locs cells slots ls hF hH hL
  obtain ⟨hx, hb, -, hr, -, -, -, hlocks, -⟩ := id hF
  intro T hT X
  obtain ⟨fs, hret, hrun, hended, hW, hframe⟩ := X.leave (v := none) (fun h => rfl) hlocks
  have hmeth2 : T.vm.method? m = some meth := X.method'
  rw [hq] at hr
  refine ⟨T.setFrames fs, ?_, .inl none, S, locs, cells, slots, hP, hrun, hended, hW, hframe, by show am_Hp g S R s T.heap locs cells slots; rw [hT]; exact hH⟩
  jvm_step X.here [X.here.top, hx, hb, hd, hmeth2, hr]
  (try refine ⟨rfl, ?_⟩); (try refine ⟨rfl, ?_⟩)
  first | (intro acts; rw [hret _ acts rfl rfl rfl]) | rw [hret _ _ rfl rfl rfl]
  exact Steps.refl _
theorem am_aret {v : Nat} {C : String} (hd : decode y.2.1 pc = .ok (.areturn, 1)) (hq : y.2.2.2.1 = some (.object C)) (hP : P (.inl (some (.ref v))) S) : am_W g d y (pc, L, [.ref v]) S P := by
  intro p l e R s m args below meth c H locs cells slots ls hF hH hL
  obtain ⟨hx, hb, -, hr, -, -, -, hlocks, -⟩ := id hF
  intro T hT X
  obtain ⟨fs, hret, hrun, hended, hW, hframe⟩ := X.leave (v := (some (.ref v))) (fun h => by rw [hr, hq] at h; cases h) hlocks
  have hmeth2 : T.vm.method? m = some meth := X.method'
  rw [hq] at hr
  refine ⟨T.setFrames fs, ?_, .inl (some (.ref v)), S, locs, cells, slots, hP, hrun, hended, hW, hframe, by show am_Hp g S R s T.heap locs cells slots; rw [hT]; exact hH⟩
  jvm_step X.here [X.here.top, hx, hb, hd, hmeth2, hr]
  (try refine ⟨rfl, ?_⟩); (try refine ⟨rfl, ?_⟩)
  first | (intro acts; rw [hret _ acts rfl rfl rfl]) | rw [hret _ _ rfl rfl rfl]
  exact Steps.refl _
end AmRows
