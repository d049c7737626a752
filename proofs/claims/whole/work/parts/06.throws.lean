/-! throws: 'throw new E("..")' leaves the method; a handler of the caller takes it -/
section AmThrow
variable {g : am_G} {d : Nat} {y : am_I} {pc : Nat} {L : List (Option Value)} {st : List Value} {S : am_S} {P : am_O → am_S → Prop}
/-- the words of a throw at the pool's places ik (class), is (text), ic (constructor) -/
def am_tw (own : String) (ik is ic : Nat) (cls text : String) (names : List String) (ci : Nat) : Prop :=
  Bundle.fit cls = true ∧ (∀ n ∈ names, Bundle.fit n = true) ∧ names.length ≤ 2 ∧ Cond.classLink own ik cls ∈ am_tbl ∧ Cond.initialized cls ∈ am_tbl ∧ (own, is, text) ∈ am_strs ∧ (∀ w ∈ vx_atS own ic cls names, w ∈ am_tbl) ∧ (∀ w ∈ Cond.classLink own ik cls :: Cond.initialized cls :: vx_atS own ic cls names, vx_ot w = true) ∧ ∃ T : u_T, am_cl[ci]? = some (cls, T, 0)
theorem am_thr {ik is ic ci : Nat} {cls text : String} {names : List String} (d0 : decode y.2.1 pc = .ok (.new ik, 3)) (d3 : decode y.2.1 (pc + 3) = .ok (.dup, 1)) (d4 : decode y.2.1 (pc + 4) = .ok (.ldc is, 2)) (d6 : decode y.2.1 (pc + 6) = .ok (.invokespecial ic, 3)) (d9 : decode y.2.1 (pc + 9) = .ok (.athrow, 1)) (hw : am_tw y.1.cls ik is ic cls text names ci) (hh : y.2.2.2.2 = []) (hst : (st.map fun v => v.category).sum ≤ 8) (hc : S.2.1 + 1 ≤ g.2.2.2.1) (hz : S.2.2 + 6 ≤ g.2.2.2.2.1)
    (hP : P (.inr S.2.1) (am_up S.1 S.2.1 (.inr (ci, [])), S.2.1 + 1, S.2.2 + 6)) : am_W g d y (pc, L, st) S P := by
  intro p l e R s m args below meth c H locs cells slots ls hF hH hL T hT X
  obtain ⟨hx, hb, hml, -, -, hown, hts, hlocks, hex, hK, hfr, hlo, hl, hU, hN, -, hstrs, -⟩ := id hF
  obtain ⟨hM, htot, hsz, hS, hns, hcs, hcs1, hss, hss1, hbs, hX, hbb⟩ := id hH
  obtain ⟨hcls, hnames, hn3, w1, w2, w3, w4, hgood, TC, hcl⟩ := hw
  obtain ⟨sa, hstr⟩ := hstrs _ w3
  have hstr : vk_R y.1.cls is text sa s := hstr
  have hno : c.exceptionTable.toList = [] := List.map_eq_nil_iff.mp (hex.trans hh)
  have hsize : ls.size = c.maxLocals := hL.1.1.trans hml.symm
  have htr : e.platform.stackTraces = false := (show e.platform.stackTraces = l.stackTraces by rw [X.admits.platform]).trans hl
  have Y := vx_rebase X (R' := { frames := R.frames, locals := R.locals, cells := 1, slots := 6 }) (Nat.le_refl _) (Nat.le_refl _) (by show cells + 1 ≤ R.cells; omega) (by show slots + 6 ≤ R.slots; omega)
  obtain ⟨u, hA⟩ : ∃ z, z = (T.setVm s.vm).setFrames (.invoking m args :: below) := ⟨_, rfl⟩
  rw [← hA] at Y
  have hvm : u.vm = s.vm := by rw [hA]; rfl
  have hhp : u.heap = H := by rw [hA]; exact hT
  have hW0 : s.WarmedH u.vm := by rw [hvm]; exact State.WarmedH.refl s
  have wd : ∀ w ∈ Cond.classLink y.1.cls ik cls :: Cond.initialized cls :: vx_atS y.1.cls ic cls names, w.before args s = true → w.before args u = true := fun w hw => vx_ot_at hW0 hvm.symm (hgood w hw)
  have hU2 : vx_Zq Bundle.tN "UNASSIGNED_STACK" Bundle.steD (am_A g) u u.heap := by rw [hhp]; exact vx_Zq.moved hW0.alike (hU.kept hS.2.1)
  have hN2 : vx_Zq Bundle.tN "SUPPRESSED_SENTINEL" Bundle.listD (am_A g) u u.heap := by rw [hhp]; exact vx_Zq.moved hW0.alike (hN.kept hS.2.1)
  have hall : ∀ w ∈ Bundle.ownAtoms y.1.cls ic cls names, w.before args u = true := vx_own (fun w hw => wd w (List.mem_cons_of_mem _ (List.mem_cons_of_mem _ hw)) (hts w (w4 w hw))) (vx_isRefq hU2.1) (vx_isRefq hN2.1) hU2.2.word hN2.2.word
  have hown2 : u.vm.findClass y.1.cls = some m.cls := by rw [hvm]; exact hown
  obtain ⟨vm1, cX, kX, hfX, hkX, -, -, X1, st1⟩ := Y.newCold hx (own := y.1.cls) (C := cls) (index := ik) (n := 6) hown2 (wd _ List.mem_cons_self (hts _ w1)) (hall _ (by simp [Bundle.ownAtoms])) (wd _ (List.mem_cons_of_mem _ List.mem_cons_self) (hts _ w2)) (g := F0 m pc ls st) rfl (by rw [hb]; exact d0) (Nat.le_refl _) (Nat.le_refl _)
  generalize hT1 : (T.setVm vm1).pushCell { cls := cX, slots := kX.instanceTypes.map defaultValue, vm := .none } = T1 at X1 st1
  have hTs : T.heap.size = S.2.1 := by rw [hT]; exact hsz
  have hcat : (Value.ref T.heap.size).category = 1 := rfl
  have hcellA : T1.heap[T.heap.size]? = some (freshCell cX kX) := by rw [← hT1]; exact State.heap_pushCell_size _ _
  have d3c : decode c.code (pc + 3) = .ok (.dup, 1) := by rw [hb]; exact d3
  have d4c : decode c.code (pc + 4) = .ok (.ldc is, 2) := by rw [hb]; exact d4
  have hstr2 : vk_R y.1.cls is text sa u := vk_R.warm hW0 hstr
  obtain ⟨U, hsteps, hrun, hend, hWu, hsame, ce, hce, hO⟩ := X1.ctorThrowS hx htr (own := y.1.cls) (cls := cls) (names := names) (ic := ic) hown2 hcls hnames hall (fun x hx => nomatch hx) hfX hkX hcellA (by rw [hhp, hT]; exact Nat.le_refl _) (msg := .ref sa) rfl
    (g := { method := m, pc := pc + 6, locals := ls, stack := .ref sa :: .ref T.heap.size :: .ref T.heap.size :: st, locked := none }) rfl hsize rfl rfl (rest := st) rfl (by rw [hb]; exact d6) (by rw [hb]; exact d9) (fun x hx => by rw [hno] at hx; cases hx) (by show names.length + 3 < R.frames; omega)
    (by simp only [List.map_cons, List.sum_cons, hcat]; show 2 * 0 + _ + _ ≤ R.locals; omega) hlocks
  obtain ⟨f1, f2⟩ := vx_frame hsame
  rw [hhp] at f1 f2
  have hWs : s.WarmedH U.vm := State.WarmedH.trans hW0 hWu
  have hcc : s.vm.findClass cls = some ce.cls := by
    have h9 := hO.cls
    rw [hvm] at h9
    exact h9
  have hUs : U.heap.size = H.size + 1 := by
    have h1 : U.heap.size ≤ u.heap.size + 1 := hsame.2.2.1
    have h2 : T.heap.size < U.heap.size := (Array.getElem?_eq_some_iff.mp hce).1
    rw [hhp] at h1
    rw [hT] at h2
    omega
  have hsn : s.sameButNew ({ U with vm := s.vm } : State) locs (cells + 1) (slots + 6) := by
    subst hA
    obtain ⟨e1, e2⟩ := hsame
    rw [State.setFrames_setFrames] at e1
    have h2 : (T.setVm s.vm).sameButNew ({ U with vm := s.vm } : State) [] (0 + 1) (0 + 6) := ⟨e1, e2⟩
    have h3 := X.same.trans h2
    rw [List.append_nil] at h3
    exact h3.mono (by omega) (by omega)
  refine ⟨U, ?_, .inr S.2.1, _, locs, cells + 1, slots + 6, hP, hrun, by rw [← hTs]; exact hend, hWs, hsn, ?_⟩
  · refine st1 _ ?_
    show Steps p.tables e below (T1.setTop { method := m, pc := pc + 3, locals := ls, stack := .ref T.heap.size :: st, locked := none }) _
    jvm_step X1.here [X1.here.top, hx, d3c, Value.category]
    exact X1.ldcString hx (own := y.1.cls) (text := text) (index := is) (a := sa) hown2 hstr2.1 hstr2.2 (g := { method := m, pc := pc + 4, locals := ls, stack := .ref T.heap.size :: .ref T.heap.size :: st, locked := none }) rfl d4c _ hsteps
  · refine hH.new ⟨_, hcl, ce, ?_, ?_, hO.vm, fun k hk => absurd hk (Nat.not_lt_zero k)⟩ hUs (fun q hq => f2 q hq (fun z hz => nomatch hz)) hc hz
    · show U.heap[S.2.1]? = some ce
      rw [← hTs]; exact hce
    · exact Option.some.inj (hcc.symm.trans (hK.1 ci _ hcl).2.1)
/-- taken by a handler -/
theorem am_catYes {x ci h0 e0 hp ct : Nat} {fs : List Value} {E name : String} {pre suf : List (Nat × Nat × Nat × Nat)} (hh : y.2.2.2.2 = pre ++ (h0, e0, hp, ct) :: suf) (hpre : ∀ z ∈ pre, (z.2.2.2 ≠ 0 ∧ ∃ nm : String, Cond.classLink y.1.cls z.2.2.2 nm ∈ am_tbl ∧ (E, nm) ∈ am_ncl)) (hc : h0 ≤ pc ∧ pc < e0) (hct : ct ≠ 0) (hl : Cond.classLink y.1.cls ct name ∈ am_tbl) (hca : Cond.castable E name ∈ am_tbl) (hM : S.1 x = some (.inr (ci, fs))) (hcl : ∃ (T : u_T) (N : Nat), am_cl[ci]? = some (E, T, N)) (k : am_W g d y (hp, L, [.ref x]) S P) : am_Cat g d y pc L x S P := by
  intro p l e R s m args below meth c T locs cells slots ls rest hF hH hL X
  obtain ⟨hx, hb, hml, -, -, hown, hts, hlocks, hex, hK, hfr, hlo, -, -, -, hnc, -⟩ := id hF
  obtain ⟨TC, NC, hcl⟩ := hcl
  have hsp : c.exceptionTable.toList = (pre.map (fun q => (⟨q.1, q.2.1, q.2.2.1, q.2.2.2⟩ : ExceptionTableEntry))) ++ ⟨h0, e0, hp, ct⟩ :: suf.map (fun q => (⟨q.1, q.2.1, q.2.2.1, q.2.2.2⟩ : ExceptionTableEntry)) := by
    have h1 : (c.exceptionTable.toList.map (fun h => (h.startPc, h.endPc, h.handlerPc, h.catchType))).map (fun q => (⟨q.1, q.2.1, q.2.2.1, q.2.2.2⟩ : ExceptionTableEntry)) = c.exceptionTable.toList := by
      rw [List.map_map]
      exact List.map_id _
    rw [← h1, hex, hh]
    simp
  obtain ⟨r, h1, cell, q1, q2, q3, -⟩ := (hH.1 x _ hM).2
  have hr : r = (E, TC, NC) := Option.some.inj (h1.symm.trans hcl)
  subst hr
  have hcc : s.vm.findClass E = some cell.cls := by rw [q2]; exact (hK.1 ci _ hcl).2.1
  have key := vx_catch (Q := am_Q g R s below P) (locs := locs) (cells := cells) (slots := slots) (ls := ls) (rest := rest) (H := T.heap) (l := l) (R := R) (p := p) (e := e) (below := below) (meth := meth) (pc := pc) hown _ _ _ hsp (fun z hz => by
      obtain ⟨z0, hz0, rfl⟩ := List.mem_map.mp hz
      obtain ⟨hz1, nm, hz2, hz3⟩ := hpre z0 hz0
      exact Or.inr ⟨hz1, nm, hts _ hz2, hnc _ hz3⟩) (by simp [covers, hc.1, hc.2]) hct (hts _ hl) (hts _ hca) q1 q3 hcc (k p l e R s m args below meth c T.heap locs cells slots ls hF hH hL)
  exact key T rfl X
end AmThrow
