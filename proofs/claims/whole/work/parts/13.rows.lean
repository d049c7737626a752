/-! rows that were wanting: a throw whose text has a wide index, shifts, Math; cells of other kinds are other cells -/
section AmMore
variable {g : am_G} {d : Nat} {y : am_I} {pc : Nat} {L : List (Option Value)} {st : List Value} {S : am_S} {P : am_O → am_S → Prop}
theorem am_thrW {ik is ic ci : Nat} {cls text : String} {names : List String} (d0 : decode y.2.1 pc = .ok (.new ik, 3)) (d3 : decode y.2.1 (pc + 3) = .ok (.dup, 1)) (d4 : decode y.2.1 (pc + 4) = .ok (.ldc_w is, 3)) (d6 : decode y.2.1 (pc + 7) = .ok (.invokespecial ic, 3)) (d9 : decode y.2.1 (pc + 10) = .ok (.athrow, 1)) (hw : am_tw y.1.cls ik is ic cls text names ci) (hh : y.2.2.2.2 = []) (hst : (st.map fun v => v.category).sum ≤ 8) (hc : S.2.1 + 1 ≤ g.2.2.2.1) (hz : S.2.2 + 6 ≤ g.2.2.2.2.1)
    (hP : P (.inr S.2.1) (am_up S.1 S.2.1 (.inr (ci, [])), S.2.1 + 1, S.2.2 + 6)) : am_W g d y (pc, L, st) S P := by
  intro p l e R s m args below meth c H locs cells slots ls hF hH hL T hT X
  obtain ⟨hx, hb, hml, -, -, hown, hts, hlocks, hex, hK, hfr, hlo, hl, hU, hN, -, hstrs, -⟩ := id hF
  obtain ⟨hM, htot, hsz, hS, hns, hcs, hcs1, hss, hss1, hbs, hX, hbb⟩ := id hH
  obtain ⟨hcls, hnames, hn3, w1, w2, w3, w4, hgood, TC, hcl⟩ := hw
  obtain ⟨sa, hstr⟩ := hstrs _ w3
  have hstr : vk_R y.1.cls is text sa s := hstr
  have hno : c.exceptionTable.toList = [] := List.map_eq_nil_iff.mp (hex.trans hh)
  have hsize : ls.size = c.maxLocals := hL.1.1.trans hml.symm
  have htr : e.platform.stackTraces = false := (show e.platform.stackTraces = l.stackTraces by rw [X.admits.platform]).trans hl
  have Y := vx_rebase X (R' := { frames := R.frames, locals := R.locals, cells := 1, slots := 6 }) (Nat.le_refl _) (Nat.le_refl _) (by show cells + 1 ≤ R.cells; omega) (by show slots + 6 ≤ R.slots; omega)
  obtain ⟨u, hA⟩ : ∃ z, z = (T.setVm s.vm).setFrames (.invoking m args :: below) := ⟨_, rfl⟩
  rw [← hA] at Y
  have hvm : u.vm = s.vm := by rw [hA]; rfl
  have hhp : u.heap = H := by rw [hA]; exact hT
  have hW0 : s.WarmedH u.vm := by rw [hvm]; exact State.WarmedH.refl s
  have wd : ∀ w ∈ Cond.classLink y.1.cls ik cls :: Cond.initialized cls :: vx_atS y.1.cls ic cls names, w.before args s = true → w.before args u = true := fun w hw => vx_ot_at hW0 hvm.symm (hgood w hw)
  have hU2 : vx_Zq Bundle.tN "UNASSIGNED_STACK" Bundle.steD (am_A g) u u.heap := by rw [hhp]; exact vx_Zq.moved hW0.alike (hU.kept hS.2.1)
  have hN2 : vx_Zq Bundle.tN "SUPPRESSED_SENTINEL" Bundle.listD (am_A g) u u.heap := by rw [hhp]; exact vx_Zq.moved hW0.alike (hN.kept hS.2.1)
  have hall : ∀ w ∈ Bundle.ownAtoms y.1.cls ic cls names, w.before args u = true := vx_own (fun w hw => wd w (List.mem_cons_of_mem _ (List.mem_cons_of_mem _ hw)) (hts w (w4 w hw))) (vx_isRefq hU2.1) (vx_isRefq hN2.1) hU2.2.word hN2.2.word
  have hown2 : u.vm.findClass y.1.cls = some m.cls := by rw [hvm]; exact hown
  obtain ⟨vm1, cX, kX, hfX, hkX, -, -, X1, st1⟩ := Y.newCold hx (own := y.1.cls) (C := cls) (index := ik) (n := 6) hown2 (wd _ List.mem_cons_self (hts _ w1)) (hall _ (by simp [Bundle.ownAtoms])) (wd _ (List.mem_cons_of_mem _ List.mem_cons_self) (hts _ w2)) (g := F0 m pc ls st) rfl (by rw [hb]; exact d0) (Nat.le_refl _) (Nat.le_refl _)
  generalize hT1 : (T.setVm vm1).pushCell { cls := cX, slots := kX.instanceTypes.map defaultValue, vm := .none } = T1 at X1 st1
  have hTs : T.heap.size = S.2.1 := by rw [hT]; exact hsz
  have hcat : (Value.ref T.heap.size).category = 1 := rfl
  have hcellA : T1.heap[T.heap.size]? = some (freshCell cX kX) := by rw [← hT1]; exact State.heap_pushCell_size _ _
  have d3c : decode c.code (pc + 3) = .ok (.dup, 1) := by rw [hb]; exact d3
  have d4c : decode c.code (pc + 4) = .ok (.ldc_w is, 3) := by rw [hb]; exact d4
  have hstr2 : vk_R y.1.cls is text sa u := vk_R.warm hW0 hstr
  obtain ⟨U, hsteps, hrun, hend, hWu, hsame, ce, hce, hO⟩ := X1.ctorThrowS hx htr (own := y.1.cls) (cls := cls) (names := names) (ic := ic) hown2 hcls hnames hall (fun x hx => nomatch hx) hfX hkX hcellA (by rw [hhp, hT]; exact Nat.le_refl _) (msg := .ref sa) rfl
    (g := { method := m, pc := pc + 7, locals := ls, stack := .ref sa :: .ref T.heap.size :: .ref T.heap.size :: st, locked := none }) rfl hsize rfl rfl (rest := st) rfl (by rw [hb]; exact d6) (by rw [hb]; exact d9) (fun x hx => by rw [hno] at hx; cases hx) (by show names.length + 3 < R.frames; omega)
    (by simp only [List.map_cons, List.sum_cons, hcat]; show 2 * 0 + _ + _ ≤ R.locals; omega) hlocks
  obtain ⟨f1, f2⟩ := vx_frame hsame
  rw [hhp] at f1 f2
  have hWs : s.WarmedH U.vm := State.WarmedH.trans hW0 hWu
  have hcc : s.vm.findClass cls = some ce.cls := by
    have h9 := hO.cls
    rw [hvm] at h9
    exact h9
  have hUs : U.heap.size = H.size + 1 := by
    have h1 : U.heap.size ≤ u.heap.size + 1 := hsame.2.2.1
    have h2 : T.heap.size < U.heap.size := (Array.getElem?_eq_some_iff.mp hce).1
    rw [hhp] at h1
    rw [hT] at h2
    omega
  have hsn : s.sameButNew ({ U with vm := s.vm } : State) locs (cells + 1) (slots + 6) := by
    subst hA
    obtain ⟨e1, e2⟩ := hsame
    rw [State.setFrames_setFrames] at e1
    have h2 : (T.setVm s.vm).sameButNew ({ U with vm := s.vm } : State) [] (0 + 1) (0 + 6) := ⟨e1, e2⟩
    have h3 := X.same.trans h2
    rw [List.append_nil] at h3
    exact h3.mono (by omega) (by omega)
  refine ⟨U, ?_, .inr S.2.1, _, locs, cells + 1, slots + 6, hP, hrun, by rw [← hTs]; exact hend, hWs, hsn, ?_⟩
  · refine st1 _ ?_
    show Steps p.tables e below (T1.setTop { method := m, pc := pc + 3, locals := ls, stack := .ref T.heap.size :: st, locked := none }) _
    jvm_step X1.here [X1.here.top, hx, d3c, Value.category]
    exact X1.ldcStringW hx (own := y.1.cls) (text := text) (index := is) (a := sa) hown2 hstr2.1 hstr2.2 (g := { method := m, pc := pc + 4, locals := ls, stack := .ref T.heap.size :: .ref T.heap.size :: st, locked := none }) rfl d4c _ hsteps
  · refine hH.new ⟨_, hcl, ce, ?_, ?_, hO.vm, fun k hk => absurd hk (Nat.not_lt_zero k)⟩ hUs (fun q hq => f2 q hq (fun z hz => nomatch hz)) hc hz
    · show U.heap[S.2.1]? = some ce
      rw [← hTs]; exact hce
    · exact Option.some.inj (hcc.symm.trans (hK.1 ci _ hcl).2.1)
theorem am_lshr {x : Int64} {z : Int32} (hd : decode y.2.1 pc = .ok (.lshr, 1)) (k : am_W g d y (pc + 1, L, .long (x >>> (z.toInt64 &&& 63)) :: st) S P) : am_W g d y (pc, L, .int z :: .long x :: st) S P := by
  intro p l e R s m args below meth c H locs cells slots ls hF hH hL
  exact lv_lshr hF.1 hF.2.1 hd rfl (k p l e R s m args below meth c H locs cells slots ls hF hH hL)
theorem am_mmax {ix : Nat} {x z : Int32} (hd : decode y.2.1 pc = .ok (.invokestatic ix, 3)) (h1 : Cond.methodLink y.1.cls ix Lib.Math.max.name ∈ am_tbl) (hr : (st.map fun v => v.category).sum ≤ 8) (k : am_W g d y (pc + 3, L, .int (if x < z then z else x) :: st) S P) : am_W g d y (pc, L, .int z :: .int x :: st) S P := by
  intro p l e R s m args below meth c H locs cells slots ls hF hH hL
  obtain ⟨hx, hb, hml, -, -, hown, hts, -, -, hK, hfr, hlo, -⟩ := id hF
  exact va_mmax hx hb (hml.trans hL.1.1.symm) hown (hts _ h1) (hts _ (am_in 309 (by decide +kernel) rfl)) (hts _ (am_in 10 (by decide +kernel) rfl)) (hts _ (am_in 310 (by decide +kernel) rfl)) (by omega) (by omega) hH.2.2.2.2.2.2.1 hH.2.2.2.2.2.2.2.2.1 hd (k p l e R s m args below meth c H locs cells slots ls hF hH hL)
theorem am_mmin {ix : Nat} {x z : Int32} (hd : decode y.2.1 pc = .ok (.invokestatic ix, 3)) (h1 : Cond.methodLink y.1.cls ix Lib.Math.min.name ∈ am_tbl) (hr : (st.map fun v => v.category).sum ≤ 8) (k : am_W g d y (pc + 3, L, .int (if z < x then z else x) :: st) S P) : am_W g d y (pc, L, .int z :: .int x :: st) S P := by
  intro p l e R s m args below meth c H locs cells slots ls hF hH hL
  obtain ⟨hx, hb, hml, -, -, hown, hts, -, -, hK, hfr, hlo, -⟩ := id hF
  exact va_mmin hx hb (hml.trans hL.1.1.symm) hown (hts _ h1) (hts _ (am_in 312 (by decide +kernel) rfl)) (hts _ (am_in 10 (by decide +kernel) rfl)) (hts _ (am_in 313 (by decide +kernel) rfl)) (by omega) (by omega) hH.2.2.2.2.2.2.1 hH.2.2.2.2.2.2.2.2.1 hd (k p l e R s m args below meth c H locs cells slots ls hF hH hL)
theorem am_mmax_long {ix : Nat} {x z : Int64} (hd : decode y.2.1 pc = .ok (.invokestatic ix, 3)) (h1 : Cond.methodLink y.1.cls ix Lib.MathLoose.max_long.x ∈ am_tbl) (hr : (st.map fun v => v.category).sum ≤ 8) (k : am_W g d y (pc + 3, L, .long (if z < x then x else z) :: st) S P) : am_W g d y (pc, L, .long z :: .long x :: st) S P := by
  intro p l e R s m args below meth c H locs cells slots ls hF hH hL
  obtain ⟨hx, hb, hml, -, -, hown, hts, -, -, hK, hfr, hlo, -⟩ := id hF
  exact va_mmax_long hx hb (hml.trans hL.1.1.symm) hown (hts _ h1) (hts _ (am_in 428 (by decide +kernel) rfl)) (hts _ (am_in 10 (by decide +kernel) rfl)) (hts _ (am_in 429 (by decide +kernel) rfl)) (by omega) (by omega) hH.2.2.2.2.2.2.1 hH.2.2.2.2.2.2.2.2.1 hd (k p l e R s m args below meth c H locs cells slots ls hF hH hL)
theorem am_mmin_long {ix : Nat} {x z : Int64} (hd : decode y.2.1 pc = .ok (.invokestatic ix, 3)) (h1 : Cond.methodLink y.1.cls ix Lib.MathLoose.min_long.x ∈ am_tbl) (hr : (st.map fun v => v.category).sum ≤ 8) (k : am_W g d y (pc + 3, L, .long (if z < x then z else x) :: st) S P) : am_W g d y (pc, L, .long z :: .long x :: st) S P := by
  intro p l e R s m args below meth c H locs cells slots ls hF hH hL
  obtain ⟨hx, hb, hml, -, -, hown, hts, -, -, hK, hfr, hlo, -⟩ := id hF
  exact va_mmin_long hx hb (hml.trans hL.1.1.symm) hown (hts _ h1) (hts _ (am_in 224 (by decide +kernel) rfl)) (hts _ (am_in 10 (by decide +kernel) rfl)) (hts _ (am_in 225 (by decide +kernel) rfl)) (by omega) (by omega) hH.2.2.2.2.2.2.1 hH.2.2.2.2.2.2.2.2.1 hd (k p l e R s m args below meth c H locs cells slots ls hF hH hL)
end AmMore
def am_kd (e : va_E) : Nat × Nat × Nat := match e with
  | .inr o => (0, o.1, 0)
  | .inl a => (1, a.1, a.2.1)
theorem am_nd {M : am_M} {a b : Nat} {e e0 : va_E} (hb : M b = some e) (ha : M a = some e0) (h : am_kd e ≠ am_kd e0) : b ≠ a := fun q => h (by rw [q] at hb; rw [Option.some.inj (hb.symm.trans ha)])
/-- what a throw of the class ci leaves -/
abbrev am_thrown (ci : Nat) (S : am_S) : am_S := (am_up S.1 S.2.1 (.inr (ci, [])), S.2.1 + 1, S.2.2 + 6)
