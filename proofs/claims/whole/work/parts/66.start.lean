/-! THE CLAIM OUT OF ONE WALK OF THE LAW'S BODY. Your part is whole_start (and what it stands on); all else here is the same for every law, but numbers. -/
def R_law : String := "StrideViewsLaw"
def lw_P (b : Addr) (xs : List Int32) (args : Array Value) (s : State) : Prop := args = #[.ref b] ∧ s.IntsAt b xs ∧ xs.length ≤ 3072 ∧ (Jvm.Cond.and given_1 narrow_1).before args s = true
def lw_Q (_ : Array Value) (s : State) (o : Outcome) (t : State) : Prop := o = .returned (some (.int 1)) ∧ Framed s o t [] 601024 7293034
def lw_Z (below : List Frame) (a : Array Value) (s : State) : State → Prop := fun t => ∃ o, t.status = .running ∧ Ended t below o ∧ lw_Q a s o t
/-- the law's own end, with 1 on the stack, nothing written that was there before, its room as the claim has it -/
theorem lw_ret {p : Program} {l : Launch} {e : Env} {s : State} {m : MethodId} {below : List Frame} {meth : Method} {c : Code} {b : Nat} (hx : p.tables.exec = Jvm.exec) (hb : c.code = code) (hr : meth.sig.returnType = ret) (hlocks : meth.locks = false) {pc : Nat} {H : Heap} {ls : Array Slot} (hdg : decode code pc = .ok (.ireturn, 1)) : W p l e room_1 s m #[Value.ref b] below meth c H [] 601024 7293034 (lw_Z below #[Value.ref b] s) (F0 m pc ls [.int 1]) := by
  intro T hT X
  obtain ⟨fs, hret, hrun, hended, hW, hframe⟩ := X.leave (v := some (.int 1)) (hlocks := hlocks) (fun h => by rw [hr] at h; cases h)
  have hmeth' : T.vm.method? m = some meth := X.method'
  refine ⟨T.setFrames fs, ?_, .returned (some (.int 1)), hrun, hended, rfl, ⟨_, rfl⟩, hW, hframe⟩
  jvm_step X.here [X.here.top, hx, hb, hdg, hmeth', hr, ret, narrow_b1]
  (try refine ⟨rfl, ?_⟩); (try refine ⟨rfl, ?_⟩)
  first | (intro acts; rw [hret _ acts rfl rfl rfl]) | rw [hret _ _ rfl rfl rfl]
  exact Steps.refl _
/-- what holds at the law's entry: the machine, the code, the tables' words (any of lw_tbl by 'hts w (by decide +kernel)'), the script of L ints xs at the cell b, what the Statement gives of the start (any of its parts by flat_of_before) -/
def lw_At (p : Program) (s : State) (m : MethodId) (meth : Method) (c : Code) (b L : Nat) (xs : Nat → Int32) : Prop :=
  p.tables.exec = Jvm.exec ∧ c.code = code ∧ meth.sig.returnType = ret ∧ c.maxLocals = 8 ∧ s.vm.findClass R_law = some m.cls ∧ (∀ w ∈ lw_tbl, w.before #[Value.ref b] s = true) ∧ va_X b L xs s s.heap ∧ b < s.heap.size ∧ meth.locks = false ∧ (Jvm.Cond.and given_1 narrow_1).before #[Value.ref b] s = true
abbrev lw_g (dC : Nat → ClassId) (dI : Nat → Nat → Nat) (K : Nat → ClassId) (s : State) (b L : Nat) (xs : Nat → Int32) : am_G := ((dC, dI), K, s.heap.size, s.heap.size + room_1.cells, room_1.slots, b, L, xs)
theorem lw_arp {args : Array Value} {s : State} {t : FieldType} (h : (Cond.arrayClass t).before args s = true) (ho : ∀ C, t ≠ .object C) : ∃ c : ClassId, ArrOfT s c t ∧ va_RA s c t := by
  obtain ⟨c, k, comp, h1, h2, h3⟩ := Cond.arrayClass_spec h
  refine ⟨c, fun N z => ⟨(fun q hq => by cases hq), k, h2, comp, h3⟩, ?_⟩
  cases t <;> first | exact h1 | exact absurd rfl (ho _)
theorem lw_aro {args : Array Value} {s : State} {C : String} (h : (Cond.arrayOver (.object C)).before args s = true) : ∃ c : ClassId, ArrOfT s c (.object C) ∧ va_RA s c (.object C) := by
  obtain ⟨comp, c, k, h1, -, h2, h3, h4⟩ := Cond.arrayOver_spec h
  exact ⟨c, fun N z => ⟨(fun q hq => by cases hq), k, h2, comp, h3⟩, k, comp, h2, h3, h1, h4⟩
theorem lw_strs : ∀ q ∈ am_strs, q.1 = "StrideViews" ∧ Cond.stringRef q.1 q.2.1 q.2.2 ∈ lw_tbl := by decide +kernel
theorem lw_ncs {args : Array Value} {s : State} (h : (Jvm.Cond.and given_1 narrow_1).before args s = true) : ∀ q ∈ am_ncl, va_Nc q.1 q.2 s := by
  have hs := flat_of_before _ h
  intro q hq
  simp only [am_ncl, List.mem_cons, List.not_mem_nil, or_false] at hq
  rcases hq with rfl | rfl | rfl | rfl | rfl | rfl
  · exact va_Nc.of (hs _ (by decide +kernel))
  · exact va_Nc.of (hs _ (by decide +kernel))
  · exact va_Nc.of (hs _ (by decide +kernel))
  · exact va_Nc.of (hs _ (by decide +kernel))
  · exact va_Nc.of (hs _ (by decide +kernel))
  · exact va_Nc.of (hs _ (by decide +kernel))
set_option maxHeartbeats 4000000 in
set_option maxRecDepth 100000 in
/-- the law, from its entry -/
theorem whole_start {p : Program} {e : Env} {s : State} {m : MethodId} {below : List Frame} {meth : Method} {c : Code} (l : Launch) (hl9 : l.stackTraces = false) {b L : Nat} {xs : Nat → Int32} (hnm : s.methodNamed? x = some m) (hcw : (Jvm.Cond.code x code maxLocals ret).before #[Value.ref b] s = true) (hL : L ≤ 3072) (C0 : lw_At p s m meth c b L xs) : W p l e room_1 s m #[Value.ref b] below meth c s.heap [] 0 0 (lw_Z below #[Value.ref b] s) (entryFrame m ([Value.ref b] : List Value).toArray 8) := by
  obtain ⟨hx, hb, hr, hml, hown, hts, hX, hbl, hlocks, hgv⟩ := id C0
  have hs := flat_of_before _ hgv
  have hta : ∀ w ∈ am_tbl, w.before #[Value.ref b] s = true := fun w hw => hts w (List.mem_filter.mp hw).1
  obtain ⟨c0, iS0, hKn0⟩ := u_known (C := "StrideViews$Store") (T := am_TS) (N := 4) (n := 4) hta am_iS (hts (.instantiable "StrideViews$Store" 4) (by decide +kernel))
  obtain ⟨c1, iS1, hKn1⟩ := u_known (C := "StrideViews$View") (T := am_TV) (N := 6) (n := 6) hta am_iV (hts (.instantiable "StrideViews$View" 6) (by decide +kernel))
  obtain ⟨c2, iS2, hKn2⟩ := u_known (C := "StrideViews") (T := am_TX) (N := 7) (n := 7) hta am_iX (hts (.instantiable "StrideViews" 7) (by decide +kernel))
  obtain ⟨c3, iS3, hKn3⟩ := u_known (C := "StrideViewsModel") (T := am_TM) (N := 16) (n := 16) hta am_iM (hts (.instantiable "StrideViewsModel" 16) (by decide +kernel))
  obtain ⟨c4, iS4, hKn4⟩ := u_known (C := "java/lang/IndexOutOfBoundsException") (T := am_T0) (N := 0) (n := 6) hta (fun w hw => absurd hw List.not_mem_nil) (hts (.instantiable "java/lang/IndexOutOfBoundsException" 6) (by decide +kernel))
  obtain ⟨c5, iS5, hKn5⟩ := u_known (C := "java/lang/IllegalArgumentException") (T := am_T0) (N := 0) (n := 6) hta (fun w hw => absurd hw List.not_mem_nil) (hts (.instantiable "java/lang/IllegalArgumentException" 6) (by decide +kernel))
  obtain ⟨c6, iS6, hKn6⟩ := u_known (C := "java/lang/IllegalStateException") (T := am_T0) (N := 0) (n := 6) hta (fun w hw => absurd hw List.not_mem_nil) (hts (.instantiable "java/lang/IllegalStateException" 6) (by decide +kernel))
  obtain ⟨d0, hA0⟩ := lw_arp (t := .int) (hts (.arrayClass .int) (by decide +kernel)) (fun _ h9 => by cases h9)
  obtain ⟨d1, hA1⟩ := lw_arp (t := .long) (hts (.arrayClass .long) (by decide +kernel)) (fun _ h9 => by cases h9)
  obtain ⟨d2, hA2⟩ := lw_arp (t := .boolean) (hts (.arrayClass .boolean) (by decide +kernel)) (fun _ h9 => by cases h9)
  obtain ⟨d3, hA3⟩ := lw_aro (hts (.arrayOver (.object "StrideViews$Store")) (by decide +kernel))
  obtain ⟨d4, hA4⟩ := lw_aro (hts (.arrayOver (.object "StrideViews$View")) (by decide +kernel))
  obtain ⟨dC, dI, hKc⟩ : ∃ (dC : Nat → ClassId) (dI : Nat → Nat → Nat), ∀ (k : Nat) (q : vw_C), am_cl[k]? = some q → u_Kn s q.1 q.2.1 q.2.2 (dC k) (dI k) := by
    refine ⟨fun k => if k = 0 then c0 else if k = 1 then c1 else if k = 2 then c2 else if k = 3 then c3 else if k = 4 then c4 else if k = 5 then c5 else c6, fun k => if k = 0 then iS0 else if k = 1 then iS1 else if k = 2 then iS2 else if k = 3 then iS3 else if k = 4 then iS4 else if k = 5 then iS5 else iS6, ?_⟩
    intro k q hq
    match k, hq with
    | 0, hq => cases hq; exact hKn0
    | 1, hq => cases hq; exact hKn1
    | 2, hq => cases hq; exact hKn2
    | 3, hq => cases hq; exact hKn3
    | 4, hq => cases hq; exact hKn4
    | 5, hq => cases hq; exact hKn5
    | 6, hq => cases hq; exact hKn6
    | k + 7, hq => simp [am_cl] at hq
  obtain ⟨dK, hdK⟩ : ∃ dK : Nat → ClassId, ∀ (k : Nat) (ty : FieldType), am_tyl[k]? = some ty → ArrOfT s (dK k) ty ∧ va_RA s (dK k) ty := by
    refine ⟨fun k => if k = 0 then d0 else if k = 1 then d1 else if k = 2 then d2 else if k = 3 then d3 else d4, ?_⟩
    intro k q hq
    match k, hq with
    | 0, hq => cases hq; exact hA0
    | 1, hq => cases hq; exact hA1
    | 2, hq => cases hq; exact hA2
    | 3, hq => cases hq; exact hA3
    | 4, hq => cases hq; exact hA4
    | k + 5, hq => simp [am_tyl] at hq
  have hK : va_K (lw_g dC dI dK s b L xs).1 am_cl (am_tys (lw_g dC dI dK s b L xs)) s := by
    refine ⟨hKc, fun k q hq => ?_⟩
    cases ht : am_tyl[k]? with
    | none => simp [am_tys, List.getElem?_map, List.getElem?_zipIdx, ht] at hq
    | some ty =>
      rw [am_tys_at ht] at hq
      cases hq
      exact hdK k ty ht
  have hSt : am_St (lw_g dC dI dK s b L xs) l s := by
    refine ⟨hl9, ?_, ?_, lw_ncs hgv, fun q hq => ?_, fun q hq => ?_⟩
    · exact vx_Zqof (hts (.laysStatic Bundle.tN "UNASSIGNED_STACK" Bundle.steD) (by decide +kernel)) (hts (.initialized Bundle.tN) (by decide +kernel)) (hs (.isRef (.static Bundle.tN "UNASSIGNED_STACK" Bundle.steD)) (by decide +kernel)) (fun a h9 => Nat.not_le.mpr h9)
    · exact vx_Zqof (hts (.laysStatic Bundle.tN "SUPPRESSED_SENTINEL" Bundle.listD) (by decide +kernel)) (hts (.initialized Bundle.tN) (by decide +kernel)) (hs (.isRef (.static Bundle.tN "SUPPRESSED_SENTINEL" Bundle.listD)) (by decide +kernel)) (fun a h9 => Nat.not_le.mpr h9)
    · obtain ⟨h1, h2⟩ := lw_strs q hq
      obtain ⟨k, cf, i, a, -, -, -, -, -, hev⟩ := Cond.stringRef_spec (cls := q.1) (cur := c2) (by rw [h1]; exact hKn2.2.1) (hts _ h2)
      exact ⟨a, vk_R.of (hts _ h2) hev⟩
    · simp only [am_aos, List.mem_cons, List.not_mem_nil, or_false] at hq
      rcases hq with rfl | rfl
      · exact va_AO.of (hts (.arrayOver (.object "StrideViews$Store")) (by decide +kernel))
      · exact va_AO.of (hts (.arrayOver (.object "StrideViews$View")) (by decide +kernel))
  have hHp : am_Hp (lw_g dC dI dK s b L xs) ((fun _ => none), s.heap.size, 0) room_1 s s.heap [] 0 0 := by
    refine ⟨fun a e h => (nomatch (show (none : Option va_E) = some e from h)), fun q h1 h2 => absurd h1 (Nat.not_le.mpr h2), rfl, va_S.rf, fun q cell h1 h2 => absurd (Array.getElem?_eq_some_iff.mp h2).1 (Nat.not_lt.mpr h1), rfl, Nat.zero_le _, ?_, Nat.zero_le _, Nat.le_refl _, hX, hbl⟩
    show 0 + room_1.slots = room_1.slots + 0
    rw [Nat.zero_add, Nat.add_zero]
  rw [lg_entry_eq]
  intro T hT X
  obtain ⟨meth2, cc2, hm2, hc2, -, -, -, -, hemp, -⟩ := Cond.code_spec hnm hcw
  have hc3 : cc2 = c := by
    have h8 := Option.some.inj (X.method.symm.trans hm2)
    have h7 : meth.code = some cc2 := by rw [h8]; exact hc2
    exact Option.some.inj (h7.symm.trans X.code)
  rw [hc3] at hemp
  have hex : c.exceptionTable.toList.map (fun h => (h.startPc, h.endPc, h.handlerPc, h.catchType)) = [] := by
    have h9 : c.exceptionTable = #[] := by simpa using hemp
    rw [h9]; rfl
  have hFx : am_Fx (lw_g dC dI dK s b L xs) (0 + 5) mm_L_law p l room_1 s m #[Value.ref b] meth c := ⟨hx, hb, hml, hr, (name_of_methodNamed hnm X.method).1, hown, hta, hlocks, hex, hK, by decide, by decide, hSt⟩
  obtain ⟨t, h1, o, S1, L1, k, j, hP, hrun, hend, hW, ⟨e1, e2, e3, e4, e5, e6⟩, hH⟩ := lw_law (g := lw_g dC dI dK s b L xs) (d := 0) (S := ((fun _ => none), s.heap.size, 0)) rfl hL ⟨Nat.add_le_add_left (show 8300 ≤ room_1.cells by decide) _, show 0 + 380000 ≤ room_1.slots by decide⟩ p l e room_1 s m #[Value.ref b] below meth c s.heap [] 0 0 _ hFx hHp (am_ent_ls (as := [Value.ref b]) (n := 8) (Nat.le_of_ble_eq_true rfl)) T hT X
  obtain ⟨-, -, -, hS4, -, -, hk, -, hj, -⟩ := hH
  obtain rfl : o = .inl (some (.int 1)) := hP
  refine ⟨t, h1, .returned (some (.int 1)), hrun, hend, rfl, ⟨_, rfl⟩, hW, e1, e2, Nat.le_trans e3 (Nat.add_le_add_left hk _), e4, Nat.le_trans e5 hj, fun a c0 ha => ?_⟩
  obtain ⟨c1, q1, q2, q3, q4⟩ := e6 a c0 ha
  exact ⟨c1, q1, q2, q3, fun i _ => q4 i (fun hm => absurd (hS4.2.2 _ hm) (Nat.not_le.mpr (Array.getElem?_eq_some_iff.mp ha).1))⟩
set_option maxHeartbeats 4000000 in
theorem lw_walk (l : Launch) (hl9 : l.stackTraces = false) (b : Addr) (xs : List Int32) : MetFree l x (headSpec (Jvm.Cond.code x code maxLocals ret :: tables_1) room_1) (lw_P b xs) (fun _ _ _ _ _ => True) lw_Q := by
  refine MetFree.of_bodyS (code := code) (maxLocals := maxLocals) (ret := ret) (by decide) ?_ ?_
  · intro args s m h hn
    obtain ⟨meth, c, h1, h2, h3, h4, h5, h6, -, -⟩ := Cond.code_spec hn (atoms_spec (ws := Jvm.Cond.code x code maxLocals ret :: tables_1) h _ List.mem_cons_self)
    exact ⟨meth, c, h1, h2, h3, h4, h5, h6⟩
  · intro p e s m args below meth c s₁ B hml0 hP _
    obtain ⟨rfl, hx, hbd, hgv⟩ := hP
    obtain ⟨scr, harrAt, hlist, hof, hsmall⟩ := hx
    obtain ⟨hcb, hkn, -, -⟩ := State.arrayAt?_spec harrAt
    have hown : s.vm.findClass R_law = some m.cls := findClass_of_methodNamed B.named
    have hts0 : ∀ c ∈ (Jvm.Cond.code x code maxLocals ret :: tables_1), c.before #[Value.ref b] s = true := atoms_spec (ws := Jvm.Cond.code x code maxLocals ret :: tables_1) B.pre
    have hts : ∀ w ∈ lw_tbl, w.before #[Value.ref b] s = true := k2_hts_sels lw_privs (fun w hw => hts0 w (List.mem_cons_of_mem _ hw)) lw_privs_ok
    have hml : c.maxLocals = 8 := B.maxLocals_eq (hts0 _ List.mem_cons_self)
    have X₀ : Stand p l e room_1 s m #[Value.ref b] below meth c s₁ [] 0 0 := Stand.of_body B
    have hh0 : s₁.heap = s.heap := by rw [B.state]; rfl
    have hsz : scr.slots.size = xs.length := by rw [← Array.length_toList, hlist, List.length_map]
    have hval : ∀ j : Nat, j < xs.length → scr.slots[j]? = some (.int (xs.getD j 0)) := fun j hj => by
      rw [← Array.getElem?_toList, hlist]
      simp [hj]
    have hbl : b < s.heap.size := (Array.getElem?_eq_some_iff.mp hcb).1
    have hX : va_X b xs.length (fun j => xs.getD j 0) s s.heap := ⟨scr, hcb, hof, hkn, hsz, hval⟩
    have K : W p l e room_1 s m #[Value.ref b] below meth c s₁.heap [] 0 0 (lw_Z below #[Value.ref b] s) (entryFrame m ([Value.ref b] : List Value).toArray 8) := by
      rw [hh0]
      exact whole_start l hl9 B.named (hts0 _ List.mem_cons_self) hbd ⟨B.exec, B.bytes, B.returns, hml, hown, hts, hX, hbl, B.notSynchronized, hgv⟩
    obtain ⟨t, a1, o, b1, b2, b3⟩ := K s₁ rfl X₀
    exact ⟨t, o, a1, b1, b2, b3⟩
theorem lw_pre_spec {args : Array Value} {s : State} (h : (Jvm.Cond.and given_1 narrow_1).before args s = true) (hr : rest_1_c.before args s = true) : ∃ (b : Addr) (xs : List Int32), lw_P b xs args s := by
  have hs := flat_of_before _ h
  have hq := flat_of_before _ hr
  have hc : (Cond.count 1).before args s = true := hs _ (by decide +kernel)
  have harr : (Cond.arrayOf (.arg 0) .int).before args s = true := hs _ (by decide +kernel)
  have hle : (Cond.le (.length (.arg 0)) (.int 3072)).before args s = true := hs _ (by decide +kernel)
  have hlen : (Cond.isInt (.length (.arg 0))).before args s = true := hq _ (by decide +kernel)
  have hall : (Cond.all (.arg 0) (.isInt (.elem (.arg 0) (.index 0)))).before args s = true := hq _ (by decide +kernel)
  obtain ⟨b, xs, hb, hx⟩ := State.ints_of_pre rfl harr hlen hall
  have hsm : xs.length < 2 ^ 31 := hx.choose_spec.2.2.2
  have hev : (Term.length (.arg 0)).eval args s none [] s = some (.int xs.length.toInt32) := hx.length_eval hb
  have hv := Cond.le_ints hev (show (Term.int 3072).eval args s none [] s = some (.int 3072) from rfl)
  have hd : xs.length.toInt32 ≤ 3072 := by
    simpa [Cond.before, Cond.holds, hv] using hle
  have hN : xs.length ≤ 3072 := (Int32.ofNat_le_ofNat hsm (by decide)).mp (show Int32.ofNat xs.length ≤ Int32.ofNat 3072 from hd)
  exact ⟨b, xs, Cond.one_arg hc (show args[0]? = some (.ref b) from hb), hx, hN, h⟩
theorem lw_comes (l : Launch) (hl9 : l.stackTraces = false) : Comes l x (Jvm.Cond.code x code maxLocals ret :: tables_1) room_1 (fun tb e args s => Calls_1 tb e args s ∧ rest_1 tb e args s ∧ Pre_1 tb e args s)
    (fun _ _ args s o t => lw_Q args s o t) := by
  intro p e ha hc hk s m args below hf hfit hheap happ hpre
  obtain ⟨b, xs, hP⟩ := lw_pre_spec hpre.2.2 hpre.2.1
  obtain ⟨k, o, h1, h2, h3, hQ⟩ := lw_walk l hl9 b xs p e ha hc hk s m args below hf ((Spec.applies_iff_loose hf).mp happ).1 hP trivial
  exact ⟨k, o, h1, h2, h3, hQ⟩
theorem lw_frame {s t : State} {o : Outcome} {args : Array Value} (h : Framed s o t [] 601024 7293034) :
    Framed s o t (fieldLocs frame_1_writes args s ++ arrayLocs frame_1_arrays args s ++ staticLocs frame_1_statics s) 601024 7293034 := h
theorem lw_limb (L : Cond) (hL : ∀ (args : Array Value) (s t : State), L.after args s (.returned (some (.int 1))) t = true) :
    ArmFor flags0 classFile x code maxLocals ret World_1 tables_1 room_1 Calls_1 rest_1 Pre_1
      (fun tb e a s o t => postC L tb e a s o t ∧ Framed s o t (fieldLocs frame_1_writes a s ++ arrayLocs frame_1_arrays a s ++ staticLocs frame_1_statics s) 601024 7293034) := by
  intro l hfl _ _ p e ha hc hk s m args below hf hfit hheap happ hpre
  obtain ⟨k, o, h1, h2, h3, rfl, hF⟩ := lw_comes l (by show (!l.flags.contains Jvm.noTraceFlag) = false; rw [hfl]; decide +kernel) p e ha hc hk s m args below hf hfit hheap happ hpre
  exact ⟨k, _, h1, h2, h3, hL args s _, lw_frame hF⟩
