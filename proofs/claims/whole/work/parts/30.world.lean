/-! what the class's object holds: an abstract state, and the cells that hold it -/
/-- a view: its store, start, axes, extents, steps -/
abbrev sv_A : Type := Nat × Int32 × Nat × (Nat → Nat) × (Nat → Int32)
abbrev sv_A.st (a : sv_A) : Nat := a.1
abbrev sv_A.sa (a : sv_A) : Int32 := a.2.1
abbrev sv_A.ax (a : sv_A) : Nat := a.2.2.1
abbrev sv_A.ex (a : sv_A) : Nat → Nat := a.2.2.2.1
abbrev sv_A.sp (a : sv_A) : Nat → Int32 := a.2.2.2.2
abbrev sv_A.it (a : sv_A) : Nat := sv_pr a.ex a.ax
/-- where its item i lies -/
abbrev sv_A.pl (a : sv_A) (i : Nat) : Int32 := a.sa + sv_pl a.ex a.sp a.ax i
/-- stores: how many, lanes, sizes, numbers; views: how many, which -/
abbrev sv_T : Type := Nat × (Nat → Int32) × (Nat → Nat) × (Nat → Nat → Int64) × Nat × (Nat → sv_A)
abbrev sv_T.ns (T : sv_T) : Nat := T.1
abbrev sv_T.ln (T : sv_T) : Nat → Int32 := T.2.1
abbrev sv_T.sz (T : sv_T) : Nat → Nat := T.2.2.1
abbrev sv_T.nu (T : sv_T) : Nat → Nat → Int64 := T.2.2.2.1
abbrev sv_T.nv (T : sv_T) : Nat := T.2.2.2.2.1
abbrev sv_T.vw (T : sv_T) : Nat → sv_A := T.2.2.2.2.2
/-- how many of the first n views are of the store i -/
def sv_vc (vw : Nat → sv_A) (i : Nat) : Nat → Nat
  | 0 => 0
  | n + 1 => if (vw n).st = i then sv_vc vw i n + 1 else sv_vc vw i n
/-- a view that may be kept -/
def sv_wv (ns : Nat) (sz : Nat → Nat) (a : sv_A) : Prop :=
  a.st < ns ∧ a.ax ≤ 4 ∧ sv_ok a.ex a.ax ∧ a.it ≤ 3000 ∧ (a.it = 0 → a.sa = 0 ∧ ∀ k, k < a.ax → a.sp k = 0) ∧ (∀ k, k < a.ax → a.ex k < 2 → a.sp k = 0) ∧ ∀ i, i < a.it → vp_in (a.pl i) (sz a.st)
def sv_wf (T : sv_T) : Prop := T.ns ≤ 12 ∧ T.nv ≤ 80 ∧ (∀ i, i < T.ns → T.sz i ≤ 300) ∧ ∀ i, i < T.nv → sv_wv T.ns T.sz (T.vw i)
/-- a kept view's cells -/
def sv_Vi (M : am_M) (as : Nat → Nat) (v : Nat) (a : sv_A) : Prop := ∃ fe fs : Nat → Int32, sv_V M v (as a.st) a.sa a.ax (nI a.it) (v + 1) (v + 2) fe fs ∧ (∀ k, k < a.ax → fe k = nI (a.ex k)) ∧ ∀ k, k < a.ax → fs k = a.sp k
/-- a kept store's cells -/
def sv_Si (M : am_M) (s i : Nat) (ln : Int32) (sz : Nat) (f : Nat → Int64) (c : Nat) : Prop := M s = some (.inr (0, [.int (nI i), .int ln, .ref (s + 1), .int (nI c)])) ∧ M (s + 1) = some (.inl (1, sz, .inr (.inl f)))
/-- the object's own cells -/
def sv_X (g : am_G) (M : am_M) (ns nv : Nat) (qs qv : Nat → Option Nat) (fp : Nat → Int32) (fn : Nat → Int64) (fm : Nat → Int32) : Prop :=
  M g.2.2.1 = some (.inr (2, [.ref (g.2.2.1 + 1), .ref (g.2.2.1 + 2), .int (nI ns), .int (nI nv), .ref (g.2.2.1 + 3), .ref (g.2.2.1 + 4), .ref (g.2.2.1 + 5)])) ∧
  M (g.2.2.1 + 1) = some (.inl (3, 12, .inr (.inr (.inr (.inr qs))))) ∧ M (g.2.2.1 + 2) = some (.inl (4, 80, .inr (.inr (.inr (.inr qv))))) ∧ M (g.2.2.1 + 3) = some (.inl (0, 3000, .inl fp)) ∧ M (g.2.2.1 + 4) = some (.inl (1, 3000, .inr (.inl fn))) ∧ M (g.2.2.1 + 5) = some (.inl (2, 300, .inl fm))
/-- the class holds T: what is kept lies below lo; stores at as, views at av -/
def sv_C (g : am_G) (lo : Nat) (S : am_S) (T : sv_T) (as av : Nat → Nat) : Prop :=
  ∃ (qs qv : Nat → Option Nat) (fp : Nat → Int32) (fn : Nat → Int64) (fm : Nat → Int32), sv_X g S.1 T.ns T.nv qs qv fp fn fm ∧
    (∀ i, i < T.ns → qs i = some (as i) ∧ g.2.2.1 + 20 ≤ as i ∧ as i + 1 < lo ∧ sv_Si S.1 (as i) i (T.ln i) (T.sz i) (T.nu i) (sv_vc T.vw i T.nv)) ∧
    (∀ i, i < T.nv → qv i = some (av i) ∧ g.2.2.1 + 20 ≤ av i ∧ av i + 2 < lo ∧ sv_Vi S.1 as (av i) (T.vw i)) ∧
    (∀ i j, i < T.ns → j < T.ns → as i = as j → i = j) ∧ (∀ i j, i < T.nv → j < T.nv → av i = av j → i = j) ∧ g.2.2.1 + 20 ≤ lo ∧ lo ≤ S.2.1 ∧ sv_wf T
theorem sv_Vi.of {M M2 : am_M} {as : Nat → Nat} {v : Nat} {a : sv_A} (h : sv_Vi M as v a) (h1 : M2 v = M v) (h2 : M2 (v + 1) = M (v + 1)) (h3 : M2 (v + 2) = M (v + 2)) : sv_Vi M2 as v a := by
  obtain ⟨fe, fs, h4, h5⟩ := h
  exact ⟨fe, fs, h4.of h1 h2 h3, h5⟩
theorem sv_Si.of {M M2 : am_M} {s i : Nat} {ln : Int32} {sz : Nat} {f : Nat → Int64} {c : Nat} (h : sv_Si M s i ln sz f c) (h1 : M2 s = M s) (h2 : M2 (s + 1) = M (s + 1)) : sv_Si M2 s i ln sz f c := ⟨h1.trans h.1, h2.trans h.2⟩
/-- scratch rows and cells above lo don't matter -/
theorem sv_C.keep {g : am_G} {lo : Nat} {S S1 : am_S} {T : sv_T} {as av : Nat → Nat} (h : sv_C g lo S T as av) (hq : ∀ q, q < lo → q ≠ g.2.2.1 + 3 → q ≠ g.2.2.1 + 4 → q ≠ g.2.2.1 + 5 → S1.1 q = S.1 q)
    {fp : Nat → Int32} {fn : Nat → Int64} {fm : Nat → Int32} (h3 : S1.1 (g.2.2.1 + 3) = some (.inl (0, 3000, .inl fp))) (h4 : S1.1 (g.2.2.1 + 4) = some (.inl (1, 3000, .inr (.inl fn)))) (h5 : S1.1 (g.2.2.1 + 5) = some (.inl (2, 300, .inl fm))) (hl : lo ≤ S1.2.1) : sv_C g lo S1 T as av := by
  obtain ⟨qs, qv, fp0, fn0, fm0, ⟨x0, x1, x2, x3, x4, x5⟩, hs, hv, i1, i2, hb, hlo, hw⟩ := h
  refine ⟨qs, qv, fp, fn, fm, ⟨(hq _ (by omega) (by omega) (by omega) (by omega)).trans x0, (hq _ (by omega) (by omega) (by omega) (by omega)).trans x1, (hq _ (by omega) (by omega) (by omega) (by omega)).trans x2, h3, h4, h5⟩, fun i hi => ?_, fun i hi => ?_, i1, i2, hb, hl, hw⟩
  · obtain ⟨a1, a2, a3, a4⟩ := hs i hi
    exact ⟨a1, a2, a3, a4.of (hq _ (by omega) (by omega) (by omega) (by omega)) (hq _ (by omega) (by omega) (by omega) (by omega))⟩
  · obtain ⟨a1, a2, a3, a4⟩ := hv i hi
    exact ⟨a1, a2, a3, a4.of (hq _ (by omega) (by omega) (by omega) (by omega)) (hq _ (by omega) (by omega) (by omega) (by omega)) (hq _ (by omega) (by omega) (by omega) (by omega))⟩
/-- cells above lo don't matter -/
theorem sv_C.up {g : am_G} {lo : Nat} {S S1 : am_S} {T : sv_T} {as av : Nat → Nat} (h : sv_C g lo S T as av) (hq : ∀ q, q < lo → S1.1 q = S.1 q) (hl : lo ≤ S1.2.1) : sv_C g lo S1 T as av := by
  obtain ⟨qs, qv, fp0, fn0, fm0, ⟨x0, x1, x2, x3, x4, x5⟩, hs, hv, i1, i2, hb, hlo, hw⟩ := id h
  exact h.keep (fun q h1 _ _ _ => hq q h1) ((hq _ (by omega)).trans x3) ((hq _ (by omega)).trans x4) ((hq _ (by omega)).trans x5) hl
theorem sv_C.thr {g : am_G} {lo ci : Nat} {S : am_S} {T : sv_T} {as av : Nat → Nat} (h : sv_C g lo S T as av) : sv_C g lo (am_thrown ci S) T as av := by
  obtain ⟨qs, qv, fp0, fn0, fm0, -, -, -, -, -, hb, hlo, hw⟩ := id h
  exact h.up (fun q hq => am_up_n (by omega)) (by show lo ≤ S.2.1 + 1; omega)
theorem sv_C.mono {g : am_G} {lo lo2 : Nat} {S : am_S} {T : sv_T} {as av : Nat → Nat} (h : sv_C g lo S T as av) (h1 : lo ≤ lo2) (h2 : lo2 ≤ S.2.1) : sv_C g lo2 S T as av := by
  obtain ⟨qs, qv, fp0, fn0, fm0, hx, hs, hv, i1, i2, hb, hlo, hw⟩ := h
  refine ⟨qs, qv, fp0, fn0, fm0, hx, fun i hi => ?_, fun i hi => ?_, i1, i2, by omega, h2, hw⟩
  · obtain ⟨a1, a2, a3, a4⟩ := hs i hi
    exact ⟨a1, a2, by omega, a4⟩
  · obtain ⟨a1, a2, a3, a4⟩ := hv i hi
    exact ⟨a1, a2, by omega, a4⟩
/-- the other object's cells stay; what is made is bounded -/
def sv_D (g : am_G) (S S1 : am_S) (k z : Nat) : Prop := (∀ q, g.2.2.1 + 6 ≤ q → q < g.2.2.1 + 20 → S1.1 q = S.1 q) ∧ S.2.1 ≤ S1.2.1 ∧ S1.2.1 ≤ S.2.1 + k ∧ S.2.2 ≤ S1.2.2 ∧ S1.2.2 ≤ S.2.2 + z
theorem sv_D.rf {g : am_G} {S : am_S} : sv_D g S S 0 0 := ⟨fun _ _ _ => rfl, Nat.le_refl _, Nat.le_refl _, Nat.le_refl _, Nat.le_refl _⟩
theorem sv_D.tr {g : am_G} {S S1 S2 : am_S} {k z k2 z2 : Nat} (h : sv_D g S S1 k z) (h2 : sv_D g S1 S2 k2 z2) : sv_D g S S2 (k + k2) (z + z2) := by
  obtain ⟨a1, a2, a3, a4, a5⟩ := h
  obtain ⟨b1, b2, b3, b4, b5⟩ := h2
  exact ⟨fun q h1 h2 => (b1 q h1 h2).trans (a1 q h1 h2), by omega, by omega, by omega, by omega⟩
theorem sv_D.le {g : am_G} {S S1 : am_S} {k z k2 z2 : Nat} (h : sv_D g S S1 k z) (h1 : k ≤ k2) (h2 : z ≤ z2) : sv_D g S S1 k2 z2 := by
  obtain ⟨a1, a2, a3, a4, a5⟩ := h
  exact ⟨a1, a2, by omega, a4, by omega⟩
theorem sv_D.thr {g : am_G} {S : am_S} {ci : Nat} (h : g.2.2.1 + 20 ≤ S.2.1) : sv_D g S (am_thrown ci S) 1 6 :=
  ⟨fun q _ h2 => am_up_n (by omega), by show S.2.1 ≤ S.2.1 + 1; omega, Nat.le_refl _, by show S.2.2 ≤ S.2.2 + 6; omega, Nat.le_refl _⟩
/-- a view is added -/
def sv_T.addV (T : sv_T) (a : sv_A) : sv_T := (T.ns, T.ln, T.sz, T.nu, T.nv + 1, fun i => if i = T.nv then a else T.vw i)
/-- a store is added -/
def sv_T.addS (T : sv_T) (ln : Int32) (sz : Nat) (f : Nat → Int64) : sv_T := (T.ns + 1, fun i => if i = T.ns then ln else T.ln i, fun i => if i = T.ns then sz else T.sz i, fun i => if i = T.ns then f else T.nu i, T.nv, T.vw)
theorem sv_vc_congr {vw vw2 : Nat → sv_A} {i : Nat} : ∀ {n : Nat}, (∀ k, k < n → vw2 k = vw k) → sv_vc vw2 i n = sv_vc vw i n := by
  intro n
  induction n with
  | zero => intro _; rfl
  | succ n ih => intro h; simp only [sv_vc]; rw [h n (by omega), ih (fun k hk => h k (by omega))]
theorem sv_vc_addV (T : sv_T) (a : sv_A) (i : Nat) : sv_vc (T.addV a).vw i (T.addV a).nv = if a.st = i then sv_vc T.vw i T.nv + 1 else sv_vc T.vw i T.nv := by
  have h : sv_vc (T.addV a).vw i T.nv = sv_vc T.vw i T.nv := sv_vc_congr (fun k hk => by show (if k = T.nv then a else T.vw k) = T.vw k; rw [if_neg (by omega)])
  have h0 : (T.addV a).vw T.nv = a := by show (if T.nv = T.nv then a else T.vw T.nv) = a; rw [if_pos rfl]
  show sv_vc (T.addV a).vw i (T.nv + 1) = _
  simp only [sv_vc]
  rw [h, h0]
theorem sv_vc_le (vw : Nat → sv_A) (i : Nat) : ∀ n, sv_vc vw i n ≤ n := by
  intro n
  induction n with
  | zero => exact Nat.le_refl 0
  | succ n ih => simp only [sv_vc]; split <;> omega
/-- a new view, settled: without items, or with an extent below 2, a step says nothing -/
def sv_set (a : sv_A) : sv_A := (a.st, if a.it = 0 then 0 else a.sa, a.ax, a.ex, fun k => if (a.it = 0 ∨ a.ex k < 2) then 0 else a.sp k)
