/-! the law's own methods: a call of the class; its exceptions come back as numbers -/
/-- what a call can end with -/
def sv_K (a b c : Prop) (w : Value → Prop) (q : sv_Q) : Prop := (q.1 = 0 ∧ w q.2.1) ∨ (q.1 = 4 ∧ a) ∨ (q.1 = 5 ∧ b) ∨ (q.1 = 6 ∧ c)
def sv_vI (v : Value) : Prop := ∃ x : Int32, v = .int x
def sv_vL (v : Value) : Prop := ∃ x : Int64, v = .long x
def sv_vB (v : Value) : Prop := v = .int 0 ∨ v = .int 1
section LwK
variable {a b c : Prop} {w : Value → Prop} {T : sv_T}
theorem sv_K.kp {x : sv_A} (hc : c) : sv_K a b c sv_vI (sv_kp T x) := by
  unfold sv_kp
  split
  · exact Or.inl ⟨rfl, _, rfl⟩
  · exact Or.inr (Or.inr (Or.inr ⟨rfl, hc⟩))
theorem sv_K.e4 {v : Value} (ha : a) : sv_K a b c w (4, v, T) := Or.inr (Or.inl ⟨rfl, ha⟩)
theorem sv_K.e5 {v : Value} (hb : b) : sv_K a b c w (5, v, T) := Or.inr (Or.inr (Or.inl ⟨rfl, hb⟩))
theorem sv_K.e6 {v : Value} (hc : c) : sv_K a b c w (6, v, T) := Or.inr (Or.inr (Or.inr ⟨rfl, hc⟩))
theorem sv_K.v {v : Value} (h : w v) : sv_K a b c w (0, v, T) := Or.inl ⟨rfl, h⟩
theorem sv_K.vi {x : Int32} : sv_K a b c sv_vI (0, .int x, T) := Or.inl ⟨rfl, x, rfl⟩
theorem sv_K.vl {x : Int64} : sv_K a b c sv_vL (0, .long x, T) := Or.inl ⟨rfl, x, rfl⟩
theorem sv_K.wr {x : sv_A} {f : Nat → Int64} : sv_K a b c sv_vI (T.wr x f) := Or.inl ⟨rfl, _, rfl⟩
theorem sv_K.qv {i : Int32} {f : sv_A → sv_Q} (ha : a) (h : ∀ x, sv_K a b c w (f x)) : sv_K a b c w (sv_qv T i f) := by
  unfold sv_qv
  split
  · exact h _
  · exact sv_K.e4 ha
theorem sv_K.qa {i : Int32} {z : sv_A} {f : Nat → sv_Q} (ha : a) (h : ∀ x, sv_K a b c w (f x)) : sv_K a b c w (sv_qa T z i f) := by
  unfold sv_qa
  split
  · exact h _
  · exact sv_K.e4 ha
theorem sv_K.it {p : Prop} [Decidable p] {x y : sv_Q} (h1 : sv_K a b c w x) (h2 : sv_K a b c w y) : sv_K a b c w (if p then x else y) := by
  split
  · exact h1
  · exact h2
theorem sv_K.fi {p : Prop} {x y : sv_Q} (h1 : sv_K a b c w x) (h2 : sv_K a b c w y) : sv_K a b c w (sv_if p x y) := by
  by_cases h : p
  · rw [sv_if_y h]; exact h1
  · rw [sv_if_n h]; exact h2
theorem sv_K.val {q : sv_Q} (h : sv_K a b c w q) (h0 : q.1 = 0) : w q.2.1 := by
  rcases h with ⟨-, h⟩ | ⟨e, -⟩ | ⟨e, -⟩ | ⟨e, -⟩
  · exact h
  · rw [h0] at e; exact absurd e (by decide)
  · rw [h0] at e; exact absurd e (by decide)
  · rw [h0] at e; exact absurd e (by decide)
/-- the number is 0 only where nothing was thrown -/
theorem sv_K.zero {q : sv_Q} {k : Nat → Int32} (h : sv_K a b c w q) (h4 : a → k 4 ≠ 0) (h5 : b → k 5 ≠ 0) (h6 : c → k 6 ≠ 0) (hk : k q.1 = 0) : q.1 = 0 := by
  rcases h with ⟨e, -⟩ | ⟨e, f⟩ | ⟨e, f⟩ | ⟨e, f⟩
  · exact e
  · rw [e] at hk; exact absurd hk (h4 f)
  · rw [e] at hk; exact absurd hk (h5 f)
  · rw [e] at hk; exact absurd hk (h6 f)
end LwK
theorem sv_bv (p : Prop) : sv_vB (.int (sv_if p 1 0)) := by
  by_cases h : p
  · rw [sv_if_y h]; exact Or.inr rfl
  · rw [sv_if_n h]; exact Or.inl rfl
theorem k_store {T : sv_T} {ln : Int32} {n : Int32} : sv_K False True True sv_vI (q_store T ln n) := by
  unfold q_store
  repeat' (first | with_reducible exact sv_K.kp trivial | with_reducible exact sv_K.e4 trivial | with_reducible exact sv_K.e5 trivial | with_reducible exact sv_K.e6 trivial | with_reducible exact sv_K.vi | with_reducible exact sv_K.vl | with_reducible exact sv_K.wr | with_reducible refine sv_K.qv trivial (fun _ => ?_) | with_reducible refine sv_K.qa trivial (fun _ => ?_) | with_reducible refine sv_K.fi ?_ ?_ | with_reducible refine sv_K.it ?_ ?_)
theorem k_slice {T : sv_T} {v : Int32} {x : Int32} {s : Int32} {t : Int32} {n : Int32} : sv_K True True True sv_vI (q_slice T v x s t n) := by
  unfold q_slice
  repeat' (first | with_reducible exact sv_K.kp trivial | with_reducible exact sv_K.e4 trivial | with_reducible exact sv_K.e5 trivial | with_reducible exact sv_K.e6 trivial | with_reducible exact sv_K.vi | with_reducible exact sv_K.vl | with_reducible exact sv_K.wr | with_reducible refine sv_K.qv trivial (fun _ => ?_) | with_reducible refine sv_K.qa trivial (fun _ => ?_) | with_reducible refine sv_K.fi ?_ ?_ | with_reducible refine sv_K.it ?_ ?_)
theorem k_pick {T : sv_T} {v : Int32} {x : Int32} {i : Int32} : sv_K True False True sv_vI (q_pick T v x i) := by
  unfold q_pick
  repeat' (first | with_reducible exact sv_K.kp trivial | with_reducible exact sv_K.e4 trivial | with_reducible exact sv_K.e5 trivial | with_reducible exact sv_K.e6 trivial | with_reducible exact sv_K.vi | with_reducible exact sv_K.vl | with_reducible exact sv_K.wr | with_reducible refine sv_K.qv trivial (fun _ => ?_) | with_reducible refine sv_K.qa trivial (fun _ => ?_) | with_reducible refine sv_K.fi ?_ ?_ | with_reducible refine sv_K.it ?_ ?_)
theorem k_turn {T : sv_T} {v : Int32} {x : Int32} {y : Int32} : sv_K True False True sv_vI (q_turn T v x y) := by
  unfold q_turn
  repeat' (first | with_reducible exact sv_K.kp trivial | with_reducible exact sv_K.e4 trivial | with_reducible exact sv_K.e5 trivial | with_reducible exact sv_K.e6 trivial | with_reducible exact sv_K.vi | with_reducible exact sv_K.vl | with_reducible exact sv_K.wr | with_reducible refine sv_K.qv trivial (fun _ => ?_) | with_reducible refine sv_K.qa trivial (fun _ => ?_) | with_reducible refine sv_K.fi ?_ ?_ | with_reducible refine sv_K.it ?_ ?_)
theorem k_spread {T : sv_T} {v : Int32} {x : Int32} {n : Int32} : sv_K True True True sv_vI (q_spread T v x n) := by
  unfold q_spread
  repeat' (first | with_reducible exact sv_K.kp trivial | with_reducible exact sv_K.e4 trivial | with_reducible exact sv_K.e5 trivial | with_reducible exact sv_K.e6 trivial | with_reducible exact sv_K.vi | with_reducible exact sv_K.vl | with_reducible exact sv_K.wr | with_reducible refine sv_K.qv trivial (fun _ => ?_) | with_reducible refine sv_K.qa trivial (fun _ => ?_) | with_reducible refine sv_K.fi ?_ ?_ | with_reducible refine sv_K.it ?_ ?_)
theorem k_diagonal {T : sv_T} {v : Int32} {x : Int32} {y : Int32} : sv_K True True True sv_vI (q_diagonal T v x y) := by
  unfold q_diagonal
  repeat' (first | with_reducible exact sv_K.kp trivial | with_reducible exact sv_K.e4 trivial | with_reducible exact sv_K.e5 trivial | with_reducible exact sv_K.e6 trivial | with_reducible exact sv_K.vi | with_reducible exact sv_K.vl | with_reducible exact sv_K.wr | with_reducible refine sv_K.qv trivial (fun _ => ?_) | with_reducible refine sv_K.qa trivial (fun _ => ?_) | with_reducible refine sv_K.fi ?_ ?_ | with_reducible refine sv_K.it ?_ ?_)
theorem k_shape {T : sv_T} {v : Int32} {x : Int32} {y : Int32} {z : Int32} : sv_K True True True sv_vI (q_shape T v x y z) := by
  unfold q_shape
  repeat' (first | with_reducible exact sv_K.kp trivial | with_reducible exact sv_K.e4 trivial | with_reducible exact sv_K.e5 trivial | with_reducible exact sv_K.e6 trivial | with_reducible exact sv_K.vi | with_reducible exact sv_K.vl | with_reducible exact sv_K.wr | with_reducible refine sv_K.qv trivial (fun _ => ?_) | with_reducible refine sv_K.qa trivial (fun _ => ?_) | with_reducible refine sv_K.fi ?_ ?_ | with_reducible refine sv_K.it ?_ ?_)
theorem k_compact {T : sv_T} {v : Int32} {ln : Int32} : sv_K True True True sv_vI (q_compact T v ln) := by
  unfold q_compact
  repeat' (first | with_reducible exact sv_K.kp trivial | with_reducible exact sv_K.e4 trivial | with_reducible exact sv_K.e5 trivial | with_reducible exact sv_K.e6 trivial | with_reducible exact sv_K.vi | with_reducible exact sv_K.vl | with_reducible exact sv_K.wr | with_reducible refine sv_K.qv trivial (fun _ => ?_) | with_reducible refine sv_K.qa trivial (fun _ => ?_) | with_reducible refine sv_K.fi ?_ ?_ | with_reducible refine sv_K.it ?_ ?_)
theorem k_at {T : sv_T} {v : Int32} {i : Int32} : sv_K True False False sv_vL (q_at T v i) := by
  unfold q_at
  repeat' (first | with_reducible exact sv_K.kp trivial | with_reducible exact sv_K.e4 trivial | with_reducible exact sv_K.e5 trivial | with_reducible exact sv_K.e6 trivial | with_reducible exact sv_K.vi | with_reducible exact sv_K.vl | with_reducible exact sv_K.wr | with_reducible refine sv_K.qv trivial (fun _ => ?_) | with_reducible refine sv_K.qa trivial (fun _ => ?_) | with_reducible refine sv_K.fi ?_ ?_ | with_reducible refine sv_K.it ?_ ?_)
theorem k_put {T : sv_T} {v : Int32} {i : Int32} {y : Int64} : sv_K True False True sv_vL (q_put T v i y) := by
  unfold q_put
  repeat' (first | with_reducible exact sv_K.kp trivial | with_reducible exact sv_K.e4 trivial | with_reducible exact sv_K.e5 trivial | with_reducible exact sv_K.e6 trivial | with_reducible exact sv_K.vi | with_reducible exact sv_K.vl | with_reducible exact sv_K.wr | with_reducible refine sv_K.qv trivial (fun _ => ?_) | with_reducible refine sv_K.qa trivial (fun _ => ?_) | with_reducible refine sv_K.fi ?_ ?_ | with_reducible refine sv_K.it ?_ ?_)
theorem k_copy {T : sv_T} {v : Int32} {w : Int32} : sv_K True True True sv_vI (q_copy T v w) := by
  unfold q_copy
  repeat' (first | with_reducible exact sv_K.kp trivial | with_reducible exact sv_K.e4 trivial | with_reducible exact sv_K.e5 trivial | with_reducible exact sv_K.e6 trivial | with_reducible exact sv_K.vi | with_reducible exact sv_K.vl | with_reducible exact sv_K.wr | with_reducible refine sv_K.qv trivial (fun _ => ?_) | with_reducible refine sv_K.qa trivial (fun _ => ?_) | with_reducible refine sv_K.fi ?_ ?_ | with_reducible refine sv_K.it ?_ ?_)
theorem k_act {T : sv_T} {t : Int32} {v : Int32} {w : Int32} {u : Int32} : sv_K True True True sv_vI (q_act T t v w u) := by
  unfold q_act
  repeat' (first | with_reducible exact sv_K.kp trivial | with_reducible exact sv_K.e4 trivial | with_reducible exact sv_K.e5 trivial | with_reducible exact sv_K.e6 trivial | with_reducible exact sv_K.vi | with_reducible exact sv_K.vl | with_reducible exact sv_K.wr | with_reducible refine sv_K.qv trivial (fun _ => ?_) | with_reducible refine sv_K.qa trivial (fun _ => ?_) | with_reducible refine sv_K.fi ?_ ?_ | with_reducible refine sv_K.it ?_ ?_)
theorem k_fold {T : sv_T} {t : Int32} {v : Int32} {x : Int32} : sv_K True True True sv_vI (q_fold T t v x) := by
  unfold q_fold
  repeat' (first | with_reducible exact sv_K.kp trivial | with_reducible exact sv_K.e4 trivial | with_reducible exact sv_K.e5 trivial | with_reducible exact sv_K.e6 trivial | with_reducible exact sv_K.vi | with_reducible exact sv_K.vl | with_reducible exact sv_K.wr | with_reducible refine sv_K.qv trivial (fun _ => ?_) | with_reducible refine sv_K.qa trivial (fun _ => ?_) | with_reducible refine sv_K.fi ?_ ?_ | with_reducible refine sv_K.it ?_ ?_)
theorem k_shared {T : sv_T} {v : Int32} {w : Int32} : sv_K True False False sv_vI (q_shared T v w) := by
  unfold q_shared
  repeat' (first | with_reducible exact sv_K.kp trivial | with_reducible exact sv_K.e4 trivial | with_reducible exact sv_K.e5 trivial | with_reducible exact sv_K.e6 trivial | with_reducible exact sv_K.vi | with_reducible exact sv_K.vl | with_reducible exact sv_K.wr | with_reducible refine sv_K.qv trivial (fun _ => ?_) | with_reducible refine sv_K.qa trivial (fun _ => ?_) | with_reducible refine sv_K.fi ?_ ?_ | with_reducible refine sv_K.it ?_ ?_)
theorem k_same {T : sv_T} {v : Int32} {w : Int32} : sv_K True False False sv_vB (q_same T v w) := by
  unfold q_same
  repeat' (first | with_reducible exact sv_K.kp trivial | with_reducible exact sv_K.e4 trivial | with_reducible exact sv_K.e5 trivial | with_reducible exact sv_K.e6 trivial | with_reducible exact sv_K.vi | with_reducible exact sv_K.vl | with_reducible exact sv_K.wr | with_reducible refine sv_K.qv trivial (fun _ => ?_) | with_reducible refine sv_K.qa trivial (fun _ => ?_) | with_reducible refine sv_K.fi ?_ ?_ | with_reducible refine sv_K.it ?_ ?_ | with_reducible exact sv_K.v (sv_bv _))
theorem k_runs {T : sv_T} {v : Int32} : sv_K True False False sv_vI (q_runs T v) := by
  unfold q_runs
  repeat' (first | with_reducible exact sv_K.kp trivial | with_reducible exact sv_K.e4 trivial | with_reducible exact sv_K.e5 trivial | with_reducible exact sv_K.e6 trivial | with_reducible exact sv_K.vi | with_reducible exact sv_K.vl | with_reducible exact sv_K.wr | with_reducible refine sv_K.qv trivial (fun _ => ?_) | with_reducible refine sv_K.qa trivial (fun _ => ?_) | with_reducible refine sv_K.fi ?_ ?_ | with_reducible refine sv_K.it ?_ ?_)
theorem k_told {T : sv_T} {v : Int32} {w : Int32} : sv_K True True False sv_vI (q_told T v w) := by
  unfold q_told
  repeat' (first | with_reducible exact sv_K.kp trivial | with_reducible exact sv_K.e4 trivial | with_reducible exact sv_K.e5 trivial | with_reducible exact sv_K.e6 trivial | with_reducible exact sv_K.vi | with_reducible exact sv_K.vl | with_reducible exact sv_K.wr | with_reducible refine sv_K.qv trivial (fun _ => ?_) | with_reducible refine sv_K.qa trivial (fun _ => ?_) | with_reducible refine sv_K.fi ?_ ?_ | with_reducible refine sv_K.it ?_ ?_)
theorem k_axis {T : sv_T} {v : Int32} {x : Int32} {w : Int32} : sv_K True True False sv_vI (q_axis T v x w) := by
  unfold q_axis
  repeat' (first | with_reducible exact sv_K.kp trivial | with_reducible exact sv_K.e4 trivial | with_reducible exact sv_K.e5 trivial | with_reducible exact sv_K.e6 trivial | with_reducible exact sv_K.vi | with_reducible exact sv_K.vl | with_reducible exact sv_K.wr | with_reducible refine sv_K.qv trivial (fun _ => ?_) | with_reducible refine sv_K.qa trivial (fun _ => ?_) | with_reducible refine sv_K.fi ?_ ?_ | with_reducible refine sv_K.it ?_ ?_)
theorem k_stored {T : sv_T} {s : Int32} {w : Int32} : sv_K True True False sv_vI (q_stored T s w) := by
  unfold q_stored
  repeat' (first | with_reducible exact sv_K.kp trivial | with_reducible exact sv_K.e4 trivial | with_reducible exact sv_K.e5 trivial | with_reducible exact sv_K.e6 trivial | with_reducible exact sv_K.vi | with_reducible exact sv_K.vl | with_reducible exact sv_K.wr | with_reducible refine sv_K.qv trivial (fun _ => ?_) | with_reducible refine sv_K.qa trivial (fun _ => ?_) | with_reducible refine sv_K.fi ?_ ?_ | with_reducible refine sv_K.it ?_ ?_)
theorem k_count {T : sv_T} {w : Int32} : sv_K False True False sv_vI (q_count T w) := by
  unfold q_count
  repeat' (first | with_reducible exact sv_K.kp trivial | with_reducible exact sv_K.e4 trivial | with_reducible exact sv_K.e5 trivial | with_reducible exact sv_K.e6 trivial | with_reducible exact sv_K.vi | with_reducible exact sv_K.vl | with_reducible exact sv_K.wr | with_reducible refine sv_K.qv trivial (fun _ => ?_) | with_reducible refine sv_K.qa trivial (fun _ => ?_) | with_reducible refine sv_K.fi ?_ ?_ | with_reducible refine sv_K.it ?_ ?_)
/-- the number as a long -/
def sv_lv (v : Value) (x : Int64) : Prop := (∀ y : Int32, v = .int y → x = y.toInt64) ∧ ∀ y : Int64, v = .long y → x = y
theorem sv_lv.i {y : Int32} : sv_lv (.int y) y.toInt64 := ⟨fun z h => (by cases h; rfl), fun z h => (by cases h)⟩
theorem sv_lv.z : sv_lv (.int 0) 0 := ⟨fun z h => (by cases h; decide), fun z h => (by cases h)⟩
theorem sv_lv.o : sv_lv (.int 1) 1 := ⟨fun z h => (by cases h; decide), fun z h => (by cases h)⟩
theorem sv_lv.l {y : Int64} : sv_lv (.long y) y := ⟨fun z h => (by cases h), fun z h => (by cases h; rfl)⟩
abbrev sv_oc (g : am_G) (M : am_M) (f : Nat → Int64) : Prop := M (g.2.2.1 + 19) = some (.inl (1, 1, .inr (.inl f)))
/-- how a method of the law's ends -/
def sv_L (g : am_G) (S : am_S) (q : sv_Q) (c : Nat → Int32) (o : am_O) (S1 : am_S) : Prop :=
  (∃ (lo : Nat) (as av : Nat → Nat), sv_C g lo S1 q.2.2 as av) ∧ ((∀ k, g.2.2.1 + 6 ≤ k → k < g.2.2.1 + 19 → S1.1 k = S.1 k) ∧ S1.2.1 ≤ S.2.1 + 16 ∧ S1.2.2 ≤ S.2.2 + 700) ∧ (∃ f : Nat → Int64, sv_oc g S1.1 f ∧ (q.1 = 0 → sv_lv q.2.1 (f 0))) ∧ o = .inl (some (.int (c q.1)))
theorem sv_C.far {g : am_G} {lo : Nat} {S S1 : am_S} {T : sv_T} {as av : Nat → Nat} (h : sv_C g lo S T as av) (hq : ∀ q, (q < g.2.2.1 + 6 ∨ g.2.2.1 + 20 ≤ q) → S1.1 q = S.1 q) (hl : lo ≤ S1.2.1) : sv_C g lo S1 T as av := by
  obtain ⟨qs, qv, fp0, fn0, fm0, ⟨x0, x1, x2, x3, x4, x5⟩, hs, hv, i1, i2, hb, hlo, hw⟩ := h
  refine ⟨qs, qv, fp0, fn0, fm0, ⟨(hq _ (by omega)).trans x0, (hq _ (by omega)).trans x1, (hq _ (by omega)).trans x2, (hq _ (by omega)).trans x3, (hq _ (by omega)).trans x4, (hq _ (by omega)).trans x5⟩, fun i hi => ?_, fun i hi => ?_, i1, i2, hb, hl, hw⟩
  · obtain ⟨a1, a2, a3, a4⟩ := hs i hi
    exact ⟨a1, a2, a3, a4.of (hq _ (by omega)) (hq _ (by omega))⟩
  · obtain ⟨a1, a2, a3, a4⟩ := hv i hi
    exact ⟨a1, a2, a3, a4.of (hq _ (by omega)) (hq _ (by omega)) (hq _ (by omega))⟩
theorem sv_N.keep {g : am_G} {M M2 : am_M} {T : sv_T} {th : Int32} {na : Nat} {ne nw rd : Nat → Int64} {mt : Nat → Int32} (h : sv_N g M T th na ne nw rd mt) (hq : ∀ q, g.2.2.1 + 6 ≤ q → q < g.2.2.1 + 19 → M2 q = M q) : sv_N g M2 T th na ne nw rd mt := by
  obtain ⟨fl, fz, fN, fS, fa, fx, fe, fs, ⟨m0, m1, m2, m3, m4, m5, m6, m7, m8, m9, m10, m11, m12⟩, hT, hw⟩ := h
  exact ⟨fl, fz, fN, fS, fa, fx, fe, fs, ⟨(hq _ (by omega) (by omega)).trans m0, (hq _ (by omega) (by omega)).trans m1, (hq _ (by omega) (by omega)).trans m2, (hq _ (by omega) (by omega)).trans m3, (hq _ (by omega) (by omega)).trans m4, (hq _ (by omega) (by omega)).trans m5, (hq _ (by omega) (by omega)).trans m6, (hq _ (by omega) (by omega)).trans m7, (hq _ (by omega) (by omega)).trans m8, (hq _ (by omega) (by omega)).trans m9, (hq _ (by omega) (by omega)).trans m10, (hq _ (by omega) (by omega)).trans m11, (hq _ (by omega) (by omega)).trans m12⟩, hT, hw⟩
theorem sv_L.ok {g : am_G} {S S1 : am_S} {q : sv_Q} {c : Nat → Int32} {lo : Nat} {as av : Nat → Nat} {f : Nat → Int64} {x : Int64} (hC : sv_C g lo S1 q.2.2 as av) (hD : sv_D g S S1 16 700) (h0 : q.1 = 0) (hc : c 0 = 0) (hv : sv_lv q.2.1 x) : sv_L g S q c (.inl (some (.int 0))) (am_up S1.1 (g.2.2.1 + 19) (.inl (1, 1, .inr (.inl (vp_updL f 0 x)))), S1.2) := by
  obtain ⟨hb, hlo, -⟩ := hC.base
  obtain ⟨d1, d2, d3, d4, d5⟩ := hD
  refine ⟨⟨lo, as, av, hC.far (fun k hk => am_up_n (by omega)) hlo⟩, ⟨fun k h1 h2 => (am_up_n (by omega)).trans (d1 k h1 (by omega)), d3, d5⟩, ⟨_, am_up_s, fun _ => ?_⟩, by rw [h0, hc]⟩
  rw [show vp_updL f 0 x 0 = x by simp [vp_updL]]
  exact hv
theorem sv_L.th {g : am_G} {S S1 : am_S} {q : sv_Q} {c : Nat → Int32} {lo : Nat} {as av : Nat → Nat} {f : Nat → Int64} {k : Int32} (hC : sv_C g lo S1 q.2.2 as av) (hD : sv_D g S S1 16 700) (ho : sv_oc g S1.1 f) (h0 : ¬ q.1 = 0) (hc : c q.1 = k) : sv_L g S q c (.inl (some (.int k))) S1 := by
  obtain ⟨d1, d2, d3, d4, d5⟩ := hD
  exact ⟨⟨lo, as, av, hC⟩, ⟨fun k h1 h2 => d1 k h1 (by omega), d3, d5⟩, ⟨f, ho, fun h => absurd h h0⟩, by rw [hc]⟩
theorem cl_4 : Cond.classLink "StrideViewsLaw" 21 "java/lang/IndexOutOfBoundsException" ∈ am_tbl := am_in 230 (by decide +kernel) rfl
theorem ca_4 : Cond.castable "java/lang/IndexOutOfBoundsException" "java/lang/IndexOutOfBoundsException" ∈ am_tbl := am_in 241 (by decide +kernel) rfl
theorem cl_5 : Cond.classLink "StrideViewsLaw" 13 "java/lang/IllegalArgumentException" ∈ am_tbl := am_in 52 (by decide +kernel) rfl
theorem ca_5 : Cond.castable "java/lang/IllegalArgumentException" "java/lang/IllegalArgumentException" ∈ am_tbl := am_in 63 (by decide +kernel) rfl
theorem cl_6 : Cond.classLink "StrideViewsLaw" 15 "java/lang/IllegalStateException" ∈ am_tbl := am_in 53 (by decide +kernel) rfl
theorem ca_6 : Cond.castable "java/lang/IllegalStateException" "java/lang/IllegalStateException" ∈ am_tbl := am_in 136 (by decide +kernel) rfl
theorem nc_45 : ("java/lang/IndexOutOfBoundsException", "java/lang/IllegalArgumentException") ∈ am_ncl := by decide +kernel
theorem nc_46 : ("java/lang/IndexOutOfBoundsException", "java/lang/IllegalStateException") ∈ am_ncl := by decide +kernel
theorem nc_54 : ("java/lang/IllegalArgumentException", "java/lang/IndexOutOfBoundsException") ∈ am_ncl := by decide +kernel
theorem nc_56 : ("java/lang/IllegalArgumentException", "java/lang/IllegalStateException") ∈ am_ncl := by decide +kernel
theorem nc_64 : ("java/lang/IllegalStateException", "java/lang/IndexOutOfBoundsException") ∈ am_ncl := by decide +kernel
theorem nc_65 : ("java/lang/IllegalStateException", "java/lang/IllegalArgumentException") ∈ am_ncl := by decide +kernel
set_option maxHeartbeats 4000000 in
set_option maxRecDepth 100000 in
/-- the law's store -/
theorem w_store {g : am_G} {d : Nat} {S : am_S} {lo : Nat} {T : sv_T} {as av : Nat → Nat} (hC : sv_C g lo S T as av) (hr : sv_R g S 16 700) {f : Nat → Int64} (ho : sv_oc g S.1 f) {a1 : Int32} {a2 : Int32} : am_W g (d + 4) mm_L_store (0, am_ent [.ref g.2.2.1, .int a1, .int a2, .ref (g.2.2.1 + 19)] 5, []) S (sv_L g S (q_store T a1 a2) (sv_cd 5 6 9)) := by
  obtain ⟨qs, qv, fp, fn, fm, ⟨hx, hq1, hq2, h3, h4, h5⟩, hs, hv, i1, i2, hB, hlo, hw⟩ := id hC
  have h80 := hw.2.1
  have hX : am_W g (d + 3) mm_X_store (0, am_ent [.ref g.2.2.1, .int a1, .int a2] 5, []) S (sv_O g S (q_store T a1 a2)) := x_store hC hr
  have hk := k_store (T := T) (ln := a1) (n := a2)
  generalize q_store T a1 a2 = q at hX hk ⊢
  show am_W g (d + 4) mm_L_store (0, [some (.ref g.2.2.1), some (.int a1), some (.int a2), some (.ref (g.2.2.1 + 19)), none], []) S _
  refine am_aloadn d_L_store_0 rfl ?_
  refine am_iconst 0 d_L_store_1 (by decide) ?_
  refine am_ti (b := nI 0) rfl ?_
  refine am_aloadn d_L_store_2 rfl ?_
  refine am_iloadn d_L_store_3 rfl ?_
  refine am_iloadn d_L_store_4 rfl ?_
  refine am_callV (P' := sv_O g S q) [.int a1, .int a2] [.int (nI 0), .ref (g.2.2.1 + 19)] d_L_store_5 cV_L_7 hx rfl rfl (Nat.le_of_ble_eq_true rfl) (Nat.le_of_ble_eq_true rfl) hX (fun v1 S1 h1 => ?_) (fun x1 S1 h1 => ?_)
  · obtain ⟨⟨lo1, as1, av1, hC1⟩, hD1, ⟨h0, hv1⟩ | ⟨-, a9, hv1, -⟩⟩ := h1
    · have ho1 : sv_oc g S1.1 f := (hD1.1 _ (by omega) (by omega)).trans ho
      obtain rfl := Sum.inl.inj hv1
      obtain ⟨y, hy⟩ := hk.val h0
      rw [hy]
      show am_W g (d + 4) mm_L_store (8, [some (.ref g.2.2.1), some (.int a1), some (.int a2), some (.ref (g.2.2.1 + 19)), none], [.int y, .int (nI 0), .ref (g.2.2.1 + 19)]) S1 _
      refine am_i2l d_L_store_8 ?_
      refine am_lastN (t := 1) (k := 0) d_L_store_9 rfl ho1 (by decide) (by decide) ?_
      refine am_goto (tgt := 21) d_L_store_10 (by decide) ?_
      refine am_iconst 0 d_L_store_21 (by decide) ?_
      exact am_iret d_L_store_22 rfl (sv_L.ok hC1 hD1 h0 (by decide) (by rw [hy]; exact sv_lv.i))
    · cases hv1
  · obtain ⟨⟨lo1, as1, av1, hC1⟩, hD1, ⟨-, hv1⟩ | ⟨h0, a9, hv1, hc1⟩⟩ := h1
    · cases hv1
    · have ho1 : sv_oc g S1.1 f := (hD1.1 _ (by omega) (by omega)).trans ho
      rw [← Sum.inr.inj hv1] at hc1
      rcases hk with ⟨e, -⟩ | ⟨e, hf⟩ | ⟨e, hf⟩ | ⟨e, hf⟩
      · exact absurd e h0
      · exact hf.elim
      · rw [e] at hc1
        refine am_catYes (pre := []) (h0 := 0) (e0 := 10) (hp := 13) (ct := 13) (suf := [(0, 10, 17, 15)]) rfl (fun z hz => absurd hz List.not_mem_nil) ⟨by decide, by decide⟩ (by decide) cl_5 ca_5 hc1 ⟨_, _, rfl⟩ ?_
        show am_W g (d + 4) mm_L_store (13, [some (.ref g.2.2.1), some (.int a1), some (.int a2), some (.ref (g.2.2.1 + 19)), none], [.ref x1]) S1 _
        refine am_astore (L' := [some (.ref g.2.2.1), some (.int a1), some (.int a2), some (.ref (g.2.2.1 + 19)), some (.ref x1)]) d_L_store_13 (by decide) rfl rfl ?_
        refine am_iconst 1 d_L_store_15 (by decide) ?_
        exact am_iret d_L_store_16 rfl (sv_L.th hC1 hD1 ho1 h0 (by rw [e]; decide))
      · rw [e] at hc1
        refine am_catYes (pre := [(0, 10, 13, 13)]) (h0 := 0) (e0 := 10) (hp := 17) (ct := 15) (suf := []) rfl (by intro z hz; obtain rfl := List.mem_singleton.mp hz; exact ⟨by decide, _, cl_5, nc_65⟩) ⟨by decide, by decide⟩ (by decide) cl_6 ca_6 hc1 ⟨_, _, rfl⟩ ?_
        show am_W g (d + 4) mm_L_store (17, [some (.ref g.2.2.1), some (.int a1), some (.int a2), some (.ref (g.2.2.1 + 19)), none], [.ref x1]) S1 _
        refine am_astore (L' := [some (.ref g.2.2.1), some (.int a1), some (.int a2), some (.ref (g.2.2.1 + 19)), some (.ref x1)]) d_L_store_17 (by decide) rfl rfl ?_
        refine am_iconst 2 d_L_store_19 (by decide) ?_
        exact am_iret d_L_store_20 rfl (sv_L.th hC1 hD1 ho1 h0 (by rw [e]; decide))
set_option maxHeartbeats 4000000 in
set_option maxRecDepth 100000 in
/-- the law's slice -/
theorem w_slice {g : am_G} {d : Nat} {S : am_S} {lo : Nat} {T : sv_T} {as av : Nat → Nat} (hC : sv_C g lo S T as av) (hr : sv_R g S 16 700) {f : Nat → Int64} (ho : sv_oc g S.1 f) {a1 : Int32} {a2 : Int32} {a3 : Int32} {a4 : Int32} {a5 : Int32} : am_W g (d + 4) mm_L_slice (0, am_ent [.ref g.2.2.1, .int a1, .int a2, .int a3, .int a4, .int a5, .ref (g.2.2.1 + 19)] 8, []) S (sv_L g S (q_slice T a1 a2 a3 a4 a5) (sv_cd 4 5 6)) := by
  obtain ⟨qs, qv, fp, fn, fm, ⟨hx, hq1, hq2, h3, h4, h5⟩, hs, hv, i1, i2, hB, hlo, hw⟩ := id hC
  have h80 := hw.2.1
  have hX : am_W g (d + 3) mm_X_slice (0, am_ent [.ref g.2.2.1, .int a1, .int a2, .int a3, .int a4, .int a5] 8, []) S (sv_O g S (q_slice T a1 a2 a3 a4 a5)) := x_slice hC hr
  have hk := k_slice (T := T) (v := a1) (x := a2) (s := a3) (t := a4) (n := a5)
  generalize q_slice T a1 a2 a3 a4 a5 = q at hX hk ⊢
  show am_W g (d + 4) mm_L_slice (0, [some (.ref g.2.2.1), some (.int a1), some (.int a2), some (.int a3), some (.int a4), some (.int a5), some (.ref (g.2.2.1 + 19)), none], []) S _
  refine am_aload d_L_slice_0 rfl ?_
  refine am_iconst 0 d_L_slice_2 (by decide) ?_
  refine am_ti (b := nI 0) rfl ?_
  refine am_aloadn d_L_slice_3 rfl ?_
  refine am_iloadn d_L_slice_4 rfl ?_
  refine am_iloadn d_L_slice_5 rfl ?_
  refine am_iloadn d_L_slice_6 rfl ?_
  refine am_iload d_L_slice_7 rfl ?_
  refine am_iload d_L_slice_9 rfl ?_
  refine am_callV (P' := sv_O g S q) [.int a1, .int a2, .int a3, .int a4, .int a5] [.int (nI 0), .ref (g.2.2.1 + 19)] d_L_slice_11 cV_L_17 hx rfl rfl (Nat.le_of_ble_eq_true rfl) (Nat.le_of_ble_eq_true rfl) hX (fun v1 S1 h1 => ?_) (fun x1 S1 h1 => ?_)
  · obtain ⟨⟨lo1, as1, av1, hC1⟩, hD1, ⟨h0, hv1⟩ | ⟨-, a9, hv1, -⟩⟩ := h1
    · have ho1 : sv_oc g S1.1 f := (hD1.1 _ (by omega) (by omega)).trans ho
      obtain rfl := Sum.inl.inj hv1
      obtain ⟨y, hy⟩ := hk.val h0
      rw [hy]
      show am_W g (d + 4) mm_L_slice (14, [some (.ref g.2.2.1), some (.int a1), some (.int a2), some (.int a3), some (.int a4), some (.int a5), some (.ref (g.2.2.1 + 19)), none], [.int y, .int (nI 0), .ref (g.2.2.1 + 19)]) S1 _
      refine am_i2l d_L_slice_14 ?_
      refine am_lastN (t := 1) (k := 0) d_L_slice_15 rfl ho1 (by decide) (by decide) ?_
      refine am_goto (tgt := 31) d_L_slice_16 (by decide) ?_
      refine am_iconst 0 d_L_slice_31 (by decide) ?_
      exact am_iret d_L_slice_32 rfl (sv_L.ok hC1 hD1 h0 (by decide) (by rw [hy]; exact sv_lv.i))
    · cases hv1
  · obtain ⟨⟨lo1, as1, av1, hC1⟩, hD1, ⟨-, hv1⟩ | ⟨h0, a9, hv1, hc1⟩⟩ := h1
    · cases hv1
    · have ho1 : sv_oc g S1.1 f := (hD1.1 _ (by omega) (by omega)).trans ho
      rw [← Sum.inr.inj hv1] at hc1
      rcases hk with ⟨e, -⟩ | ⟨e, hf⟩ | ⟨e, hf⟩ | ⟨e, hf⟩
      · exact absurd e h0
      · rw [e] at hc1
        refine am_catYes (pre := []) (h0 := 0) (e0 := 16) (hp := 19) (ct := 21) (suf := [(0, 16, 23, 13), (0, 16, 27, 15)]) rfl (fun z hz => absurd hz List.not_mem_nil) ⟨by decide, by decide⟩ (by decide) cl_4 ca_4 hc1 ⟨_, _, rfl⟩ ?_
        show am_W g (d + 4) mm_L_slice (19, [some (.ref g.2.2.1), some (.int a1), some (.int a2), some (.int a3), some (.int a4), some (.int a5), some (.ref (g.2.2.1 + 19)), none], [.ref x1]) S1 _
        refine am_astore (L' := [some (.ref g.2.2.1), some (.int a1), some (.int a2), some (.int a3), some (.int a4), some (.int a5), some (.ref (g.2.2.1 + 19)), some (.ref x1)]) d_L_slice_19 (by decide) rfl rfl ?_
        refine am_iconst 1 d_L_slice_21 (by decide) ?_
        exact am_iret d_L_slice_22 rfl (sv_L.th hC1 hD1 ho1 h0 (by rw [e]; decide))
      · rw [e] at hc1
        refine am_catYes (pre := [(0, 16, 19, 21)]) (h0 := 0) (e0 := 16) (hp := 23) (ct := 13) (suf := [(0, 16, 27, 15)]) rfl (by intro z hz; obtain rfl := List.mem_singleton.mp hz; exact ⟨by decide, _, cl_4, nc_54⟩) ⟨by decide, by decide⟩ (by decide) cl_5 ca_5 hc1 ⟨_, _, rfl⟩ ?_
        show am_W g (d + 4) mm_L_slice (23, [some (.ref g.2.2.1), some (.int a1), some (.int a2), some (.int a3), some (.int a4), some (.int a5), some (.ref (g.2.2.1 + 19)), none], [.ref x1]) S1 _
        refine am_astore (L' := [some (.ref g.2.2.1), some (.int a1), some (.int a2), some (.int a3), some (.int a4), some (.int a5), some (.ref (g.2.2.1 + 19)), some (.ref x1)]) d_L_slice_23 (by decide) rfl rfl ?_
        refine am_iconst 2 d_L_slice_25 (by decide) ?_
        exact am_iret d_L_slice_26 rfl (sv_L.th hC1 hD1 ho1 h0 (by rw [e]; decide))
      · rw [e] at hc1
        refine am_catYes (pre := [(0, 16, 19, 21), (0, 16, 23, 13)]) (h0 := 0) (e0 := 16) (hp := 27) (ct := 15) (suf := []) rfl (by intro z hz; rcases List.mem_cons.mp hz with rfl | hz; exact ⟨by decide, _, cl_4, nc_64⟩; obtain rfl := List.mem_singleton.mp hz; exact ⟨by decide, _, cl_5, nc_65⟩) ⟨by decide, by decide⟩ (by decide) cl_6 ca_6 hc1 ⟨_, _, rfl⟩ ?_
        show am_W g (d + 4) mm_L_slice (27, [some (.ref g.2.2.1), some (.int a1), some (.int a2), some (.int a3), some (.int a4), some (.int a5), some (.ref (g.2.2.1 + 19)), none], [.ref x1]) S1 _
        refine am_astore (L' := [some (.ref g.2.2.1), some (.int a1), some (.int a2), some (.int a3), some (.int a4), some (.int a5), some (.ref (g.2.2.1 + 19)), some (.ref x1)]) d_L_slice_27 (by decide) rfl rfl ?_
        refine am_iconst 3 d_L_slice_29 (by decide) ?_
        exact am_iret d_L_slice_30 rfl (sv_L.th hC1 hD1 ho1 h0 (by rw [e]; decide))
set_option maxHeartbeats 4000000 in
set_option maxRecDepth 100000 in
/-- the law's pick -/
theorem w_pick {g : am_G} {d : Nat} {S : am_S} {lo : Nat} {T : sv_T} {as av : Nat → Nat} (hC : sv_C g lo S T as av) (hr : sv_R g S 16 700) {f : Nat → Int64} (ho : sv_oc g S.1 f) {a1 : Int32} {a2 : Int32} {a3 : Int32} : am_W g (d + 4) mm_L_pick (0, am_ent [.ref g.2.2.1, .int a1, .int a2, .int a3, .ref (g.2.2.1 + 19)] 6, []) S (sv_L g S (q_pick T a1 a2 a3) (sv_cd 4 6 9)) := by
  obtain ⟨qs, qv, fp, fn, fm, ⟨hx, hq1, hq2, h3, h4, h5⟩, hs, hv, i1, i2, hB, hlo, hw⟩ := id hC
  have h80 := hw.2.1
  have hX : am_W g (d + 3) mm_X_pick (0, am_ent [.ref g.2.2.1, .int a1, .int a2, .int a3] 6, []) S (sv_O g S (q_pick T a1 a2 a3)) := x_pick hC hr
  have hk := k_pick (T := T) (v := a1) (x := a2) (i := a3)
  generalize q_pick T a1 a2 a3 = q at hX hk ⊢
  show am_W g (d + 4) mm_L_pick (0, [some (.ref g.2.2.1), some (.int a1), some (.int a2), some (.int a3), some (.ref (g.2.2.1 + 19)), none], []) S _
  refine am_aload d_L_pick_0 rfl ?_
  refine am_iconst 0 d_L_pick_2 (by decide) ?_
  refine am_ti (b := nI 0) rfl ?_
  refine am_aloadn d_L_pick_3 rfl ?_
  refine am_iloadn d_L_pick_4 rfl ?_
  refine am_iloadn d_L_pick_5 rfl ?_
  refine am_iloadn d_L_pick_6 rfl ?_
  refine am_callV (P' := sv_O g S q) [.int a1, .int a2, .int a3] [.int (nI 0), .ref (g.2.2.1 + 19)] d_L_pick_7 cV_L_23 hx rfl rfl (Nat.le_of_ble_eq_true rfl) (Nat.le_of_ble_eq_true rfl) hX (fun v1 S1 h1 => ?_) (fun x1 S1 h1 => ?_)
  · obtain ⟨⟨lo1, as1, av1, hC1⟩, hD1, ⟨h0, hv1⟩ | ⟨-, a9, hv1, -⟩⟩ := h1
    · have ho1 : sv_oc g S1.1 f := (hD1.1 _ (by omega) (by omega)).trans ho
      obtain rfl := Sum.inl.inj hv1
      obtain ⟨y, hy⟩ := hk.val h0
      rw [hy]
      show am_W g (d + 4) mm_L_pick (10, [some (.ref g.2.2.1), some (.int a1), some (.int a2), some (.int a3), some (.ref (g.2.2.1 + 19)), none], [.int y, .int (nI 0), .ref (g.2.2.1 + 19)]) S1 _
      refine am_i2l d_L_pick_10 ?_
      refine am_lastN (t := 1) (k := 0) d_L_pick_11 rfl ho1 (by decide) (by decide) ?_
      refine am_goto (tgt := 23) d_L_pick_12 (by decide) ?_
      refine am_iconst 0 d_L_pick_23 (by decide) ?_
      exact am_iret d_L_pick_24 rfl (sv_L.ok hC1 hD1 h0 (by decide) (by rw [hy]; exact sv_lv.i))
    · cases hv1
  · obtain ⟨⟨lo1, as1, av1, hC1⟩, hD1, ⟨-, hv1⟩ | ⟨h0, a9, hv1, hc1⟩⟩ := h1
    · cases hv1
    · have ho1 : sv_oc g S1.1 f := (hD1.1 _ (by omega) (by omega)).trans ho
      rw [← Sum.inr.inj hv1] at hc1
      rcases hk with ⟨e, -⟩ | ⟨e, hf⟩ | ⟨e, hf⟩ | ⟨e, hf⟩
      · exact absurd e h0
      · rw [e] at hc1
        refine am_catYes (pre := []) (h0 := 0) (e0 := 12) (hp := 15) (ct := 21) (suf := [(0, 12, 19, 15)]) rfl (fun z hz => absurd hz List.not_mem_nil) ⟨by decide, by decide⟩ (by decide) cl_4 ca_4 hc1 ⟨_, _, rfl⟩ ?_
        show am_W g (d + 4) mm_L_pick (15, [some (.ref g.2.2.1), some (.int a1), some (.int a2), some (.int a3), some (.ref (g.2.2.1 + 19)), none], [.ref x1]) S1 _
        refine am_astore (L' := [some (.ref g.2.2.1), some (.int a1), some (.int a2), some (.int a3), some (.ref (g.2.2.1 + 19)), some (.ref x1)]) d_L_pick_15 (by decide) rfl rfl ?_
        refine am_iconst 1 d_L_pick_17 (by decide) ?_
        exact am_iret d_L_pick_18 rfl (sv_L.th hC1 hD1 ho1 h0 (by rw [e]; decide))
      · exact hf.elim
      · rw [e] at hc1
        refine am_catYes (pre := [(0, 12, 15, 21)]) (h0 := 0) (e0 := 12) (hp := 19) (ct := 15) (suf := []) rfl (by intro z hz; obtain rfl := List.mem_singleton.mp hz; exact ⟨by decide, _, cl_4, nc_64⟩) ⟨by decide, by decide⟩ (by decide) cl_6 ca_6 hc1 ⟨_, _, rfl⟩ ?_
        show am_W g (d + 4) mm_L_pick (19, [some (.ref g.2.2.1), some (.int a1), some (.int a2), some (.int a3), some (.ref (g.2.2.1 + 19)), none], [.ref x1]) S1 _
        refine am_astore (L' := [some (.ref g.2.2.1), some (.int a1), some (.int a2), some (.int a3), some (.ref (g.2.2.1 + 19)), some (.ref x1)]) d_L_pick_19 (by decide) rfl rfl ?_
        refine am_iconst 2 d_L_pick_21 (by decide) ?_
        exact am_iret d_L_pick_22 rfl (sv_L.th hC1 hD1 ho1 h0 (by rw [e]; decide))
set_option maxHeartbeats 4000000 in
set_option maxRecDepth 100000 in
/-- the law's turn -/
theorem w_turn {g : am_G} {d : Nat} {S : am_S} {lo : Nat} {T : sv_T} {as av : Nat → Nat} (hC : sv_C g lo S T as av) (hr : sv_R g S 16 700) {f : Nat → Int64} (ho : sv_oc g S.1 f) {a1 : Int32} {a2 : Int32} {a3 : Int32} : am_W g (d + 4) mm_L_turn (0, am_ent [.ref g.2.2.1, .int a1, .int a2, .int a3, .ref (g.2.2.1 + 19)] 6, []) S (sv_L g S (q_turn T a1 a2 a3) (sv_cd 4 6 9)) := by
  obtain ⟨qs, qv, fp, fn, fm, ⟨hx, hq1, hq2, h3, h4, h5⟩, hs, hv, i1, i2, hB, hlo, hw⟩ := id hC
  have h80 := hw.2.1
  have hX : am_W g (d + 3) mm_X_turn (0, am_ent [.ref g.2.2.1, .int a1, .int a2, .int a3] 6, []) S (sv_O g S (q_turn T a1 a2 a3)) := x_turn hC hr
  have hk := k_turn (T := T) (v := a1) (x := a2) (y := a3)
  generalize q_turn T a1 a2 a3 = q at hX hk ⊢
  show am_W g (d + 4) mm_L_turn (0, [some (.ref g.2.2.1), some (.int a1), some (.int a2), some (.int a3), some (.ref (g.2.2.1 + 19)), none], []) S _
  refine am_aload d_L_turn_0 rfl ?_
  refine am_iconst 0 d_L_turn_2 (by decide) ?_
  refine am_ti (b := nI 0) rfl ?_
  refine am_aloadn d_L_turn_3 rfl ?_
  refine am_iloadn d_L_turn_4 rfl ?_
  refine am_iloadn d_L_turn_5 rfl ?_
  refine am_iloadn d_L_turn_6 rfl ?_
  refine am_callV (P' := sv_O g S q) [.int a1, .int a2, .int a3] [.int (nI 0), .ref (g.2.2.1 + 19)] d_L_turn_7 cV_L_27 hx rfl rfl (Nat.le_of_ble_eq_true rfl) (Nat.le_of_ble_eq_true rfl) hX (fun v1 S1 h1 => ?_) (fun x1 S1 h1 => ?_)
  · obtain ⟨⟨lo1, as1, av1, hC1⟩, hD1, ⟨h0, hv1⟩ | ⟨-, a9, hv1, -⟩⟩ := h1
    · have ho1 : sv_oc g S1.1 f := (hD1.1 _ (by omega) (by omega)).trans ho
      obtain rfl := Sum.inl.inj hv1
      obtain ⟨y, hy⟩ := hk.val h0
      rw [hy]
      show am_W g (d + 4) mm_L_turn (10, [some (.ref g.2.2.1), some (.int a1), some (.int a2), some (.int a3), some (.ref (g.2.2.1 + 19)), none], [.int y, .int (nI 0), .ref (g.2.2.1 + 19)]) S1 _
      refine am_i2l d_L_turn_10 ?_
      refine am_lastN (t := 1) (k := 0) d_L_turn_11 rfl ho1 (by decide) (by decide) ?_
      refine am_goto (tgt := 23) d_L_turn_12 (by decide) ?_
      refine am_iconst 0 d_L_turn_23 (by decide) ?_
      exact am_iret d_L_turn_24 rfl (sv_L.ok hC1 hD1 h0 (by decide) (by rw [hy]; exact sv_lv.i))
    · cases hv1
  · obtain ⟨⟨lo1, as1, av1, hC1⟩, hD1, ⟨-, hv1⟩ | ⟨h0, a9, hv1, hc1⟩⟩ := h1
    · cases hv1
    · have ho1 : sv_oc g S1.1 f := (hD1.1 _ (by omega) (by omega)).trans ho
      rw [← Sum.inr.inj hv1] at hc1
      rcases hk with ⟨e, -⟩ | ⟨e, hf⟩ | ⟨e, hf⟩ | ⟨e, hf⟩
      · exact absurd e h0
      · rw [e] at hc1
        refine am_catYes (pre := []) (h0 := 0) (e0 := 12) (hp := 15) (ct := 21) (suf := [(0, 12, 19, 15)]) rfl (fun z hz => absurd hz List.not_mem_nil) ⟨by decide, by decide⟩ (by decide) cl_4 ca_4 hc1 ⟨_, _, rfl⟩ ?_
        show am_W g (d + 4) mm_L_turn (15, [some (.ref g.2.2.1), some (.int a1), some (.int a2), some (.int a3), some (.ref (g.2.2.1 + 19)), none], [.ref x1]) S1 _
        refine am_astore (L' := [some (.ref g.2.2.1), some (.int a1), some (.int a2), some (.int a3), some (.ref (g.2.2.1 + 19)), some (.ref x1)]) d_L_turn_15 (by decide) rfl rfl ?_
        refine am_iconst 1 d_L_turn_17 (by decide) ?_
        exact am_iret d_L_turn_18 rfl (sv_L.th hC1 hD1 ho1 h0 (by rw [e]; decide))
      · exact hf.elim
      · rw [e] at hc1
        refine am_catYes (pre := [(0, 12, 15, 21)]) (h0 := 0) (e0 := 12) (hp := 19) (ct := 15) (suf := []) rfl (by intro z hz; obtain rfl := List.mem_singleton.mp hz; exact ⟨by decide, _, cl_4, nc_64⟩) ⟨by decide, by decide⟩ (by decide) cl_6 ca_6 hc1 ⟨_, _, rfl⟩ ?_
        show am_W g (d + 4) mm_L_turn (19, [some (.ref g.2.2.1), some (.int a1), some (.int a2), some (.int a3), some (.ref (g.2.2.1 + 19)), none], [.ref x1]) S1 _
        refine am_astore (L' := [some (.ref g.2.2.1), some (.int a1), some (.int a2), some (.int a3), some (.ref (g.2.2.1 + 19)), some (.ref x1)]) d_L_turn_19 (by decide) rfl rfl ?_
        refine am_iconst 2 d_L_turn_21 (by decide) ?_
        exact am_iret d_L_turn_22 rfl (sv_L.th hC1 hD1 ho1 h0 (by rw [e]; decide))
set_option maxHeartbeats 4000000 in
set_option maxRecDepth 100000 in
/-- the law's spread -/
theorem w_spread {g : am_G} {d : Nat} {S : am_S} {lo : Nat} {T : sv_T} {as av : Nat → Nat} (hC : sv_C g lo S T as av) (hr : sv_R g S 16 700) {f : Nat → Int64} (ho : sv_oc g S.1 f) {a1 : Int32} {a2 : Int32} {a3 : Int32} : am_W g (d + 4) mm_L_spread (0, am_ent [.ref g.2.2.1, .int a1, .int a2, .int a3, .ref (g.2.2.1 + 19)] 6, []) S (sv_L g S (q_spread T a1 a2 a3) (sv_cd 4 5 6)) := by
  obtain ⟨qs, qv, fp, fn, fm, ⟨hx, hq1, hq2, h3, h4, h5⟩, hs, hv, i1, i2, hB, hlo, hw⟩ := id hC
  have h80 := hw.2.1
  have hX : am_W g (d + 3) mm_X_spread (0, am_ent [.ref g.2.2.1, .int a1, .int a2, .int a3] 6, []) S (sv_O g S (q_spread T a1 a2 a3)) := x_spread hC hr
  have hk := k_spread (T := T) (v := a1) (x := a2) (n := a3)
  generalize q_spread T a1 a2 a3 = q at hX hk ⊢
  show am_W g (d + 4) mm_L_spread (0, [some (.ref g.2.2.1), some (.int a1), some (.int a2), some (.int a3), some (.ref (g.2.2.1 + 19)), none], []) S _
  refine am_aload d_L_spread_0 rfl ?_
  refine am_iconst 0 d_L_spread_2 (by decide) ?_
  refine am_ti (b := nI 0) rfl ?_
  refine am_aloadn d_L_spread_3 rfl ?_
  refine am_iloadn d_L_spread_4 rfl ?_
  refine am_iloadn d_L_spread_5 rfl ?_
  refine am_iloadn d_L_spread_6 rfl ?_
  refine am_callV (P' := sv_O g S q) [.int a1, .int a2, .int a3] [.int (nI 0), .ref (g.2.2.1 + 19)] d_L_spread_7 cV_L_30 hx rfl rfl (Nat.le_of_ble_eq_true rfl) (Nat.le_of_ble_eq_true rfl) hX (fun v1 S1 h1 => ?_) (fun x1 S1 h1 => ?_)
  · obtain ⟨⟨lo1, as1, av1, hC1⟩, hD1, ⟨h0, hv1⟩ | ⟨-, a9, hv1, -⟩⟩ := h1
    · have ho1 : sv_oc g S1.1 f := (hD1.1 _ (by omega) (by omega)).trans ho
      obtain rfl := Sum.inl.inj hv1
      obtain ⟨y, hy⟩ := hk.val h0
      rw [hy]
      show am_W g (d + 4) mm_L_spread (10, [some (.ref g.2.2.1), some (.int a1), some (.int a2), some (.int a3), some (.ref (g.2.2.1 + 19)), none], [.int y, .int (nI 0), .ref (g.2.2.1 + 19)]) S1 _
      refine am_i2l d_L_spread_10 ?_
      refine am_lastN (t := 1) (k := 0) d_L_spread_11 rfl ho1 (by decide) (by decide) ?_
      refine am_goto (tgt := 27) d_L_spread_12 (by decide) ?_
      refine am_iconst 0 d_L_spread_27 (by decide) ?_
      exact am_iret d_L_spread_28 rfl (sv_L.ok hC1 hD1 h0 (by decide) (by rw [hy]; exact sv_lv.i))
    · cases hv1
  · obtain ⟨⟨lo1, as1, av1, hC1⟩, hD1, ⟨-, hv1⟩ | ⟨h0, a9, hv1, hc1⟩⟩ := h1
    · cases hv1
    · have ho1 : sv_oc g S1.1 f := (hD1.1 _ (by omega) (by omega)).trans ho
      rw [← Sum.inr.inj hv1] at hc1
      rcases hk with ⟨e, -⟩ | ⟨e, hf⟩ | ⟨e, hf⟩ | ⟨e, hf⟩
      · exact absurd e h0
      · rw [e] at hc1
        refine am_catYes (pre := []) (h0 := 0) (e0 := 12) (hp := 15) (ct := 21) (suf := [(0, 12, 19, 13), (0, 12, 23, 15)]) rfl (fun z hz => absurd hz List.not_mem_nil) ⟨by decide, by decide⟩ (by decide) cl_4 ca_4 hc1 ⟨_, _, rfl⟩ ?_
        show am_W g (d + 4) mm_L_spread (15, [some (.ref g.2.2.1), some (.int a1), some (.int a2), some (.int a3), some (.ref (g.2.2.1 + 19)), none], [.ref x1]) S1 _
        refine am_astore (L' := [some (.ref g.2.2.1), some (.int a1), some (.int a2), some (.int a3), some (.ref (g.2.2.1 + 19)), some (.ref x1)]) d_L_spread_15 (by decide) rfl rfl ?_
        refine am_iconst 1 d_L_spread_17 (by decide) ?_
        exact am_iret d_L_spread_18 rfl (sv_L.th hC1 hD1 ho1 h0 (by rw [e]; decide))
      · rw [e] at hc1
        refine am_catYes (pre := [(0, 12, 15, 21)]) (h0 := 0) (e0 := 12) (hp := 19) (ct := 13) (suf := [(0, 12, 23, 15)]) rfl (by intro z hz; obtain rfl := List.mem_singleton.mp hz; exact ⟨by decide, _, cl_4, nc_54⟩) ⟨by decide, by decide⟩ (by decide) cl_5 ca_5 hc1 ⟨_, _, rfl⟩ ?_
        show am_W g (d + 4) mm_L_spread (19, [some (.ref g.2.2.1), some (.int a1), some (.int a2), some (.int a3), some (.ref (g.2.2.1 + 19)), none], [.ref x1]) S1 _
        refine am_astore (L' := [some (.ref g.2.2.1), some (.int a1), some (.int a2), some (.int a3), some (.ref (g.2.2.1 + 19)), some (.ref x1)]) d_L_spread_19 (by decide) rfl rfl ?_
        refine am_iconst 2 d_L_spread_21 (by decide) ?_
        exact am_iret d_L_spread_22 rfl (sv_L.th hC1 hD1 ho1 h0 (by rw [e]; decide))
      · rw [e] at hc1
        refine am_catYes (pre := [(0, 12, 15, 21), (0, 12, 19, 13)]) (h0 := 0) (e0 := 12) (hp := 23) (ct := 15) (suf := []) rfl (by intro z hz; rcases List.mem_cons.mp hz with rfl | hz; exact ⟨by decide, _, cl_4, nc_64⟩; obtain rfl := List.mem_singleton.mp hz; exact ⟨by decide, _, cl_5, nc_65⟩) ⟨by decide, by decide⟩ (by decide) cl_6 ca_6 hc1 ⟨_, _, rfl⟩ ?_
        show am_W g (d + 4) mm_L_spread (23, [some (.ref g.2.2.1), some (.int a1), some (.int a2), some (.int a3), some (.ref (g.2.2.1 + 19)), none], [.ref x1]) S1 _
        refine am_astore (L' := [some (.ref g.2.2.1), some (.int a1), some (.int a2), some (.int a3), some (.ref (g.2.2.1 + 19)), some (.ref x1)]) d_L_spread_23 (by decide) rfl rfl ?_
        refine am_iconst 3 d_L_spread_25 (by decide) ?_
        exact am_iret d_L_spread_26 rfl (sv_L.th hC1 hD1 ho1 h0 (by rw [e]; decide))
set_option maxHeartbeats 4000000 in
set_option maxRecDepth 100000 in
/-- the law's diagonal -/
theorem w_diagonal {g : am_G} {d : Nat} {S : am_S} {lo : Nat} {T : sv_T} {as av : Nat → Nat} (hC : sv_C g lo S T as av) (hr : sv_R g S 16 700) {f : Nat → Int64} (ho : sv_oc g S.1 f) {a1 : Int32} {a2 : Int32} {a3 : Int32} : am_W g (d + 4) mm_L_diagonal (0, am_ent [.ref g.2.2.1, .int a1, .int a2, .int a3, .ref (g.2.2.1 + 19)] 6, []) S (sv_L g S (q_diagonal T a1 a2 a3) (sv_cd 4 5 6)) := by
  obtain ⟨qs, qv, fp, fn, fm, ⟨hx, hq1, hq2, h3, h4, h5⟩, hs, hv, i1, i2, hB, hlo, hw⟩ := id hC
  have h80 := hw.2.1
  have hX : am_W g (d + 3) mm_X_diagonal (0, am_ent [.ref g.2.2.1, .int a1, .int a2, .int a3] 6, []) S (sv_O g S (q_diagonal T a1 a2 a3)) := x_diagonal hC hr
  have hk := k_diagonal (T := T) (v := a1) (x := a2) (y := a3)
  generalize q_diagonal T a1 a2 a3 = q at hX hk ⊢
  show am_W g (d + 4) mm_L_diagonal (0, [some (.ref g.2.2.1), some (.int a1), some (.int a2), some (.int a3), some (.ref (g.2.2.1 + 19)), none], []) S _
  refine am_aload d_L_diagonal_0 rfl ?_
  refine am_iconst 0 d_L_diagonal_2 (by decide) ?_
  refine am_ti (b := nI 0) rfl ?_
  refine am_aloadn d_L_diagonal_3 rfl ?_
  refine am_iloadn d_L_diagonal_4 rfl ?_
  refine am_iloadn d_L_diagonal_5 rfl ?_
  refine am_iloadn d_L_diagonal_6 rfl ?_
  refine am_callV (P' := sv_O g S q) [.int a1, .int a2, .int a3] [.int (nI 0), .ref (g.2.2.1 + 19)] d_L_diagonal_7 cV_L_33 hx rfl rfl (Nat.le_of_ble_eq_true rfl) (Nat.le_of_ble_eq_true rfl) hX (fun v1 S1 h1 => ?_) (fun x1 S1 h1 => ?_)
  · obtain ⟨⟨lo1, as1, av1, hC1⟩, hD1, ⟨h0, hv1⟩ | ⟨-, a9, hv1, -⟩⟩ := h1
    · have ho1 : sv_oc g S1.1 f := (hD1.1 _ (by omega) (by omega)).trans ho
      obtain rfl := Sum.inl.inj hv1
      obtain ⟨y, hy⟩ := hk.val h0
      rw [hy]
      show am_W g (d + 4) mm_L_diagonal (10, [some (.ref g.2.2.1), some (.int a1), some (.int a2), some (.int a3), some (.ref (g.2.2.1 + 19)), none], [.int y, .int (nI 0), .ref (g.2.2.1 + 19)]) S1 _
      refine am_i2l d_L_diagonal_10 ?_
      refine am_lastN (t := 1) (k := 0) d_L_diagonal_11 rfl ho1 (by decide) (by decide) ?_
      refine am_goto (tgt := 27) d_L_diagonal_12 (by decide) ?_
      refine am_iconst 0 d_L_diagonal_27 (by decide) ?_
      exact am_iret d_L_diagonal_28 rfl (sv_L.ok hC1 hD1 h0 (by decide) (by rw [hy]; exact sv_lv.i))
    · cases hv1
  · obtain ⟨⟨lo1, as1, av1, hC1⟩, hD1, ⟨-, hv1⟩ | ⟨h0, a9, hv1, hc1⟩⟩ := h1
    · cases hv1
    · have ho1 : sv_oc g S1.1 f := (hD1.1 _ (by omega) (by omega)).trans ho
      rw [← Sum.inr.inj hv1] at hc1
      rcases hk with ⟨e, -⟩ | ⟨e, hf⟩ | ⟨e, hf⟩ | ⟨e, hf⟩
      · exact absurd e h0
      · rw [e] at hc1
        refine am_catYes (pre := []) (h0 := 0) (e0 := 12) (hp := 15) (ct := 21) (suf := [(0, 12, 19, 13), (0, 12, 23, 15)]) rfl (fun z hz => absurd hz List.not_mem_nil) ⟨by decide, by decide⟩ (by decide) cl_4 ca_4 hc1 ⟨_, _, rfl⟩ ?_
        show am_W g (d + 4) mm_L_diagonal (15, [some (.ref g.2.2.1), some (.int a1), some (.int a2), some (.int a3), some (.ref (g.2.2.1 + 19)), none], [.ref x1]) S1 _
        refine am_astore (L' := [some (.ref g.2.2.1), some (.int a1), some (.int a2), some (.int a3), some (.ref (g.2.2.1 + 19)), some (.ref x1)]) d_L_diagonal_15 (by decide) rfl rfl ?_
        refine am_iconst 1 d_L_diagonal_17 (by decide) ?_
        exact am_iret d_L_diagonal_18 rfl (sv_L.th hC1 hD1 ho1 h0 (by rw [e]; decide))
      · rw [e] at hc1
        refine am_catYes (pre := [(0, 12, 15, 21)]) (h0 := 0) (e0 := 12) (hp := 19) (ct := 13) (suf := [(0, 12, 23, 15)]) rfl (by intro z hz; obtain rfl := List.mem_singleton.mp hz; exact ⟨by decide, _, cl_4, nc_54⟩) ⟨by decide, by decide⟩ (by decide) cl_5 ca_5 hc1 ⟨_, _, rfl⟩ ?_
        show am_W g (d + 4) mm_L_diagonal (19, [some (.ref g.2.2.1), some (.int a1), some (.int a2), some (.int a3), some (.ref (g.2.2.1 + 19)), none], [.ref x1]) S1 _
        refine am_astore (L' := [some (.ref g.2.2.1), some (.int a1), some (.int a2), some (.int a3), some (.ref (g.2.2.1 + 19)), some (.ref x1)]) d_L_diagonal_19 (by decide) rfl rfl ?_
        refine am_iconst 2 d_L_diagonal_21 (by decide) ?_
        exact am_iret d_L_diagonal_22 rfl (sv_L.th hC1 hD1 ho1 h0 (by rw [e]; decide))
      · rw [e] at hc1
        refine am_catYes (pre := [(0, 12, 15, 21), (0, 12, 19, 13)]) (h0 := 0) (e0 := 12) (hp := 23) (ct := 15) (suf := []) rfl (by intro z hz; rcases List.mem_cons.mp hz with rfl | hz; exact ⟨by decide, _, cl_4, nc_64⟩; obtain rfl := List.mem_singleton.mp hz; exact ⟨by decide, _, cl_5, nc_65⟩) ⟨by decide, by decide⟩ (by decide) cl_6 ca_6 hc1 ⟨_, _, rfl⟩ ?_
        show am_W g (d + 4) mm_L_diagonal (23, [some (.ref g.2.2.1), some (.int a1), some (.int a2), some (.int a3), some (.ref (g.2.2.1 + 19)), none], [.ref x1]) S1 _
        refine am_astore (L' := [some (.ref g.2.2.1), some (.int a1), some (.int a2), some (.int a3), some (.ref (g.2.2.1 + 19)), some (.ref x1)]) d_L_diagonal_23 (by decide) rfl rfl ?_
        refine am_iconst 3 d_L_diagonal_25 (by decide) ?_
        exact am_iret d_L_diagonal_26 rfl (sv_L.th hC1 hD1 ho1 h0 (by rw [e]; decide))
set_option maxHeartbeats 4000000 in
set_option maxRecDepth 100000 in
/-- the law's shape -/
theorem w_shape {g : am_G} {d : Nat} {S : am_S} {lo : Nat} {T : sv_T} {as av : Nat → Nat} (hC : sv_C g lo S T as av) (hr : sv_R g S 16 700) {f : Nat → Int64} (ho : sv_oc g S.1 f) {a1 : Int32} {a2 : Int32} {a3 : Int32} {a4 : Int32} : am_W g (d + 4) mm_L_shape (0, am_ent [.ref g.2.2.1, .int a1, .int a2, .int a3, .int a4, .ref (g.2.2.1 + 19)] 7, []) S (sv_L g S (q_shape T a1 a2 a3 a4) (sv_cd 4 5 6)) := by
  obtain ⟨qs, qv, fp, fn, fm, ⟨hx, hq1, hq2, h3, h4, h5⟩, hs, hv, i1, i2, hB, hlo, hw⟩ := id hC
  have h80 := hw.2.1
  have hX : am_W g (d + 3) mm_X_shape (0, am_ent [.ref g.2.2.1, .int a1, .int a2, .int a3, .int a4] 7, []) S (sv_O g S (q_shape T a1 a2 a3 a4)) := x_shape hC hr
  have hk := k_shape (T := T) (v := a1) (x := a2) (y := a3) (z := a4)
  generalize q_shape T a1 a2 a3 a4 = q at hX hk ⊢
  show am_W g (d + 4) mm_L_shape (0, [some (.ref g.2.2.1), some (.int a1), some (.int a2), some (.int a3), some (.int a4), some (.ref (g.2.2.1 + 19)), none], []) S _
  refine am_aload d_L_shape_0 rfl ?_
  refine am_iconst 0 d_L_shape_2 (by decide) ?_
  refine am_ti (b := nI 0) rfl ?_
  refine am_aloadn d_L_shape_3 rfl ?_
  refine am_iloadn d_L_shape_4 rfl ?_
  refine am_iloadn d_L_shape_5 rfl ?_
  refine am_iloadn d_L_shape_6 rfl ?_
  refine am_iload d_L_shape_7 rfl ?_
  refine am_callV (P' := sv_O g S q) [.int a1, .int a2, .int a3, .int a4] [.int (nI 0), .ref (g.2.2.1 + 19)] d_L_shape_9 cV_L_36 hx rfl rfl (Nat.le_of_ble_eq_true rfl) (Nat.le_of_ble_eq_true rfl) hX (fun v1 S1 h1 => ?_) (fun x1 S1 h1 => ?_)
  · obtain ⟨⟨lo1, as1, av1, hC1⟩, hD1, ⟨h0, hv1⟩ | ⟨-, a9, hv1, -⟩⟩ := h1
    · have ho1 : sv_oc g S1.1 f := (hD1.1 _ (by omega) (by omega)).trans ho
      obtain rfl := Sum.inl.inj hv1
      obtain ⟨y, hy⟩ := hk.val h0
      rw [hy]
      show am_W g (d + 4) mm_L_shape (12, [some (.ref g.2.2.1), some (.int a1), some (.int a2), some (.int a3), some (.int a4), some (.ref (g.2.2.1 + 19)), none], [.int y, .int (nI 0), .ref (g.2.2.1 + 19)]) S1 _
      refine am_i2l d_L_shape_12 ?_
      refine am_lastN (t := 1) (k := 0) d_L_shape_13 rfl ho1 (by decide) (by decide) ?_
      refine am_goto (tgt := 29) d_L_shape_14 (by decide) ?_
      refine am_iconst 0 d_L_shape_29 (by decide) ?_
      exact am_iret d_L_shape_30 rfl (sv_L.ok hC1 hD1 h0 (by decide) (by rw [hy]; exact sv_lv.i))
    · cases hv1
  · obtain ⟨⟨lo1, as1, av1, hC1⟩, hD1, ⟨-, hv1⟩ | ⟨h0, a9, hv1, hc1⟩⟩ := h1
    · cases hv1
    · have ho1 : sv_oc g S1.1 f := (hD1.1 _ (by omega) (by omega)).trans ho
      rw [← Sum.inr.inj hv1] at hc1
      rcases hk with ⟨e, -⟩ | ⟨e, hf⟩ | ⟨e, hf⟩ | ⟨e, hf⟩
      · exact absurd e h0
      · rw [e] at hc1
        refine am_catYes (pre := []) (h0 := 0) (e0 := 14) (hp := 17) (ct := 21) (suf := [(0, 14, 21, 13), (0, 14, 25, 15)]) rfl (fun z hz => absurd hz List.not_mem_nil) ⟨by decide, by decide⟩ (by decide) cl_4 ca_4 hc1 ⟨_, _, rfl⟩ ?_
        show am_W g (d + 4) mm_L_shape (17, [some (.ref g.2.2.1), some (.int a1), some (.int a2), some (.int a3), some (.int a4), some (.ref (g.2.2.1 + 19)), none], [.ref x1]) S1 _
        refine am_astore (L' := [some (.ref g.2.2.1), some (.int a1), some (.int a2), some (.int a3), some (.int a4), some (.ref (g.2.2.1 + 19)), some (.ref x1)]) d_L_shape_17 (by decide) rfl rfl ?_
        refine am_iconst 1 d_L_shape_19 (by decide) ?_
        exact am_iret d_L_shape_20 rfl (sv_L.th hC1 hD1 ho1 h0 (by rw [e]; decide))
      · rw [e] at hc1
        refine am_catYes (pre := [(0, 14, 17, 21)]) (h0 := 0) (e0 := 14) (hp := 21) (ct := 13) (suf := [(0, 14, 25, 15)]) rfl (by intro z hz; obtain rfl := List.mem_singleton.mp hz; exact ⟨by decide, _, cl_4, nc_54⟩) ⟨by decide, by decide⟩ (by decide) cl_5 ca_5 hc1 ⟨_, _, rfl⟩ ?_
        show am_W g (d + 4) mm_L_shape (21, [some (.ref g.2.2.1), some (.int a1), some (.int a2), some (.int a3), some (.int a4), some (.ref (g.2.2.1 + 19)), none], [.ref x1]) S1 _
        refine am_astore (L' := [some (.ref g.2.2.1), some (.int a1), some (.int a2), some (.int a3), some (.int a4), some (.ref (g.2.2.1 + 19)), some (.ref x1)]) d_L_shape_21 (by decide) rfl rfl ?_
        refine am_iconst 2 d_L_shape_23 (by decide) ?_
        exact am_iret d_L_shape_24 rfl (sv_L.th hC1 hD1 ho1 h0 (by rw [e]; decide))
      · rw [e] at hc1
        refine am_catYes (pre := [(0, 14, 17, 21), (0, 14, 21, 13)]) (h0 := 0) (e0 := 14) (hp := 25) (ct := 15) (suf := []) rfl (by intro z hz; rcases List.mem_cons.mp hz with rfl | hz; exact ⟨by decide, _, cl_4, nc_64⟩; obtain rfl := List.mem_singleton.mp hz; exact ⟨by decide, _, cl_5, nc_65⟩) ⟨by decide, by decide⟩ (by decide) cl_6 ca_6 hc1 ⟨_, _, rfl⟩ ?_
        show am_W g (d + 4) mm_L_shape (25, [some (.ref g.2.2.1), some (.int a1), some (.int a2), some (.int a3), some (.int a4), some (.ref (g.2.2.1 + 19)), none], [.ref x1]) S1 _
        refine am_astore (L' := [some (.ref g.2.2.1), some (.int a1), some (.int a2), some (.int a3), some (.int a4), some (.ref (g.2.2.1 + 19)), some (.ref x1)]) d_L_shape_25 (by decide) rfl rfl ?_
        refine am_iconst 3 d_L_shape_27 (by decide) ?_
        exact am_iret d_L_shape_28 rfl (sv_L.th hC1 hD1 ho1 h0 (by rw [e]; decide))
set_option maxHeartbeats 4000000 in
set_option maxRecDepth 100000 in
/-- the law's compact -/
theorem w_compact {g : am_G} {d : Nat} {S : am_S} {lo : Nat} {T : sv_T} {as av : Nat → Nat} (hC : sv_C g lo S T as av) (hr : sv_R g S 16 700) {f : Nat → Int64} (ho : sv_oc g S.1 f) {a1 : Int32} {a2 : Int32} : am_W g (d + 4) mm_L_compact (0, am_ent [.ref g.2.2.1, .int a1, .int a2, .ref (g.2.2.1 + 19)] 5, []) S (sv_L g S (q_compact T a1 a2) (sv_cd 4 5 6)) := by
  obtain ⟨qs, qv, fp, fn, fm, ⟨hx, hq1, hq2, h3, h4, h5⟩, hs, hv, i1, i2, hB, hlo, hw⟩ := id hC
  have h80 := hw.2.1
  have hX : am_W g (d + 3) mm_X_compact (0, am_ent [.ref g.2.2.1, .int a1, .int a2] 7, []) S (sv_O g S (q_compact T a1 a2)) := x_compact hC hr
  have hk := k_compact (T := T) (v := a1) (ln := a2)
  generalize q_compact T a1 a2 = q at hX hk ⊢
  show am_W g (d + 4) mm_L_compact (0, [some (.ref g.2.2.1), some (.int a1), some (.int a2), some (.ref (g.2.2.1 + 19)), none], []) S _
  refine am_aloadn d_L_compact_0 rfl ?_
  refine am_iconst 0 d_L_compact_1 (by decide) ?_
  refine am_ti (b := nI 0) rfl ?_
  refine am_aloadn d_L_compact_2 rfl ?_
  refine am_iloadn d_L_compact_3 rfl ?_
  refine am_iloadn d_L_compact_4 rfl ?_
  refine am_callV (P' := sv_O g S q) [.int a1, .int a2] [.int (nI 0), .ref (g.2.2.1 + 19)] d_L_compact_5 cV_L_40 hx rfl rfl (Nat.le_of_ble_eq_true rfl) (Nat.le_of_ble_eq_true rfl) hX (fun v1 S1 h1 => ?_) (fun x1 S1 h1 => ?_)
  · obtain ⟨⟨lo1, as1, av1, hC1⟩, hD1, ⟨h0, hv1⟩ | ⟨-, a9, hv1, -⟩⟩ := h1
    · have ho1 : sv_oc g S1.1 f := (hD1.1 _ (by omega) (by omega)).trans ho
      obtain rfl := Sum.inl.inj hv1
      obtain ⟨y, hy⟩ := hk.val h0
      rw [hy]
      show am_W g (d + 4) mm_L_compact (8, [some (.ref g.2.2.1), some (.int a1), some (.int a2), some (.ref (g.2.2.1 + 19)), none], [.int y, .int (nI 0), .ref (g.2.2.1 + 19)]) S1 _
      refine am_i2l d_L_compact_8 ?_
      refine am_lastN (t := 1) (k := 0) d_L_compact_9 rfl ho1 (by decide) (by decide) ?_
      refine am_goto (tgt := 25) d_L_compact_10 (by decide) ?_
      refine am_iconst 0 d_L_compact_25 (by decide) ?_
      exact am_iret d_L_compact_26 rfl (sv_L.ok hC1 hD1 h0 (by decide) (by rw [hy]; exact sv_lv.i))
    · cases hv1
  · obtain ⟨⟨lo1, as1, av1, hC1⟩, hD1, ⟨-, hv1⟩ | ⟨h0, a9, hv1, hc1⟩⟩ := h1
    · cases hv1
    · have ho1 : sv_oc g S1.1 f := (hD1.1 _ (by omega) (by omega)).trans ho
      rw [← Sum.inr.inj hv1] at hc1
      rcases hk with ⟨e, -⟩ | ⟨e, hf⟩ | ⟨e, hf⟩ | ⟨e, hf⟩
      · exact absurd e h0
      · rw [e] at hc1
        refine am_catYes (pre := []) (h0 := 0) (e0 := 10) (hp := 13) (ct := 21) (suf := [(0, 10, 17, 13), (0, 10, 21, 15)]) rfl (fun z hz => absurd hz List.not_mem_nil) ⟨by decide, by decide⟩ (by decide) cl_4 ca_4 hc1 ⟨_, _, rfl⟩ ?_
        show am_W g (d + 4) mm_L_compact (13, [some (.ref g.2.2.1), some (.int a1), some (.int a2), some (.ref (g.2.2.1 + 19)), none], [.ref x1]) S1 _
        refine am_astore (L' := [some (.ref g.2.2.1), some (.int a1), some (.int a2), some (.ref (g.2.2.1 + 19)), some (.ref x1)]) d_L_compact_13 (by decide) rfl rfl ?_
        refine am_iconst 1 d_L_compact_15 (by decide) ?_
        exact am_iret d_L_compact_16 rfl (sv_L.th hC1 hD1 ho1 h0 (by rw [e]; decide))
      · rw [e] at hc1
        refine am_catYes (pre := [(0, 10, 13, 21)]) (h0 := 0) (e0 := 10) (hp := 17) (ct := 13) (suf := [(0, 10, 21, 15)]) rfl (by intro z hz; obtain rfl := List.mem_singleton.mp hz; exact ⟨by decide, _, cl_4, nc_54⟩) ⟨by decide, by decide⟩ (by decide) cl_5 ca_5 hc1 ⟨_, _, rfl⟩ ?_
        show am_W g (d + 4) mm_L_compact (17, [some (.ref g.2.2.1), some (.int a1), some (.int a2), some (.ref (g.2.2.1 + 19)), none], [.ref x1]) S1 _
        refine am_astore (L' := [some (.ref g.2.2.1), some (.int a1), some (.int a2), some (.ref (g.2.2.1 + 19)), some (.ref x1)]) d_L_compact_17 (by decide) rfl rfl ?_
        refine am_iconst 2 d_L_compact_19 (by decide) ?_
        exact am_iret d_L_compact_20 rfl (sv_L.th hC1 hD1 ho1 h0 (by rw [e]; decide))
      · rw [e] at hc1
        refine am_catYes (pre := [(0, 10, 13, 21), (0, 10, 17, 13)]) (h0 := 0) (e0 := 10) (hp := 21) (ct := 15) (suf := []) rfl (by intro z hz; rcases List.mem_cons.mp hz with rfl | hz; exact ⟨by decide, _, cl_4, nc_64⟩; obtain rfl := List.mem_singleton.mp hz; exact ⟨by decide, _, cl_5, nc_65⟩) ⟨by decide, by decide⟩ (by decide) cl_6 ca_6 hc1 ⟨_, _, rfl⟩ ?_
        show am_W g (d + 4) mm_L_compact (21, [some (.ref g.2.2.1), some (.int a1), some (.int a2), some (.ref (g.2.2.1 + 19)), none], [.ref x1]) S1 _
        refine am_astore (L' := [some (.ref g.2.2.1), some (.int a1), some (.int a2), some (.ref (g.2.2.1 + 19)), some (.ref x1)]) d_L_compact_21 (by decide) rfl rfl ?_
        refine am_iconst 3 d_L_compact_23 (by decide) ?_
        exact am_iret d_L_compact_24 rfl (sv_L.th hC1 hD1 ho1 h0 (by rw [e]; decide))
set_option maxHeartbeats 4000000 in
set_option maxRecDepth 100000 in
/-- the law's at -/
theorem w_at {g : am_G} {d : Nat} {S : am_S} {lo : Nat} {T : sv_T} {as av : Nat → Nat} (hC : sv_C g lo S T as av) (hr : sv_R g S 16 700) {f : Nat → Int64} (ho : sv_oc g S.1 f) {a1 : Int32} {a2 : Int32} : am_W g (d + 4) mm_L_at (0, am_ent [.ref g.2.2.1, .int a1, .int a2, .ref (g.2.2.1 + 19)] 5, []) S (sv_L g S (q_at T a1 a2) (sv_cd 4 6 9)) := by
  obtain ⟨qs, qv, fp, fn, fm, ⟨hx, hq1, hq2, h3, h4, h5⟩, hs, hv, i1, i2, hB, hlo, hw⟩ := id hC
  have h80 := hw.2.1
  have hX : am_W g (d + 3) mm_X_at (0, am_ent [.ref g.2.2.1, .int a1, .int a2] 4, []) S (sv_O g S (q_at T a1 a2)) := x_at hC hr
  have hk := k_at (T := T) (v := a1) (i := a2)
  generalize q_at T a1 a2 = q at hX hk ⊢
  show am_W g (d + 4) mm_L_at (0, [some (.ref g.2.2.1), some (.int a1), some (.int a2), some (.ref (g.2.2.1 + 19)), none], []) S _
  refine am_aloadn d_L_at_0 rfl ?_
  refine am_iconst 0 d_L_at_1 (by decide) ?_
  refine am_ti (b := nI 0) rfl ?_
  refine am_aloadn d_L_at_2 rfl ?_
  refine am_iloadn d_L_at_3 rfl ?_
  refine am_iloadn d_L_at_4 rfl ?_
  refine am_callV (P' := sv_O g S q) [.int a1, .int a2] [.int (nI 0), .ref (g.2.2.1 + 19)] d_L_at_5 cV_L_43 hx rfl rfl (Nat.le_of_ble_eq_true rfl) (Nat.le_of_ble_eq_true rfl) hX (fun v1 S1 h1 => ?_) (fun x1 S1 h1 => ?_)
  · obtain ⟨⟨lo1, as1, av1, hC1⟩, hD1, ⟨h0, hv1⟩ | ⟨-, a9, hv1, -⟩⟩ := h1
    · have ho1 : sv_oc g S1.1 f := (hD1.1 _ (by omega) (by omega)).trans ho
      obtain rfl := Sum.inl.inj hv1
      obtain ⟨y, hy⟩ := hk.val h0
      rw [hy]
      show am_W g (d + 4) mm_L_at (8, [some (.ref g.2.2.1), some (.int a1), some (.int a2), some (.ref (g.2.2.1 + 19)), none], [.long y, .int (nI 0), .ref (g.2.2.1 + 19)]) S1 _
      refine am_lastN (t := 1) (k := 0) d_L_at_8 rfl ho1 (by decide) (by decide) ?_
      refine am_goto (tgt := 16) d_L_at_9 (by decide) ?_
      refine am_iconst 0 d_L_at_16 (by decide) ?_
      exact am_iret d_L_at_17 rfl (sv_L.ok hC1 hD1 h0 (by decide) (by rw [hy]; exact sv_lv.l))
    · cases hv1
  · obtain ⟨⟨lo1, as1, av1, hC1⟩, hD1, ⟨-, hv1⟩ | ⟨h0, a9, hv1, hc1⟩⟩ := h1
    · cases hv1
    · have ho1 : sv_oc g S1.1 f := (hD1.1 _ (by omega) (by omega)).trans ho
      rw [← Sum.inr.inj hv1] at hc1
      rcases hk with ⟨e, -⟩ | ⟨e, hf⟩ | ⟨e, hf⟩ | ⟨e, hf⟩
      · exact absurd e h0
      · rw [e] at hc1
        refine am_catYes (pre := []) (h0 := 0) (e0 := 9) (hp := 12) (ct := 21) (suf := []) rfl (fun z hz => absurd hz List.not_mem_nil) ⟨by decide, by decide⟩ (by decide) cl_4 ca_4 hc1 ⟨_, _, rfl⟩ ?_
        show am_W g (d + 4) mm_L_at (12, [some (.ref g.2.2.1), some (.int a1), some (.int a2), some (.ref (g.2.2.1 + 19)), none], [.ref x1]) S1 _
        refine am_astore (L' := [some (.ref g.2.2.1), some (.int a1), some (.int a2), some (.ref (g.2.2.1 + 19)), some (.ref x1)]) d_L_at_12 (by decide) rfl rfl ?_
        refine am_iconst 1 d_L_at_14 (by decide) ?_
        exact am_iret d_L_at_15 rfl (sv_L.th hC1 hD1 ho1 h0 (by rw [e]; decide))
      · exact hf.elim
      · exact hf.elim
set_option maxHeartbeats 4000000 in
set_option maxRecDepth 100000 in
/-- the law's put -/
theorem w_put {g : am_G} {d : Nat} {S : am_S} {lo : Nat} {T : sv_T} {as av : Nat → Nat} (hC : sv_C g lo S T as av) (hr : sv_R g S 16 700) {f : Nat → Int64} (ho : sv_oc g S.1 f) {a1 : Int32} {a2 : Int32} {a3 : Int64} : am_W g (d + 4) mm_L_put (0, am_ent [.ref g.2.2.1, .int a1, .int a2, .long a3, .ref (g.2.2.1 + 19)] 7, []) S (sv_L g S (q_put T a1 a2 a3) (sv_cd 4 6 9)) := by
  obtain ⟨qs, qv, fp, fn, fm, ⟨hx, hq1, hq2, h3, h4, h5⟩, hs, hv, i1, i2, hB, hlo, hw⟩ := id hC
  have h80 := hw.2.1
  have hX : am_W g (d + 3) mm_X_put (0, am_ent [.ref g.2.2.1, .int a1, .int a2, .long a3] 9, []) S (sv_O g S (q_put T a1 a2 a3)) := x_put hC hr
  have hk := k_put (T := T) (v := a1) (i := a2) (y := a3)
  generalize q_put T a1 a2 a3 = q at hX hk ⊢
  show am_W g (d + 4) mm_L_put (0, [some (.ref g.2.2.1), some (.int a1), some (.int a2), some (.long a3), none, some (.ref (g.2.2.1 + 19)), none], []) S _
  refine am_aload d_L_put_0 rfl ?_
  refine am_iconst 0 d_L_put_2 (by decide) ?_
  refine am_ti (b := nI 0) rfl ?_
  refine am_aloadn d_L_put_3 rfl ?_
  refine am_iloadn d_L_put_4 rfl ?_
  refine am_iloadn d_L_put_5 rfl ?_
  refine am_lloadn d_L_put_6 rfl ?_
  refine am_callV (P' := sv_O g S q) [.int a1, .int a2, .long a3] [.int (nI 0), .ref (g.2.2.1 + 19)] d_L_put_7 cV_L_47 hx rfl rfl (Nat.le_of_ble_eq_true rfl) (Nat.le_of_ble_eq_true rfl) hX (fun v1 S1 h1 => ?_) (fun x1 S1 h1 => ?_)
  · obtain ⟨⟨lo1, as1, av1, hC1⟩, hD1, ⟨h0, hv1⟩ | ⟨-, a9, hv1, -⟩⟩ := h1
    · have ho1 : sv_oc g S1.1 f := (hD1.1 _ (by omega) (by omega)).trans ho
      obtain rfl := Sum.inl.inj hv1
      obtain ⟨y, hy⟩ := hk.val h0
      rw [hy]
      show am_W g (d + 4) mm_L_put (10, [some (.ref g.2.2.1), some (.int a1), some (.int a2), some (.long a3), none, some (.ref (g.2.2.1 + 19)), none], [.long y, .int (nI 0), .ref (g.2.2.1 + 19)]) S1 _
      refine am_lastN (t := 1) (k := 0) d_L_put_10 rfl ho1 (by decide) (by decide) ?_
      refine am_goto (tgt := 22) d_L_put_11 (by decide) ?_
      refine am_iconst 0 d_L_put_22 (by decide) ?_
      exact am_iret d_L_put_23 rfl (sv_L.ok hC1 hD1 h0 (by decide) (by rw [hy]; exact sv_lv.l))
    · cases hv1
  · obtain ⟨⟨lo1, as1, av1, hC1⟩, hD1, ⟨-, hv1⟩ | ⟨h0, a9, hv1, hc1⟩⟩ := h1
    · cases hv1
    · have ho1 : sv_oc g S1.1 f := (hD1.1 _ (by omega) (by omega)).trans ho
      rw [← Sum.inr.inj hv1] at hc1
      rcases hk with ⟨e, -⟩ | ⟨e, hf⟩ | ⟨e, hf⟩ | ⟨e, hf⟩
      · exact absurd e h0
      · rw [e] at hc1
        refine am_catYes (pre := []) (h0 := 0) (e0 := 11) (hp := 14) (ct := 21) (suf := [(0, 11, 18, 15)]) rfl (fun z hz => absurd hz List.not_mem_nil) ⟨by decide, by decide⟩ (by decide) cl_4 ca_4 hc1 ⟨_, _, rfl⟩ ?_
        show am_W g (d + 4) mm_L_put (14, [some (.ref g.2.2.1), some (.int a1), some (.int a2), some (.long a3), none, some (.ref (g.2.2.1 + 19)), none], [.ref x1]) S1 _
        refine am_astore (L' := [some (.ref g.2.2.1), some (.int a1), some (.int a2), some (.long a3), none, some (.ref (g.2.2.1 + 19)), some (.ref x1)]) d_L_put_14 (by decide) rfl rfl ?_
        refine am_iconst 1 d_L_put_16 (by decide) ?_
        exact am_iret d_L_put_17 rfl (sv_L.th hC1 hD1 ho1 h0 (by rw [e]; decide))
      · exact hf.elim
      · rw [e] at hc1
        refine am_catYes (pre := [(0, 11, 14, 21)]) (h0 := 0) (e0 := 11) (hp := 18) (ct := 15) (suf := []) rfl (by intro z hz; obtain rfl := List.mem_singleton.mp hz; exact ⟨by decide, _, cl_4, nc_64⟩) ⟨by decide, by decide⟩ (by decide) cl_6 ca_6 hc1 ⟨_, _, rfl⟩ ?_
        show am_W g (d + 4) mm_L_put (18, [some (.ref g.2.2.1), some (.int a1), some (.int a2), some (.long a3), none, some (.ref (g.2.2.1 + 19)), none], [.ref x1]) S1 _
        refine am_astore (L' := [some (.ref g.2.2.1), some (.int a1), some (.int a2), some (.long a3), none, some (.ref (g.2.2.1 + 19)), some (.ref x1)]) d_L_put_18 (by decide) rfl rfl ?_
        refine am_iconst 2 d_L_put_20 (by decide) ?_
        exact am_iret d_L_put_21 rfl (sv_L.th hC1 hD1 ho1 h0 (by rw [e]; decide))
set_option maxHeartbeats 4000000 in
set_option maxRecDepth 100000 in
/-- the law's copy -/
theorem w_copy {g : am_G} {d : Nat} {S : am_S} {lo : Nat} {T : sv_T} {as av : Nat → Nat} (hC : sv_C g lo S T as av) (hr : sv_R g S 16 700) {f : Nat → Int64} (ho : sv_oc g S.1 f) {a1 : Int32} {a2 : Int32} : am_W g (d + 4) mm_L_copy (0, am_ent [.ref g.2.2.1, .int a1, .int a2, .ref (g.2.2.1 + 19)] 5, []) S (sv_L g S (q_copy T a1 a2) (sv_cd 4 5 6)) := by
  obtain ⟨qs, qv, fp, fn, fm, ⟨hx, hq1, hq2, h3, h4, h5⟩, hs, hv, i1, i2, hB, hlo, hw⟩ := id hC
  have h80 := hw.2.1
  have hX : am_W g (d + 3) mm_X_copy (0, am_ent [.ref g.2.2.1, .int a1, .int a2] 5, []) S (sv_O g S (q_copy T a1 a2)) := x_copy hC hr
  have hk := k_copy (T := T) (v := a1) (w := a2)
  generalize q_copy T a1 a2 = q at hX hk ⊢
  show am_W g (d + 4) mm_L_copy (0, [some (.ref g.2.2.1), some (.int a1), some (.int a2), some (.ref (g.2.2.1 + 19)), none], []) S _
  refine am_aloadn d_L_copy_0 rfl ?_
  refine am_iconst 0 d_L_copy_1 (by decide) ?_
  refine am_ti (b := nI 0) rfl ?_
  refine am_aloadn d_L_copy_2 rfl ?_
  refine am_iloadn d_L_copy_3 rfl ?_
  refine am_iloadn d_L_copy_4 rfl ?_
  refine am_callV (P' := sv_O g S q) [.int a1, .int a2] [.int (nI 0), .ref (g.2.2.1 + 19)] d_L_copy_5 cV_L_51 hx rfl rfl (Nat.le_of_ble_eq_true rfl) (Nat.le_of_ble_eq_true rfl) hX (fun v1 S1 h1 => ?_) (fun x1 S1 h1 => ?_)
  · obtain ⟨⟨lo1, as1, av1, hC1⟩, hD1, ⟨h0, hv1⟩ | ⟨-, a9, hv1, -⟩⟩ := h1
    · have ho1 : sv_oc g S1.1 f := (hD1.1 _ (by omega) (by omega)).trans ho
      obtain rfl := Sum.inl.inj hv1
      obtain ⟨y, hy⟩ := hk.val h0
      rw [hy]
      show am_W g (d + 4) mm_L_copy (8, [some (.ref g.2.2.1), some (.int a1), some (.int a2), some (.ref (g.2.2.1 + 19)), none], [.int y, .int (nI 0), .ref (g.2.2.1 + 19)]) S1 _
      refine am_i2l d_L_copy_8 ?_
      refine am_lastN (t := 1) (k := 0) d_L_copy_9 rfl ho1 (by decide) (by decide) ?_
      refine am_goto (tgt := 25) d_L_copy_10 (by decide) ?_
      refine am_iconst 0 d_L_copy_25 (by decide) ?_
      exact am_iret d_L_copy_26 rfl (sv_L.ok hC1 hD1 h0 (by decide) (by rw [hy]; exact sv_lv.i))
    · cases hv1
  · obtain ⟨⟨lo1, as1, av1, hC1⟩, hD1, ⟨-, hv1⟩ | ⟨h0, a9, hv1, hc1⟩⟩ := h1
    · cases hv1
    · have ho1 : sv_oc g S1.1 f := (hD1.1 _ (by omega) (by omega)).trans ho
      rw [← Sum.inr.inj hv1] at hc1
      rcases hk with ⟨e, -⟩ | ⟨e, hf⟩ | ⟨e, hf⟩ | ⟨e, hf⟩
      · exact absurd e h0
      · rw [e] at hc1
        refine am_catYes (pre := []) (h0 := 0) (e0 := 10) (hp := 13) (ct := 21) (suf := [(0, 10, 17, 13), (0, 10, 21, 15)]) rfl (fun z hz => absurd hz List.not_mem_nil) ⟨by decide, by decide⟩ (by decide) cl_4 ca_4 hc1 ⟨_, _, rfl⟩ ?_
        show am_W g (d + 4) mm_L_copy (13, [some (.ref g.2.2.1), some (.int a1), some (.int a2), some (.ref (g.2.2.1 + 19)), none], [.ref x1]) S1 _
        refine am_astore (L' := [some (.ref g.2.2.1), some (.int a1), some (.int a2), some (.ref (g.2.2.1 + 19)), some (.ref x1)]) d_L_copy_13 (by decide) rfl rfl ?_
        refine am_iconst 1 d_L_copy_15 (by decide) ?_
        exact am_iret d_L_copy_16 rfl (sv_L.th hC1 hD1 ho1 h0 (by rw [e]; decide))
      · rw [e] at hc1
        refine am_catYes (pre := [(0, 10, 13, 21)]) (h0 := 0) (e0 := 10) (hp := 17) (ct := 13) (suf := [(0, 10, 21, 15)]) rfl (by intro z hz; obtain rfl := List.mem_singleton.mp hz; exact ⟨by decide, _, cl_4, nc_54⟩) ⟨by decide, by decide⟩ (by decide) cl_5 ca_5 hc1 ⟨_, _, rfl⟩ ?_
        show am_W g (d + 4) mm_L_copy (17, [some (.ref g.2.2.1), some (.int a1), some (.int a2), some (.ref (g.2.2.1 + 19)), none], [.ref x1]) S1 _
        refine am_astore (L' := [some (.ref g.2.2.1), some (.int a1), some (.int a2), some (.ref (g.2.2.1 + 19)), some (.ref x1)]) d_L_copy_17 (by decide) rfl rfl ?_
        refine am_iconst 2 d_L_copy_19 (by decide) ?_
        exact am_iret d_L_copy_20 rfl (sv_L.th hC1 hD1 ho1 h0 (by rw [e]; decide))
      · rw [e] at hc1
        refine am_catYes (pre := [(0, 10, 13, 21), (0, 10, 17, 13)]) (h0 := 0) (e0 := 10) (hp := 21) (ct := 15) (suf := []) rfl (by intro z hz; rcases List.mem_cons.mp hz with rfl | hz; exact ⟨by decide, _, cl_4, nc_64⟩; obtain rfl := List.mem_singleton.mp hz; exact ⟨by decide, _, cl_5, nc_65⟩) ⟨by decide, by decide⟩ (by decide) cl_6 ca_6 hc1 ⟨_, _, rfl⟩ ?_
        show am_W g (d + 4) mm_L_copy (21, [some (.ref g.2.2.1), some (.int a1), some (.int a2), some (.ref (g.2.2.1 + 19)), none], [.ref x1]) S1 _
        refine am_astore (L' := [some (.ref g.2.2.1), some (.int a1), some (.int a2), some (.ref (g.2.2.1 + 19)), some (.ref x1)]) d_L_copy_21 (by decide) rfl rfl ?_
        refine am_iconst 3 d_L_copy_23 (by decide) ?_
        exact am_iret d_L_copy_24 rfl (sv_L.th hC1 hD1 ho1 h0 (by rw [e]; decide))
set_option maxHeartbeats 4000000 in
set_option maxRecDepth 100000 in
/-- the law's act -/
theorem w_act {g : am_G} {d : Nat} {S : am_S} {lo : Nat} {T : sv_T} {as av : Nat → Nat} (hC : sv_C g lo S T as av) (hr : sv_R g S 16 700) {f : Nat → Int64} (ho : sv_oc g S.1 f) {a1 : Int32} {a2 : Int32} {a3 : Int32} {a4 : Int32} : am_W g (d + 4) mm_L_act (0, am_ent [.ref g.2.2.1, .int a1, .int a2, .int a3, .int a4, .ref (g.2.2.1 + 19)] 7, []) S (sv_L g S (q_act T a1 a2 a3 a4) (sv_cd 4 5 6)) := by
  obtain ⟨qs, qv, fp, fn, fm, ⟨hx, hq1, hq2, h3, h4, h5⟩, hs, hv, i1, i2, hB, hlo, hw⟩ := id hC
  have h80 := hw.2.1
  have hX : am_W g (d + 3) mm_X_act (0, am_ent [.ref g.2.2.1, .int a1, .int a2, .int a3, .int a4] 9, []) S (sv_O g S (q_act T a1 a2 a3 a4)) := x_act hC hr
  have hk := k_act (T := T) (t := a1) (v := a2) (w := a3) (u := a4)
  generalize q_act T a1 a2 a3 a4 = q at hX hk ⊢
  show am_W g (d + 4) mm_L_act (0, [some (.ref g.2.2.1), some (.int a1), some (.int a2), some (.int a3), some (.int a4), some (.ref (g.2.2.1 + 19)), none], []) S _
  refine am_aload d_L_act_0 rfl ?_
  refine am_iconst 0 d_L_act_2 (by decide) ?_
  refine am_ti (b := nI 0) rfl ?_
  refine am_aloadn d_L_act_3 rfl ?_
  refine am_iloadn d_L_act_4 rfl ?_
  refine am_iloadn d_L_act_5 rfl ?_
  refine am_iloadn d_L_act_6 rfl ?_
  refine am_iload d_L_act_7 rfl ?_
  refine am_callV (P' := sv_O g S q) [.int a1, .int a2, .int a3, .int a4] [.int (nI 0), .ref (g.2.2.1 + 19)] d_L_act_9 cV_L_54 hx rfl rfl (Nat.le_of_ble_eq_true rfl) (Nat.le_of_ble_eq_true rfl) hX (fun v1 S1 h1 => ?_) (fun x1 S1 h1 => ?_)
  · obtain ⟨⟨lo1, as1, av1, hC1⟩, hD1, ⟨h0, hv1⟩ | ⟨-, a9, hv1, -⟩⟩ := h1
    · have ho1 : sv_oc g S1.1 f := (hD1.1 _ (by omega) (by omega)).trans ho
      obtain rfl := Sum.inl.inj hv1
      obtain ⟨y, hy⟩ := hk.val h0
      rw [hy]
      show am_W g (d + 4) mm_L_act (12, [some (.ref g.2.2.1), some (.int a1), some (.int a2), some (.int a3), some (.int a4), some (.ref (g.2.2.1 + 19)), none], [.int y, .int (nI 0), .ref (g.2.2.1 + 19)]) S1 _
      refine am_i2l d_L_act_12 ?_
      refine am_lastN (t := 1) (k := 0) d_L_act_13 rfl ho1 (by decide) (by decide) ?_
      refine am_goto (tgt := 29) d_L_act_14 (by decide) ?_
      refine am_iconst 0 d_L_act_29 (by decide) ?_
      exact am_iret d_L_act_30 rfl (sv_L.ok hC1 hD1 h0 (by decide) (by rw [hy]; exact sv_lv.i))
    · cases hv1
  · obtain ⟨⟨lo1, as1, av1, hC1⟩, hD1, ⟨-, hv1⟩ | ⟨h0, a9, hv1, hc1⟩⟩ := h1
    · cases hv1
    · have ho1 : sv_oc g S1.1 f := (hD1.1 _ (by omega) (by omega)).trans ho
      rw [← Sum.inr.inj hv1] at hc1
      rcases hk with ⟨e, -⟩ | ⟨e, hf⟩ | ⟨e, hf⟩ | ⟨e, hf⟩
      · exact absurd e h0
      · rw [e] at hc1
        refine am_catYes (pre := []) (h0 := 0) (e0 := 14) (hp := 17) (ct := 21) (suf := [(0, 14, 21, 13), (0, 14, 25, 15)]) rfl (fun z hz => absurd hz List.not_mem_nil) ⟨by decide, by decide⟩ (by decide) cl_4 ca_4 hc1 ⟨_, _, rfl⟩ ?_
        show am_W g (d + 4) mm_L_act (17, [some (.ref g.2.2.1), some (.int a1), some (.int a2), some (.int a3), some (.int a4), some (.ref (g.2.2.1 + 19)), none], [.ref x1]) S1 _
        refine am_astore (L' := [some (.ref g.2.2.1), some (.int a1), some (.int a2), some (.int a3), some (.int a4), some (.ref (g.2.2.1 + 19)), some (.ref x1)]) d_L_act_17 (by decide) rfl rfl ?_
        refine am_iconst 1 d_L_act_19 (by decide) ?_
        exact am_iret d_L_act_20 rfl (sv_L.th hC1 hD1 ho1 h0 (by rw [e]; decide))
      · rw [e] at hc1
        refine am_catYes (pre := [(0, 14, 17, 21)]) (h0 := 0) (e0 := 14) (hp := 21) (ct := 13) (suf := [(0, 14, 25, 15)]) rfl (by intro z hz; obtain rfl := List.mem_singleton.mp hz; exact ⟨by decide, _, cl_4, nc_54⟩) ⟨by decide, by decide⟩ (by decide) cl_5 ca_5 hc1 ⟨_, _, rfl⟩ ?_
        show am_W g (d + 4) mm_L_act (21, [some (.ref g.2.2.1), some (.int a1), some (.int a2), some (.int a3), some (.int a4), some (.ref (g.2.2.1 + 19)), none], [.ref x1]) S1 _
        refine am_astore (L' := [some (.ref g.2.2.1), some (.int a1), some (.int a2), some (.int a3), some (.int a4), some (.ref (g.2.2.1 + 19)), some (.ref x1)]) d_L_act_21 (by decide) rfl rfl ?_
        refine am_iconst 2 d_L_act_23 (by decide) ?_
        exact am_iret d_L_act_24 rfl (sv_L.th hC1 hD1 ho1 h0 (by rw [e]; decide))
      · rw [e] at hc1
        refine am_catYes (pre := [(0, 14, 17, 21), (0, 14, 21, 13)]) (h0 := 0) (e0 := 14) (hp := 25) (ct := 15) (suf := []) rfl (by intro z hz; rcases List.mem_cons.mp hz with rfl | hz; exact ⟨by decide, _, cl_4, nc_64⟩; obtain rfl := List.mem_singleton.mp hz; exact ⟨by decide, _, cl_5, nc_65⟩) ⟨by decide, by decide⟩ (by decide) cl_6 ca_6 hc1 ⟨_, _, rfl⟩ ?_
        show am_W g (d + 4) mm_L_act (25, [some (.ref g.2.2.1), some (.int a1), some (.int a2), some (.int a3), some (.int a4), some (.ref (g.2.2.1 + 19)), none], [.ref x1]) S1 _
        refine am_astore (L' := [some (.ref g.2.2.1), some (.int a1), some (.int a2), some (.int a3), some (.int a4), some (.ref (g.2.2.1 + 19)), some (.ref x1)]) d_L_act_25 (by decide) rfl rfl ?_
        refine am_iconst 3 d_L_act_27 (by decide) ?_
        exact am_iret d_L_act_28 rfl (sv_L.th hC1 hD1 ho1 h0 (by rw [e]; decide))
set_option maxHeartbeats 4000000 in
set_option maxRecDepth 100000 in
/-- the law's fold -/
theorem w_fold {g : am_G} {d : Nat} {S : am_S} {lo : Nat} {T : sv_T} {as av : Nat → Nat} (hC : sv_C g lo S T as av) (hr : sv_R g S 16 700) {f : Nat → Int64} (ho : sv_oc g S.1 f) {a1 : Int32} {a2 : Int32} {a3 : Int32} : am_W g (d + 4) mm_L_fold (0, am_ent [.ref g.2.2.1, .int a1, .int a2, .int a3, .ref (g.2.2.1 + 19)] 6, []) S (sv_L g S (q_fold T a1 a2 a3) (sv_cd 4 5 6)) := by
  obtain ⟨qs, qv, fp, fn, fm, ⟨hx, hq1, hq2, h3, h4, h5⟩, hs, hv, i1, i2, hB, hlo, hw⟩ := id hC
  have h80 := hw.2.1
  have hX : am_W g (d + 3) mm_X_fold (0, am_ent [.ref g.2.2.1, .int a1, .int a2, .int a3] 8, []) S (sv_O g S (q_fold T a1 a2 a3)) := x_fold hC hr
  have hk := k_fold (T := T) (t := a1) (v := a2) (x := a3)
  generalize q_fold T a1 a2 a3 = q at hX hk ⊢
  show am_W g (d + 4) mm_L_fold (0, [some (.ref g.2.2.1), some (.int a1), some (.int a2), some (.int a3), some (.ref (g.2.2.1 + 19)), none], []) S _
  refine am_aload d_L_fold_0 rfl ?_
  refine am_iconst 0 d_L_fold_2 (by decide) ?_
  refine am_ti (b := nI 0) rfl ?_
  refine am_aloadn d_L_fold_3 rfl ?_
  refine am_iloadn d_L_fold_4 rfl ?_
  refine am_iloadn d_L_fold_5 rfl ?_
  refine am_iloadn d_L_fold_6 rfl ?_
  refine am_callV (P' := sv_O g S q) [.int a1, .int a2, .int a3] [.int (nI 0), .ref (g.2.2.1 + 19)] d_L_fold_7 cV_L_57 hx rfl rfl (Nat.le_of_ble_eq_true rfl) (Nat.le_of_ble_eq_true rfl) hX (fun v1 S1 h1 => ?_) (fun x1 S1 h1 => ?_)
  · obtain ⟨⟨lo1, as1, av1, hC1⟩, hD1, ⟨h0, hv1⟩ | ⟨-, a9, hv1, -⟩⟩ := h1
    · have ho1 : sv_oc g S1.1 f := (hD1.1 _ (by omega) (by omega)).trans ho
      obtain rfl := Sum.inl.inj hv1
      obtain ⟨y, hy⟩ := hk.val h0
      rw [hy]
      show am_W g (d + 4) mm_L_fold (10, [some (.ref g.2.2.1), some (.int a1), some (.int a2), some (.int a3), some (.ref (g.2.2.1 + 19)), none], [.int y, .int (nI 0), .ref (g.2.2.1 + 19)]) S1 _
      refine am_i2l d_L_fold_10 ?_
      refine am_lastN (t := 1) (k := 0) d_L_fold_11 rfl ho1 (by decide) (by decide) ?_
      refine am_goto (tgt := 27) d_L_fold_12 (by decide) ?_
      refine am_iconst 0 d_L_fold_27 (by decide) ?_
      exact am_iret d_L_fold_28 rfl (sv_L.ok hC1 hD1 h0 (by decide) (by rw [hy]; exact sv_lv.i))
    · cases hv1
  · obtain ⟨⟨lo1, as1, av1, hC1⟩, hD1, ⟨-, hv1⟩ | ⟨h0, a9, hv1, hc1⟩⟩ := h1
    · cases hv1
    · have ho1 : sv_oc g S1.1 f := (hD1.1 _ (by omega) (by omega)).trans ho
      rw [← Sum.inr.inj hv1] at hc1
      rcases hk with ⟨e, -⟩ | ⟨e, hf⟩ | ⟨e, hf⟩ | ⟨e, hf⟩
      · exact absurd e h0
      · rw [e] at hc1
        refine am_catYes (pre := []) (h0 := 0) (e0 := 12) (hp := 15) (ct := 21) (suf := [(0, 12, 19, 13), (0, 12, 23, 15)]) rfl (fun z hz => absurd hz List.not_mem_nil) ⟨by decide, by decide⟩ (by decide) cl_4 ca_4 hc1 ⟨_, _, rfl⟩ ?_
        show am_W g (d + 4) mm_L_fold (15, [some (.ref g.2.2.1), some (.int a1), some (.int a2), some (.int a3), some (.ref (g.2.2.1 + 19)), none], [.ref x1]) S1 _
        refine am_astore (L' := [some (.ref g.2.2.1), some (.int a1), some (.int a2), some (.int a3), some (.ref (g.2.2.1 + 19)), some (.ref x1)]) d_L_fold_15 (by decide) rfl rfl ?_
        refine am_iconst 1 d_L_fold_17 (by decide) ?_
        exact am_iret d_L_fold_18 rfl (sv_L.th hC1 hD1 ho1 h0 (by rw [e]; decide))
      · rw [e] at hc1
        refine am_catYes (pre := [(0, 12, 15, 21)]) (h0 := 0) (e0 := 12) (hp := 19) (ct := 13) (suf := [(0, 12, 23, 15)]) rfl (by intro z hz; obtain rfl := List.mem_singleton.mp hz; exact ⟨by decide, _, cl_4, nc_54⟩) ⟨by decide, by decide⟩ (by decide) cl_5 ca_5 hc1 ⟨_, _, rfl⟩ ?_
        show am_W g (d + 4) mm_L_fold (19, [some (.ref g.2.2.1), some (.int a1), some (.int a2), some (.int a3), some (.ref (g.2.2.1 + 19)), none], [.ref x1]) S1 _
        refine am_astore (L' := [some (.ref g.2.2.1), some (.int a1), some (.int a2), some (.int a3), some (.ref (g.2.2.1 + 19)), some (.ref x1)]) d_L_fold_19 (by decide) rfl rfl ?_
        refine am_iconst 2 d_L_fold_21 (by decide) ?_
        exact am_iret d_L_fold_22 rfl (sv_L.th hC1 hD1 ho1 h0 (by rw [e]; decide))
      · rw [e] at hc1
        refine am_catYes (pre := [(0, 12, 15, 21), (0, 12, 19, 13)]) (h0 := 0) (e0 := 12) (hp := 23) (ct := 15) (suf := []) rfl (by intro z hz; rcases List.mem_cons.mp hz with rfl | hz; exact ⟨by decide, _, cl_4, nc_64⟩; obtain rfl := List.mem_singleton.mp hz; exact ⟨by decide, _, cl_5, nc_65⟩) ⟨by decide, by decide⟩ (by decide) cl_6 ca_6 hc1 ⟨_, _, rfl⟩ ?_
        show am_W g (d + 4) mm_L_fold (23, [some (.ref g.2.2.1), some (.int a1), some (.int a2), some (.int a3), some (.ref (g.2.2.1 + 19)), none], [.ref x1]) S1 _
        refine am_astore (L' := [some (.ref g.2.2.1), some (.int a1), some (.int a2), some (.int a3), some (.ref (g.2.2.1 + 19)), some (.ref x1)]) d_L_fold_23 (by decide) rfl rfl ?_
        refine am_iconst 3 d_L_fold_25 (by decide) ?_
        exact am_iret d_L_fold_26 rfl (sv_L.th hC1 hD1 ho1 h0 (by rw [e]; decide))
set_option maxHeartbeats 4000000 in
set_option maxRecDepth 100000 in
/-- the law's shared -/
theorem w_shared {g : am_G} {d : Nat} {S : am_S} {lo : Nat} {T : sv_T} {as av : Nat → Nat} (hC : sv_C g lo S T as av) (hr : sv_R g S 16 700) {f : Nat → Int64} (ho : sv_oc g S.1 f) {a1 : Int32} {a2 : Int32} : am_W g (d + 4) mm_L_shared (0, am_ent [.ref g.2.2.1, .int a1, .int a2, .ref (g.2.2.1 + 19)] 5, []) S (sv_L g S (q_shared T a1 a2) (sv_cd 4 6 9)) := by
  obtain ⟨qs, qv, fp, fn, fm, ⟨hx, hq1, hq2, h3, h4, h5⟩, hs, hv, i1, i2, hB, hlo, hw⟩ := id hC
  have h80 := hw.2.1
  have hX : am_W g (d + 3) mm_X_shared (0, am_ent [.ref g.2.2.1, .int a1, .int a2] 7, []) S (sv_O g S (q_shared T a1 a2)) := x_shared hC hr
  have hk := k_shared (T := T) (v := a1) (w := a2)
  generalize q_shared T a1 a2 = q at hX hk ⊢
  show am_W g (d + 4) mm_L_shared (0, [some (.ref g.2.2.1), some (.int a1), some (.int a2), some (.ref (g.2.2.1 + 19)), none], []) S _
  refine am_aloadn d_L_shared_0 rfl ?_
  refine am_iconst 0 d_L_shared_1 (by decide) ?_
  refine am_ti (b := nI 0) rfl ?_
  refine am_aloadn d_L_shared_2 rfl ?_
  refine am_iloadn d_L_shared_3 rfl ?_
  refine am_iloadn d_L_shared_4 rfl ?_
  refine am_callV (P' := sv_O g S q) [.int a1, .int a2] [.int (nI 0), .ref (g.2.2.1 + 19)] d_L_shared_5 cV_L_60 hx rfl rfl (Nat.le_of_ble_eq_true rfl) (Nat.le_of_ble_eq_true rfl) hX (fun v1 S1 h1 => ?_) (fun x1 S1 h1 => ?_)
  · obtain ⟨⟨lo1, as1, av1, hC1⟩, hD1, ⟨h0, hv1⟩ | ⟨-, a9, hv1, -⟩⟩ := h1
    · have ho1 : sv_oc g S1.1 f := (hD1.1 _ (by omega) (by omega)).trans ho
      obtain rfl := Sum.inl.inj hv1
      obtain ⟨y, hy⟩ := hk.val h0
      rw [hy]
      show am_W g (d + 4) mm_L_shared (8, [some (.ref g.2.2.1), some (.int a1), some (.int a2), some (.ref (g.2.2.1 + 19)), none], [.int y, .int (nI 0), .ref (g.2.2.1 + 19)]) S1 _
      refine am_i2l d_L_shared_8 ?_
      refine am_lastN (t := 1) (k := 0) d_L_shared_9 rfl ho1 (by decide) (by decide) ?_
      refine am_goto (tgt := 17) d_L_shared_10 (by decide) ?_
      refine am_iconst 0 d_L_shared_17 (by decide) ?_
      exact am_iret d_L_shared_18 rfl (sv_L.ok hC1 hD1 h0 (by decide) (by rw [hy]; exact sv_lv.i))
    · cases hv1
  · obtain ⟨⟨lo1, as1, av1, hC1⟩, hD1, ⟨-, hv1⟩ | ⟨h0, a9, hv1, hc1⟩⟩ := h1
    · cases hv1
    · have ho1 : sv_oc g S1.1 f := (hD1.1 _ (by omega) (by omega)).trans ho
      rw [← Sum.inr.inj hv1] at hc1
      rcases hk with ⟨e, -⟩ | ⟨e, hf⟩ | ⟨e, hf⟩ | ⟨e, hf⟩
      · exact absurd e h0
      · rw [e] at hc1
        refine am_catYes (pre := []) (h0 := 0) (e0 := 10) (hp := 13) (ct := 21) (suf := []) rfl (fun z hz => absurd hz List.not_mem_nil) ⟨by decide, by decide⟩ (by decide) cl_4 ca_4 hc1 ⟨_, _, rfl⟩ ?_
        show am_W g (d + 4) mm_L_shared (13, [some (.ref g.2.2.1), some (.int a1), some (.int a2), some (.ref (g.2.2.1 + 19)), none], [.ref x1]) S1 _
        refine am_astore (L' := [some (.ref g.2.2.1), some (.int a1), some (.int a2), some (.ref (g.2.2.1 + 19)), some (.ref x1)]) d_L_shared_13 (by decide) rfl rfl ?_
        refine am_iconst 1 d_L_shared_15 (by decide) ?_
        exact am_iret d_L_shared_16 rfl (sv_L.th hC1 hD1 ho1 h0 (by rw [e]; decide))
      · exact hf.elim
      · exact hf.elim
set_option maxHeartbeats 4000000 in
set_option maxRecDepth 100000 in
/-- the law's same -/
theorem w_same {g : am_G} {d : Nat} {S : am_S} {lo : Nat} {T : sv_T} {as av : Nat → Nat} (hC : sv_C g lo S T as av) (hr : sv_R g S 16 700) {f : Nat → Int64} (ho : sv_oc g S.1 f) {a1 : Int32} {a2 : Int32} : am_W g (d + 4) mm_L_same (0, am_ent [.ref g.2.2.1, .int a1, .int a2, .ref (g.2.2.1 + 19)] 5, []) S (sv_L g S (q_same T a1 a2) (sv_cd 4 6 9)) := by
  obtain ⟨qs, qv, fp, fn, fm, ⟨hx, hq1, hq2, h3, h4, h5⟩, hs, hv, i1, i2, hB, hlo, hw⟩ := id hC
  have h80 := hw.2.1
  have hX : am_W g (d + 3) mm_X_same (0, am_ent [.ref g.2.2.1, .int a1, .int a2] 6, []) S (sv_O g S (q_same T a1 a2)) := x_same hC hr
  have hk := k_same (T := T) (v := a1) (w := a2)
  generalize q_same T a1 a2 = q at hX hk ⊢
  show am_W g (d + 4) mm_L_same (0, [some (.ref g.2.2.1), some (.int a1), some (.int a2), some (.ref (g.2.2.1 + 19)), none], []) S _
  refine am_aloadn d_L_same_0 rfl ?_
  refine am_iconst 0 d_L_same_1 (by decide) ?_
  refine am_ti (b := nI 0) rfl ?_
  refine am_aloadn d_L_same_2 rfl ?_
  refine am_iloadn d_L_same_3 rfl ?_
  refine am_iloadn d_L_same_4 rfl ?_
  refine am_callV (P' := sv_O g S q) [.int a1, .int a2] [.int (nI 0), .ref (g.2.2.1 + 19)] d_L_same_5 cV_L_63 hx rfl rfl (Nat.le_of_ble_eq_true rfl) (Nat.le_of_ble_eq_true rfl) hX (fun v1 S1 h1 => ?_) (fun x1 S1 h1 => ?_)
  · obtain ⟨⟨lo1, as1, av1, hC1⟩, hD1, ⟨h0, hv1⟩ | ⟨-, a9, hv1, -⟩⟩ := h1
    · have ho1 : sv_oc g S1.1 f := (hD1.1 _ (by omega) (by omega)).trans ho
      obtain rfl := Sum.inl.inj hv1
      rcases hk.val h0 with hy | hy
      · rw [hy]
        show am_W g (d + 4) mm_L_same (8, [some (.ref g.2.2.1), some (.int a1), some (.int a2), some (.ref (g.2.2.1 + 19)), none], [.int 0, .int (nI 0), .ref (g.2.2.1 + 19)]) S1 _
        refine am_ifeq (tgt := 15) d_L_same_8 (by decide) (fun hz => ?_) (fun hz => ?_)
        · refine am_lconst 0 d_L_same_15 (by decide) ?_
          refine am_lastN (t := 1) (k := 0) d_L_same_16 rfl ho1 (by decide) (by decide) ?_
          refine am_goto (tgt := 24) d_L_same_17 (by decide) ?_
          refine am_iconst 0 d_L_same_24 (by decide) ?_
          exact am_iret d_L_same_25 rfl (sv_L.ok hC1 hD1 h0 (by decide) (by rw [hy]; exact sv_lv.z))
        · exact absurd rfl hz
      · rw [hy]
        show am_W g (d + 4) mm_L_same (8, [some (.ref g.2.2.1), some (.int a1), some (.int a2), some (.ref (g.2.2.1 + 19)), none], [.int 1, .int (nI 0), .ref (g.2.2.1 + 19)]) S1 _
        refine am_ifeq (tgt := 15) d_L_same_8 (by decide) (fun hz => ?_) (fun hz => ?_)
        · exact absurd hz (by decide)
        · refine am_lconst 1 d_L_same_11 (by decide) ?_
          refine am_goto (tgt := 16) d_L_same_12 (by decide) ?_
          refine am_lastN (t := 1) (k := 0) d_L_same_16 rfl ho1 (by decide) (by decide) ?_
          refine am_goto (tgt := 24) d_L_same_17 (by decide) ?_
          refine am_iconst 0 d_L_same_24 (by decide) ?_
          exact am_iret d_L_same_25 rfl (sv_L.ok hC1 hD1 h0 (by decide) (by rw [hy]; exact sv_lv.o))
    · cases hv1
  · obtain ⟨⟨lo1, as1, av1, hC1⟩, hD1, ⟨-, hv1⟩ | ⟨h0, a9, hv1, hc1⟩⟩ := h1
    · cases hv1
    · have ho1 : sv_oc g S1.1 f := (hD1.1 _ (by omega) (by omega)).trans ho
      rw [← Sum.inr.inj hv1] at hc1
      rcases hk with ⟨e, -⟩ | ⟨e, hf⟩ | ⟨e, hf⟩ | ⟨e, hf⟩
      · exact absurd e h0
      · rw [e] at hc1
        refine am_catYes (pre := []) (h0 := 0) (e0 := 17) (hp := 20) (ct := 21) (suf := []) rfl (fun z hz => absurd hz List.not_mem_nil) ⟨by decide, by decide⟩ (by decide) cl_4 ca_4 hc1 ⟨_, _, rfl⟩ ?_
        show am_W g (d + 4) mm_L_same (20, [some (.ref g.2.2.1), some (.int a1), some (.int a2), some (.ref (g.2.2.1 + 19)), none], [.ref x1]) S1 _
        refine am_astore (L' := [some (.ref g.2.2.1), some (.int a1), some (.int a2), some (.ref (g.2.2.1 + 19)), some (.ref x1)]) d_L_same_20 (by decide) rfl rfl ?_
        refine am_iconst 1 d_L_same_22 (by decide) ?_
        exact am_iret d_L_same_23 rfl (sv_L.th hC1 hD1 ho1 h0 (by rw [e]; decide))
      · exact hf.elim
      · exact hf.elim
set_option maxHeartbeats 4000000 in
set_option maxRecDepth 100000 in
/-- the law's runs -/
theorem w_runs {g : am_G} {d : Nat} {S : am_S} {lo : Nat} {T : sv_T} {as av : Nat → Nat} (hC : sv_C g lo S T as av) (hr : sv_R g S 16 700) {f : Nat → Int64} (ho : sv_oc g S.1 f) {a1 : Int32} : am_W g (d + 4) mm_L_runs (0, am_ent [.ref g.2.2.1, .int a1, .ref (g.2.2.1 + 19)] 4, []) S (sv_L g S (q_runs T a1) (sv_cd 4 6 9)) := by
  obtain ⟨qs, qv, fp, fn, fm, ⟨hx, hq1, hq2, h3, h4, h5⟩, hs, hv, i1, i2, hB, hlo, hw⟩ := id hC
  have h80 := hw.2.1
  have hX : am_W g (d + 3) mm_X_runs (0, am_ent [.ref g.2.2.1, .int a1] 5, []) S (sv_O g S (q_runs T a1)) := x_runs hC hr
  have hk := k_runs (T := T) (v := a1)
  generalize q_runs T a1 = q at hX hk ⊢
  show am_W g (d + 4) mm_L_runs (0, [some (.ref g.2.2.1), some (.int a1), some (.ref (g.2.2.1 + 19)), none], []) S _
  refine am_aloadn d_L_runs_0 rfl ?_
  refine am_iconst 0 d_L_runs_1 (by decide) ?_
  refine am_ti (b := nI 0) rfl ?_
  refine am_aloadn d_L_runs_2 rfl ?_
  refine am_iloadn d_L_runs_3 rfl ?_
  refine am_callV (P' := sv_O g S q) [.int a1] [.int (nI 0), .ref (g.2.2.1 + 19)] d_L_runs_4 cV_L_67 hx rfl rfl (Nat.le_of_ble_eq_true rfl) (Nat.le_of_ble_eq_true rfl) hX (fun v1 S1 h1 => ?_) (fun x1 S1 h1 => ?_)
  · obtain ⟨⟨lo1, as1, av1, hC1⟩, hD1, ⟨h0, hv1⟩ | ⟨-, a9, hv1, -⟩⟩ := h1
    · have ho1 : sv_oc g S1.1 f := (hD1.1 _ (by omega) (by omega)).trans ho
      obtain rfl := Sum.inl.inj hv1
      obtain ⟨y, hy⟩ := hk.val h0
      rw [hy]
      show am_W g (d + 4) mm_L_runs (7, [some (.ref g.2.2.1), some (.int a1), some (.ref (g.2.2.1 + 19)), none], [.int y, .int (nI 0), .ref (g.2.2.1 + 19)]) S1 _
      refine am_i2l d_L_runs_7 ?_
      refine am_lastN (t := 1) (k := 0) d_L_runs_8 rfl ho1 (by decide) (by decide) ?_
      refine am_goto (tgt := 15) d_L_runs_9 (by decide) ?_
      refine am_iconst 0 d_L_runs_15 (by decide) ?_
      exact am_iret d_L_runs_16 rfl (sv_L.ok hC1 hD1 h0 (by decide) (by rw [hy]; exact sv_lv.i))
    · cases hv1
  · obtain ⟨⟨lo1, as1, av1, hC1⟩, hD1, ⟨-, hv1⟩ | ⟨h0, a9, hv1, hc1⟩⟩ := h1
    · cases hv1
    · have ho1 : sv_oc g S1.1 f := (hD1.1 _ (by omega) (by omega)).trans ho
      rw [← Sum.inr.inj hv1] at hc1
      rcases hk with ⟨e, -⟩ | ⟨e, hf⟩ | ⟨e, hf⟩ | ⟨e, hf⟩
      · exact absurd e h0
      · rw [e] at hc1
        refine am_catYes (pre := []) (h0 := 0) (e0 := 9) (hp := 12) (ct := 21) (suf := []) rfl (fun z hz => absurd hz List.not_mem_nil) ⟨by decide, by decide⟩ (by decide) cl_4 ca_4 hc1 ⟨_, _, rfl⟩ ?_
        show am_W g (d + 4) mm_L_runs (12, [some (.ref g.2.2.1), some (.int a1), some (.ref (g.2.2.1 + 19)), none], [.ref x1]) S1 _
        refine am_astoren (L' := [some (.ref g.2.2.1), some (.int a1), some (.ref (g.2.2.1 + 19)), some (.ref x1)]) d_L_runs_12 (by decide) rfl rfl ?_
        refine am_iconst 1 d_L_runs_13 (by decide) ?_
        exact am_iret d_L_runs_14 rfl (sv_L.th hC1 hD1 ho1 h0 (by rw [e]; decide))
      · exact hf.elim
      · exact hf.elim
set_option maxHeartbeats 4000000 in
set_option maxRecDepth 100000 in
/-- the law's told -/
theorem w_told {g : am_G} {d : Nat} {S : am_S} {lo : Nat} {T : sv_T} {as av : Nat → Nat} (hC : sv_C g lo S T as av) (hr : sv_R g S 16 700) {f : Nat → Int64} (ho : sv_oc g S.1 f) {a1 : Int32} {a2 : Int32} : am_W g (d + 4) mm_L_told (0, am_ent [.ref g.2.2.1, .int a1, .int a2, .ref (g.2.2.1 + 19)] 5, []) S (sv_L g S (q_told T a1 a2) (sv_cd 4 5 9)) := by
  obtain ⟨qs, qv, fp, fn, fm, ⟨hx, hq1, hq2, h3, h4, h5⟩, hs, hv, i1, i2, hB, hlo, hw⟩ := id hC
  have h80 := hw.2.1
  have hX : am_W g (d + 3) mm_X_told (0, am_ent [.ref g.2.2.1, .int a1, .int a2] 4, []) S (sv_O g S (q_told T a1 a2)) := x_told hC hr
  have hk := k_told (T := T) (v := a1) (w := a2)
  generalize q_told T a1 a2 = q at hX hk ⊢
  show am_W g (d + 4) mm_L_told (0, [some (.ref g.2.2.1), some (.int a1), some (.int a2), some (.ref (g.2.2.1 + 19)), none], []) S _
  refine am_aloadn d_L_told_0 rfl ?_
  refine am_iconst 0 d_L_told_1 (by decide) ?_
  refine am_ti (b := nI 0) rfl ?_
  refine am_aloadn d_L_told_2 rfl ?_
  refine am_iloadn d_L_told_3 rfl ?_
  refine am_iloadn d_L_told_4 rfl ?_
  refine am_callV (P' := sv_O g S q) [.int a1, .int a2] [.int (nI 0), .ref (g.2.2.1 + 19)] d_L_told_5 cV_L_71 hx rfl rfl (Nat.le_of_ble_eq_true rfl) (Nat.le_of_ble_eq_true rfl) hX (fun v1 S1 h1 => ?_) (fun x1 S1 h1 => ?_)
  · obtain ⟨⟨lo1, as1, av1, hC1⟩, hD1, ⟨h0, hv1⟩ | ⟨-, a9, hv1, -⟩⟩ := h1
    · have ho1 : sv_oc g S1.1 f := (hD1.1 _ (by omega) (by omega)).trans ho
      obtain rfl := Sum.inl.inj hv1
      obtain ⟨y, hy⟩ := hk.val h0
      rw [hy]
      show am_W g (d + 4) mm_L_told (8, [some (.ref g.2.2.1), some (.int a1), some (.int a2), some (.ref (g.2.2.1 + 19)), none], [.int y, .int (nI 0), .ref (g.2.2.1 + 19)]) S1 _
      refine am_i2l d_L_told_8 ?_
      refine am_lastN (t := 1) (k := 0) d_L_told_9 rfl ho1 (by decide) (by decide) ?_
      refine am_goto (tgt := 21) d_L_told_10 (by decide) ?_
      refine am_iconst 0 d_L_told_21 (by decide) ?_
      exact am_iret d_L_told_22 rfl (sv_L.ok hC1 hD1 h0 (by decide) (by rw [hy]; exact sv_lv.i))
    · cases hv1
  · obtain ⟨⟨lo1, as1, av1, hC1⟩, hD1, ⟨-, hv1⟩ | ⟨h0, a9, hv1, hc1⟩⟩ := h1
    · cases hv1
    · have ho1 : sv_oc g S1.1 f := (hD1.1 _ (by omega) (by omega)).trans ho
      rw [← Sum.inr.inj hv1] at hc1
      rcases hk with ⟨e, -⟩ | ⟨e, hf⟩ | ⟨e, hf⟩ | ⟨e, hf⟩
      · exact absurd e h0
      · rw [e] at hc1
        refine am_catYes (pre := []) (h0 := 0) (e0 := 10) (hp := 13) (ct := 21) (suf := [(0, 10, 17, 13)]) rfl (fun z hz => absurd hz List.not_mem_nil) ⟨by decide, by decide⟩ (by decide) cl_4 ca_4 hc1 ⟨_, _, rfl⟩ ?_
        show am_W g (d + 4) mm_L_told (13, [some (.ref g.2.2.1), some (.int a1), some (.int a2), some (.ref (g.2.2.1 + 19)), none], [.ref x1]) S1 _
        refine am_astore (L' := [some (.ref g.2.2.1), some (.int a1), some (.int a2), some (.ref (g.2.2.1 + 19)), some (.ref x1)]) d_L_told_13 (by decide) rfl rfl ?_
        refine am_iconst 1 d_L_told_15 (by decide) ?_
        exact am_iret d_L_told_16 rfl (sv_L.th hC1 hD1 ho1 h0 (by rw [e]; decide))
      · rw [e] at hc1
        refine am_catYes (pre := [(0, 10, 13, 21)]) (h0 := 0) (e0 := 10) (hp := 17) (ct := 13) (suf := []) rfl (by intro z hz; obtain rfl := List.mem_singleton.mp hz; exact ⟨by decide, _, cl_4, nc_54⟩) ⟨by decide, by decide⟩ (by decide) cl_5 ca_5 hc1 ⟨_, _, rfl⟩ ?_
        show am_W g (d + 4) mm_L_told (17, [some (.ref g.2.2.1), some (.int a1), some (.int a2), some (.ref (g.2.2.1 + 19)), none], [.ref x1]) S1 _
        refine am_astore (L' := [some (.ref g.2.2.1), some (.int a1), some (.int a2), some (.ref (g.2.2.1 + 19)), some (.ref x1)]) d_L_told_17 (by decide) rfl rfl ?_
        refine am_iconst 2 d_L_told_19 (by decide) ?_
        exact am_iret d_L_told_20 rfl (sv_L.th hC1 hD1 ho1 h0 (by rw [e]; decide))
      · exact hf.elim
set_option maxHeartbeats 4000000 in
set_option maxRecDepth 100000 in
/-- the law's axis -/
theorem w_axis {g : am_G} {d : Nat} {S : am_S} {lo : Nat} {T : sv_T} {as av : Nat → Nat} (hC : sv_C g lo S T as av) (hr : sv_R g S 16 700) {f : Nat → Int64} (ho : sv_oc g S.1 f) {a1 : Int32} {a2 : Int32} {a3 : Int32} : am_W g (d + 4) mm_L_axis (0, am_ent [.ref g.2.2.1, .int a1, .int a2, .int a3, .ref (g.2.2.1 + 19)] 6, []) S (sv_L g S (q_axis T a1 a2 a3) (sv_cd 4 5 9)) := by
  obtain ⟨qs, qv, fp, fn, fm, ⟨hx, hq1, hq2, h3, h4, h5⟩, hs, hv, i1, i2, hB, hlo, hw⟩ := id hC
  have h80 := hw.2.1
  have hX : am_W g (d + 3) mm_X_axis (0, am_ent [.ref g.2.2.1, .int a1, .int a2, .int a3] 5, []) S (sv_O g S (q_axis T a1 a2 a3)) := x_axis hC hr
  have hk := k_axis (T := T) (v := a1) (x := a2) (w := a3)
  generalize q_axis T a1 a2 a3 = q at hX hk ⊢
  show am_W g (d + 4) mm_L_axis (0, [some (.ref g.2.2.1), some (.int a1), some (.int a2), some (.int a3), some (.ref (g.2.2.1 + 19)), none], []) S _
  refine am_aload d_L_axis_0 rfl ?_
  refine am_iconst 0 d_L_axis_2 (by decide) ?_
  refine am_ti (b := nI 0) rfl ?_
  refine am_aloadn d_L_axis_3 rfl ?_
  refine am_iloadn d_L_axis_4 rfl ?_
  refine am_iloadn d_L_axis_5 rfl ?_
  refine am_iloadn d_L_axis_6 rfl ?_
  refine am_callV (P' := sv_O g S q) [.int a1, .int a2, .int a3] [.int (nI 0), .ref (g.2.2.1 + 19)] d_L_axis_7 cV_L_74 hx rfl rfl (Nat.le_of_ble_eq_true rfl) (Nat.le_of_ble_eq_true rfl) hX (fun v1 S1 h1 => ?_) (fun x1 S1 h1 => ?_)
  · obtain ⟨⟨lo1, as1, av1, hC1⟩, hD1, ⟨h0, hv1⟩ | ⟨-, a9, hv1, -⟩⟩ := h1
    · have ho1 : sv_oc g S1.1 f := (hD1.1 _ (by omega) (by omega)).trans ho
      obtain rfl := Sum.inl.inj hv1
      obtain ⟨y, hy⟩ := hk.val h0
      rw [hy]
      show am_W g (d + 4) mm_L_axis (10, [some (.ref g.2.2.1), some (.int a1), some (.int a2), some (.int a3), some (.ref (g.2.2.1 + 19)), none], [.int y, .int (nI 0), .ref (g.2.2.1 + 19)]) S1 _
      refine am_i2l d_L_axis_10 ?_
      refine am_lastN (t := 1) (k := 0) d_L_axis_11 rfl ho1 (by decide) (by decide) ?_
      refine am_goto (tgt := 23) d_L_axis_12 (by decide) ?_
      refine am_iconst 0 d_L_axis_23 (by decide) ?_
      exact am_iret d_L_axis_24 rfl (sv_L.ok hC1 hD1 h0 (by decide) (by rw [hy]; exact sv_lv.i))
    · cases hv1
  · obtain ⟨⟨lo1, as1, av1, hC1⟩, hD1, ⟨-, hv1⟩ | ⟨h0, a9, hv1, hc1⟩⟩ := h1
    · cases hv1
    · have ho1 : sv_oc g S1.1 f := (hD1.1 _ (by omega) (by omega)).trans ho
      rw [← Sum.inr.inj hv1] at hc1
      rcases hk with ⟨e, -⟩ | ⟨e, hf⟩ | ⟨e, hf⟩ | ⟨e, hf⟩
      · exact absurd e h0
      · rw [e] at hc1
        refine am_catYes (pre := []) (h0 := 0) (e0 := 12) (hp := 15) (ct := 21) (suf := [(0, 12, 19, 13)]) rfl (fun z hz => absurd hz List.not_mem_nil) ⟨by decide, by decide⟩ (by decide) cl_4 ca_4 hc1 ⟨_, _, rfl⟩ ?_
        show am_W g (d + 4) mm_L_axis (15, [some (.ref g.2.2.1), some (.int a1), some (.int a2), some (.int a3), some (.ref (g.2.2.1 + 19)), none], [.ref x1]) S1 _
        refine am_astore (L' := [some (.ref g.2.2.1), some (.int a1), some (.int a2), some (.int a3), some (.ref (g.2.2.1 + 19)), some (.ref x1)]) d_L_axis_15 (by decide) rfl rfl ?_
        refine am_iconst 1 d_L_axis_17 (by decide) ?_
        exact am_iret d_L_axis_18 rfl (sv_L.th hC1 hD1 ho1 h0 (by rw [e]; decide))
      · rw [e] at hc1
        refine am_catYes (pre := [(0, 12, 15, 21)]) (h0 := 0) (e0 := 12) (hp := 19) (ct := 13) (suf := []) rfl (by intro z hz; obtain rfl := List.mem_singleton.mp hz; exact ⟨by decide, _, cl_4, nc_54⟩) ⟨by decide, by decide⟩ (by decide) cl_5 ca_5 hc1 ⟨_, _, rfl⟩ ?_
        show am_W g (d + 4) mm_L_axis (19, [some (.ref g.2.2.1), some (.int a1), some (.int a2), some (.int a3), some (.ref (g.2.2.1 + 19)), none], [.ref x1]) S1 _
        refine am_astore (L' := [some (.ref g.2.2.1), some (.int a1), some (.int a2), some (.int a3), some (.ref (g.2.2.1 + 19)), some (.ref x1)]) d_L_axis_19 (by decide) rfl rfl ?_
        refine am_iconst 2 d_L_axis_21 (by decide) ?_
        exact am_iret d_L_axis_22 rfl (sv_L.th hC1 hD1 ho1 h0 (by rw [e]; decide))
      · exact hf.elim
set_option maxHeartbeats 4000000 in
set_option maxRecDepth 100000 in
/-- the law's stored -/
theorem w_stored {g : am_G} {d : Nat} {S : am_S} {lo : Nat} {T : sv_T} {as av : Nat → Nat} (hC : sv_C g lo S T as av) (hr : sv_R g S 16 700) {f : Nat → Int64} (ho : sv_oc g S.1 f) {a1 : Int32} {a2 : Int32} : am_W g (d + 4) mm_L_stored (0, am_ent [.ref g.2.2.1, .int a1, .int a2, .ref (g.2.2.1 + 19)] 5, []) S (sv_L g S (q_stored T a1 a2) (sv_cd 4 5 9)) := by
  obtain ⟨qs, qv, fp, fn, fm, ⟨hx, hq1, hq2, h3, h4, h5⟩, hs, hv, i1, i2, hB, hlo, hw⟩ := id hC
  have h80 := hw.2.1
  have hX : am_W g (d + 3) mm_X_stored (0, am_ent [.ref g.2.2.1, .int a1, .int a2] 3, []) S (sv_O g S (q_stored T a1 a2)) := x_stored hC hr
  have hk := k_stored (T := T) (s := a1) (w := a2)
  generalize q_stored T a1 a2 = q at hX hk ⊢
  show am_W g (d + 4) mm_L_stored (0, [some (.ref g.2.2.1), some (.int a1), some (.int a2), some (.ref (g.2.2.1 + 19)), none], []) S _
  refine am_aloadn d_L_stored_0 rfl ?_
  refine am_iconst 0 d_L_stored_1 (by decide) ?_
  refine am_ti (b := nI 0) rfl ?_
  refine am_aloadn d_L_stored_2 rfl ?_
  refine am_iloadn d_L_stored_3 rfl ?_
  refine am_iloadn d_L_stored_4 rfl ?_
  refine am_callV (P' := sv_O g S q) [.int a1, .int a2] [.int (nI 0), .ref (g.2.2.1 + 19)] d_L_stored_5 cV_L_77 hx rfl rfl (Nat.le_of_ble_eq_true rfl) (Nat.le_of_ble_eq_true rfl) hX (fun v1 S1 h1 => ?_) (fun x1 S1 h1 => ?_)
  · obtain ⟨⟨lo1, as1, av1, hC1⟩, hD1, ⟨h0, hv1⟩ | ⟨-, a9, hv1, -⟩⟩ := h1
    · have ho1 : sv_oc g S1.1 f := (hD1.1 _ (by omega) (by omega)).trans ho
      obtain rfl := Sum.inl.inj hv1
      obtain ⟨y, hy⟩ := hk.val h0
      rw [hy]
      show am_W g (d + 4) mm_L_stored (8, [some (.ref g.2.2.1), some (.int a1), some (.int a2), some (.ref (g.2.2.1 + 19)), none], [.int y, .int (nI 0), .ref (g.2.2.1 + 19)]) S1 _
      refine am_i2l d_L_stored_8 ?_
      refine am_lastN (t := 1) (k := 0) d_L_stored_9 rfl ho1 (by decide) (by decide) ?_
      refine am_goto (tgt := 21) d_L_stored_10 (by decide) ?_
      refine am_iconst 0 d_L_stored_21 (by decide) ?_
      exact am_iret d_L_stored_22 rfl (sv_L.ok hC1 hD1 h0 (by decide) (by rw [hy]; exact sv_lv.i))
    · cases hv1
  · obtain ⟨⟨lo1, as1, av1, hC1⟩, hD1, ⟨-, hv1⟩ | ⟨h0, a9, hv1, hc1⟩⟩ := h1
    · cases hv1
    · have ho1 : sv_oc g S1.1 f := (hD1.1 _ (by omega) (by omega)).trans ho
      rw [← Sum.inr.inj hv1] at hc1
      rcases hk with ⟨e, -⟩ | ⟨e, hf⟩ | ⟨e, hf⟩ | ⟨e, hf⟩
      · exact absurd e h0
      · rw [e] at hc1
        refine am_catYes (pre := []) (h0 := 0) (e0 := 10) (hp := 13) (ct := 21) (suf := [(0, 10, 17, 13)]) rfl (fun z hz => absurd hz List.not_mem_nil) ⟨by decide, by decide⟩ (by decide) cl_4 ca_4 hc1 ⟨_, _, rfl⟩ ?_
        show am_W g (d + 4) mm_L_stored (13, [some (.ref g.2.2.1), some (.int a1), some (.int a2), some (.ref (g.2.2.1 + 19)), none], [.ref x1]) S1 _
        refine am_astore (L' := [some (.ref g.2.2.1), some (.int a1), some (.int a2), some (.ref (g.2.2.1 + 19)), some (.ref x1)]) d_L_stored_13 (by decide) rfl rfl ?_
        refine am_iconst 1 d_L_stored_15 (by decide) ?_
        exact am_iret d_L_stored_16 rfl (sv_L.th hC1 hD1 ho1 h0 (by rw [e]; decide))
      · rw [e] at hc1
        refine am_catYes (pre := [(0, 10, 13, 21)]) (h0 := 0) (e0 := 10) (hp := 17) (ct := 13) (suf := []) rfl (by intro z hz; obtain rfl := List.mem_singleton.mp hz; exact ⟨by decide, _, cl_4, nc_54⟩) ⟨by decide, by decide⟩ (by decide) cl_5 ca_5 hc1 ⟨_, _, rfl⟩ ?_
        show am_W g (d + 4) mm_L_stored (17, [some (.ref g.2.2.1), some (.int a1), some (.int a2), some (.ref (g.2.2.1 + 19)), none], [.ref x1]) S1 _
        refine am_astore (L' := [some (.ref g.2.2.1), some (.int a1), some (.int a2), some (.ref (g.2.2.1 + 19)), some (.ref x1)]) d_L_stored_17 (by decide) rfl rfl ?_
        refine am_iconst 2 d_L_stored_19 (by decide) ?_
        exact am_iret d_L_stored_20 rfl (sv_L.th hC1 hD1 ho1 h0 (by rw [e]; decide))
      · exact hf.elim
set_option maxHeartbeats 4000000 in
set_option maxRecDepth 100000 in
/-- the law's count -/
theorem w_count {g : am_G} {d : Nat} {S : am_S} {lo : Nat} {T : sv_T} {as av : Nat → Nat} (hC : sv_C g lo S T as av) (hr : sv_R g S 16 700) {f : Nat → Int64} (ho : sv_oc g S.1 f) {a1 : Int32} : am_W g (d + 4) mm_L_count (0, am_ent [.ref g.2.2.1, .int a1, .ref (g.2.2.1 + 19)] 4, []) S (sv_L g S (q_count T a1) (sv_cd 5 9 9)) := by
  obtain ⟨qs, qv, fp, fn, fm, ⟨hx, hq1, hq2, h3, h4, h5⟩, hs, hv, i1, i2, hB, hlo, hw⟩ := id hC
  have h80 := hw.2.1
  have hX : am_W g (d + 3) mm_X_count (0, am_ent [.ref g.2.2.1, .int a1] 2, []) S (sv_O g S (q_count T a1)) := x_count hC hr
  have hk := k_count (T := T) (w := a1)
  generalize q_count T a1 = q at hX hk ⊢
  show am_W g (d + 4) mm_L_count (0, [some (.ref g.2.2.1), some (.int a1), some (.ref (g.2.2.1 + 19)), none], []) S _
  refine am_aloadn d_L_count_0 rfl ?_
  refine am_iconst 0 d_L_count_1 (by decide) ?_
  refine am_ti (b := nI 0) rfl ?_
  refine am_aloadn d_L_count_2 rfl ?_
  refine am_iloadn d_L_count_3 rfl ?_
  refine am_callV (P' := sv_O g S q) [.int a1] [.int (nI 0), .ref (g.2.2.1 + 19)] d_L_count_4 cV_L_80 hx rfl rfl (Nat.le_of_ble_eq_true rfl) (Nat.le_of_ble_eq_true rfl) hX (fun v1 S1 h1 => ?_) (fun x1 S1 h1 => ?_)
  · obtain ⟨⟨lo1, as1, av1, hC1⟩, hD1, ⟨h0, hv1⟩ | ⟨-, a9, hv1, -⟩⟩ := h1
    · have ho1 : sv_oc g S1.1 f := (hD1.1 _ (by omega) (by omega)).trans ho
      obtain rfl := Sum.inl.inj hv1
      obtain ⟨y, hy⟩ := hk.val h0
      rw [hy]
      show am_W g (d + 4) mm_L_count (7, [some (.ref g.2.2.1), some (.int a1), some (.ref (g.2.2.1 + 19)), none], [.int y, .int (nI 0), .ref (g.2.2.1 + 19)]) S1 _
      refine am_i2l d_L_count_7 ?_
      refine am_lastN (t := 1) (k := 0) d_L_count_8 rfl ho1 (by decide) (by decide) ?_
      refine am_goto (tgt := 15) d_L_count_9 (by decide) ?_
      refine am_iconst 0 d_L_count_15 (by decide) ?_
      exact am_iret d_L_count_16 rfl (sv_L.ok hC1 hD1 h0 (by decide) (by rw [hy]; exact sv_lv.i))
    · cases hv1
  · obtain ⟨⟨lo1, as1, av1, hC1⟩, hD1, ⟨-, hv1⟩ | ⟨h0, a9, hv1, hc1⟩⟩ := h1
    · cases hv1
    · have ho1 : sv_oc g S1.1 f := (hD1.1 _ (by omega) (by omega)).trans ho
      rw [← Sum.inr.inj hv1] at hc1
      rcases hk with ⟨e, -⟩ | ⟨e, hf⟩ | ⟨e, hf⟩ | ⟨e, hf⟩
      · exact absurd e h0
      · exact hf.elim
      · rw [e] at hc1
        refine am_catYes (pre := []) (h0 := 0) (e0 := 9) (hp := 12) (ct := 13) (suf := []) rfl (fun z hz => absurd hz List.not_mem_nil) ⟨by decide, by decide⟩ (by decide) cl_5 ca_5 hc1 ⟨_, _, rfl⟩ ?_
        show am_W g (d + 4) mm_L_count (12, [some (.ref g.2.2.1), some (.int a1), some (.ref (g.2.2.1 + 19)), none], [.ref x1]) S1 _
        refine am_astoren (L' := [some (.ref g.2.2.1), some (.int a1), some (.ref (g.2.2.1 + 19)), some (.ref x1)]) d_L_count_12 (by decide) rfl rfl ?_
        refine am_iconst 1 d_L_count_13 (by decide) ?_
        exact am_iret d_L_count_14 rfl (sv_L.th hC1 hD1 ho1 h0 (by rw [e]; decide))
      · exact hf.elim
