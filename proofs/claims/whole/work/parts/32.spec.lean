/-! what each call answers, and what it leaves: (0, the answer, the new state), or (the exception's class, .., the old one) -/
abbrev sv_Q : Type := Nat × Value × sv_T
noncomputable def sv_if {α : Type} (c : Prop) (a b : α) : α := @ite α c (Classical.propDecidable c) a b
theorem sv_if_y {α : Type} {c : Prop} {a b : α} (h : c) : sv_if c a b = a := if_pos h
theorem sv_if_n {α : Type} {c : Prop} {a b : α} (h : ¬ c) : sv_if c a b = b := if_neg h
abbrev sv_iv (T : sv_T) (i : Int32) : Prop := 0 ≤ i ∧ i < nI T.nv
def sv_qv (T : sv_T) (i : Int32) (f : sv_A → sv_Q) : sv_Q := if sv_iv T i then f (T.vw i.toNatClampNeg) else (4, .null, T)
def sv_qa (T : sv_T) (a : sv_A) (x : Int32) (f : Nat → sv_Q) : sv_Q := if (0 ≤ x ∧ x < nI a.ax) then f x.toNatClampNeg else (4, .null, T)
def sv_kp (T : sv_T) (a : sv_A) : sv_Q := if (T.nv < 80 ∧ a.it ≤ 3000) then (0, .int (nI T.nv), T.addV (sv_set a)) else (6, .null, T)
def q_store (T : sv_T) (ln n : Int32) : sv_Q := if ((0 ≤ ln ∧ ln ≤ 3) ∧ 0 ≤ n ∧ n ≤ 300) then (if (T.ns < 12 ∧ T.nv < 80) then sv_kp (T.addS ln n.toNatClampNeg (fun _ => 0)) (T.ns, 0, 1, fun _ => n.toNatClampNeg, fun _ => 1) else (6, .null, T)) else (5, .null, T)
noncomputable def q_slice (T : sv_T) (v x s t n : Int32) : sv_Q := sv_qv T v fun a => sv_qa T a x fun k => sv_if (sv_bad (nI (a.ex k)) s t n) (5, .null, T) (sv_kp T (a.st, a.sa + s * a.sp k, a.ax, fun i => if i = k then n.toNatClampNeg else a.ex i, fun i => if i = k then t * a.sp k else a.sp i))
def q_pick (T : sv_T) (v x i : Int32) : sv_Q := sv_qv T v fun a => sv_qa T a x fun k => if (0 ≤ i ∧ i < nI (a.ex k)) then sv_kp T (a.st, a.sa + i * a.sp k, a.ax - 1, sv_rem a.ex k, sv_rem a.sp k) else (4, .null, T)
def q_turn (T : sv_T) (v x y : Int32) : sv_Q := sv_qv T v fun a => sv_qa T a x fun k => sv_qa T a y fun l => sv_kp T (a.st, a.sa, a.ax, fun i => if i = l then a.ex k else if i = k then a.ex l else a.ex i, fun i => if i = l then a.sp k else if i = k then a.sp l else a.sp i)
def q_spread (T : sv_T) (v x n : Int32) : sv_Q := sv_qv T v fun a => if (0 ≤ x ∧ x ≤ nI a.ax) then (if 0 ≤ n then (if a.ax < 4 then sv_kp T (a.st, a.sa, a.ax + 1, sv_ins a.ex x.toNatClampNeg n.toNatClampNeg, sv_ins a.sp x.toNatClampNeg 0) else (6, .null, T)) else (5, .null, T)) else (4, .null, T)
def q_diagonal (T : sv_T) (v x y : Int32) : sv_Q := sv_qv T v fun a => sv_qa T a x fun k => sv_qa T a y fun l => if x = y then (5, .null, T) else sv_kp T (a.st, a.sa, a.ax - 1, sv_ins (sv_rem (sv_rem a.ex (max k l)) (min k l)) (a.ax - 2) (min (a.ex k) (a.ex l)), sv_ins (sv_rem (sv_rem a.sp (max k l)) (min k l)) (a.ax - 2) (a.sp k + a.sp l))
/-- an axis of an extent, unless it is none -/
def sv_ad (p : Nat × (Nat → Nat)) (x : Int32) : Nat × (Nat → Nat) := if x = -1 then p else (p.1 + 1, sv_ins p.2 p.1 x.toNatClampNeg)
def sv_e3 (x y z : Int32) : Nat × (Nat → Nat) := sv_ad (sv_ad (sv_ad (0, fun _ => 0) x) y) z
/-- the only steps that can be right -/
def sv_gs (a : sv_A) (n : Nat) (E : Nat → Nat) (k : Nat) : Int32 := if E k < 2 then 0 else a.pl (sv_dp E n (n - 1 - k)) - a.pl 0
noncomputable def q_shape (T : sv_T) (v x y z : Int32) : sv_Q := sv_qv T v fun a => if (x < -1 ∨ y < -1 ∨ z < -1) then (5, .null, T) else if ¬ sv_pr (sv_e3 x y z).2 (sv_e3 x y z).1 = a.it then (5, .null, T) else
  sv_if (∀ i, i < a.it → a.sa + sv_pl (sv_e3 x y z).2 (sv_gs a (sv_e3 x y z).1 (sv_e3 x y z).2) (sv_e3 x y z).1 i = a.pl i) (sv_kp T (a.st, a.sa, (sv_e3 x y z).1, (sv_e3 x y z).2, sv_gs a (sv_e3 x y z).1 (sv_e3 x y z).2)) (6, .null, T)
/-- steps of a row of its own -/
def sv_rs (E : Nat → Nat) (n k : Nat) : Int32 := nI (sv_dp E n (n - 1 - k))
/-- the number at an item -/
def sv_T.at (T : sv_T) (a : sv_A) (i : Nat) : Int64 := T.nu a.st (a.pl i).toNatClampNeg
def q_compact (T : sv_T) (v ln : Int32) : sv_Q := sv_qv T v fun a => if (0 ≤ ln ∧ ln ≤ 3) then (if (a.it ≤ 300 ∧ T.ns < 12 ∧ T.nv < 80) then sv_kp (T.addS ln a.it (fun i => if i < a.it then sv_low ln (T.at a i) else 0)) (T.ns, 0, a.ax, a.ex, sv_rs a.ex a.ax) else (6, .null, T)) else (5, .null, T)
def q_at (T : sv_T) (v i : Int32) : sv_Q := sv_qv T v fun a => if (0 ≤ i ∧ i < nI a.it) then (0, .long (T.at a i.toNatClampNeg), T) else (4, .null, T)
def sv_T.setS (T : sv_T) (s : Nat) (f : Nat → Int64) : sv_T := (T.ns, T.ln, T.sz, fun i => if i = s then f else T.nu i, T.nv, T.vw)
/-- an axis is spread -/
abbrev sv_A.fx (a : sv_A) : Prop := ∃ k, k < a.ax ∧ a.sp k = 0 ∧ 2 ≤ a.ex k
noncomputable def q_put (T : sv_T) (v i : Int32) (x : Int64) : sv_Q := sv_qv T v fun a => if (0 ≤ i ∧ i < nI a.it) then sv_if a.fx (6, .null, T) (0, .long (T.at a i.toNatClampNeg), T.setS a.st (vp_updL (T.nu a.st) (a.pl i.toNatClampNeg).toNatClampNeg (sv_low (T.ln a.st) x))) else (4, .null, T)
/-- a goes to b -/
abbrev sv_A.go (a b : sv_A) : Prop := a.ax ≤ b.ax ∧ ∀ k, k < a.ax → a.ex k = 1 ∨ a.ex k = b.ex (k + (b.ax - a.ax))
/-- a's number for b's item -/
def sv_T.gn (T : sv_T) (a b : sv_A) (i : Nat) : Int64 := T.nu a.st (a.sa + sv_pl b.ex (sv_sh (b.ax - a.ax) a.sp) b.ax i).toNatClampNeg
/-- numbers are put to all items -/
def sv_T.wr (T : sv_T) (b : sv_A) (f : Nat → Int64) : sv_Q := (0, .int (nI (sv_wr (T.ln b.st) b.pl f (T.nu b.st) b.it).2), T.setS b.st (sv_wr (T.ln b.st) b.pl f (T.nu b.st) b.it).1)
noncomputable def q_copy (T : sv_T) (v w : Int32) : sv_Q := sv_qv T v fun a => sv_qv T w fun b => sv_if (a.go b) (sv_if b.fx (6, .null, T) (T.wr b (T.gn a b))) (5, .null, T)
noncomputable def q_act (T : sv_T) (t v w u : Int32) : sv_Q := sv_qv T v fun a => sv_qv T w fun b => sv_qv T u fun c => sv_if ((0 ≤ t ∧ t ≤ 4) ∧ a.go c ∧ b.go c) (sv_if c.fx (6, .null, T) (T.wr c (fun i => sv_act t (T.gn a c i) (T.gn b c i)))) (5, .null, T)
/-- the item's number without the axis k -/
def sv_wo (E : Nat → Nat) (k : Nat) : Nat → Nat → Nat
  | 0, _ => 0
  | n + 1, i => if n = k then sv_wo E k n (i / E n) else sv_wo E k n (i / E n) * E n + i % E n
/-- folded, item after item -/
def sv_fo (t : Int32) (A : Nat → Nat) (f : Nat → Int64) (r : Nat → Int64) : Nat → Nat → Int64
  | 0 => r
  | i + 1 => vp_updL (sv_fo t A f r i) (A i) (sv_act t (sv_fo t A f r i (A i)) (f i))
def q_fold (T : sv_T) (t v x : Int32) : sv_Q := sv_qv T v fun a => sv_qa T a x fun k => if ((0 ≤ t ∧ t ≤ 4) ∧ ¬ t = 1) then (if (sv_pr (sv_rem a.ex k) (a.ax - 1) ≤ 300 ∧ T.ns < 12 ∧ T.nv < 80) then sv_kp (T.addS 3 (sv_pr (sv_rem a.ex k) (a.ax - 1)) (sv_fo t (sv_wo a.ex k a.ax) (T.at a) (fun i => if i < sv_pr (sv_rem a.ex k) (a.ax - 1) then sv_neu t else 0) a.it)) (T.ns, 0, a.ax - 1, sv_rem a.ex k, sv_rs (sv_rem a.ex k) (a.ax - 1)) else (6, .null, T)) else (5, .null, T)
/-- marks are set -/
def sv_mk (G : Nat → Nat) : Nat → Nat → Int32
  | 0 => fun _ => 0
  | i + 1 => upd (sv_mk G i) (G i) 1
/-- marks are met, and taken away -/
def sv_mt (m : Nat → Int32) (G : Nat → Nat) : Nat → (Nat → Int32) × Nat
  | 0 => (m, 0)
  | i + 1 => (upd (sv_mt m G i).1 (G i) 0, if (sv_mt m G i).1 (G i) = 0 then (sv_mt m G i).2 else (sv_mt m G i).2 + 1)
def q_shared (T : sv_T) (v w : Int32) : sv_Q := sv_qv T v fun a => sv_qv T w fun b => (0, .int (if a.st = b.st then nI (sv_mt (sv_mk (fun i => (a.pl i).toNatClampNeg) a.it) (fun i => (b.pl i).toNatClampNeg) b.it).2 else 0), T)
noncomputable def q_same (T : sv_T) (v w : Int32) : sv_Q := sv_qv T v fun a => sv_qv T w fun b => (0, .int (sv_if ((a.ax = b.ax ∧ ∀ k, k < a.ax → a.ex k = b.ex k) ∧ ∀ i, i < a.it → T.at a i = T.at b i) 1 0), T)
def sv_rn (G : Nat → Int32) : Nat → Nat
  | 0 => 0
  | i + 1 => if (i = 0 ∨ ¬ G i = G (i - 1) + 1) then sv_rn G i + 1 else sv_rn G i
def q_runs (T : sv_T) (v : Int32) : sv_Q := sv_qv T v fun a => (0, .int (nI (sv_rn a.pl a.it)), T)
def sv_A.lo (a : sv_A) : Int32 := if a.it = 0 then -1 else a.sa + sv_sum (fun k => if (nI (a.ex k) - 1) * a.sp k < 0 then (nI (a.ex k) - 1) * a.sp k else 0) a.ax
def sv_A.hi (a : sv_A) : Int32 := if a.it = 0 then -1 else a.sa + sv_sum (fun k => if 0 < (nI (a.ex k) - 1) * a.sp k then (nI (a.ex k) - 1) * a.sp k else 0) a.ax
noncomputable def q_told (T : sv_T) (v w : Int32) : sv_Q := sv_qv T v fun a => if w = 0 then (0, .int (nI a.st), T) else if w = 1 then (0, .int a.sa, T) else if w = 2 then (0, .int (nI a.ax), T) else if w = 3 then (0, .int (nI a.it), T) else if w = 4 then (0, .int (sv_if a.fx 1 0), T) else if w = 5 then (0, .int a.lo, T) else if w = 6 then (0, .int a.hi, T) else (5, .null, T)
def q_axis (T : sv_T) (v x w : Int32) : sv_Q := sv_qv T v fun a => sv_qa T a x fun k => if w = 0 then (0, .int (nI (a.ex k)), T) else if w = 1 then (0, .int (a.sp k), T) else (5, .null, T)
def q_stored (T : sv_T) (s w : Int32) : sv_Q := if (0 ≤ s ∧ s < nI T.ns) then (if w = 0 then (0, .int (T.ln s.toNatClampNeg), T) else if w = 1 then (0, .int (nI (T.sz s.toNatClampNeg)), T) else if w = 2 then (0, .int (nI (sv_vc T.vw s.toNatClampNeg T.nv)), T) else (5, .null, T)) else (4, .null, T)
def q_count (T : sv_T) (w : Int32) : sv_Q := if w = 0 then (0, .int (nI T.ns), T) else if w = 1 then (0, .int (nI T.nv), T) else (5, .null, T)
theorem sv_qv_no {T : sv_T} {i : Int32} {f : sv_A → sv_Q} (h : ¬ sv_iv T i) : sv_qv T i f = (4, .null, T) := if_neg h
theorem sv_iv_j {T : sv_T} {j : Nat} (hj : j < T.nv) (h80 : T.nv ≤ 80) : sv_iv T (nI j) := ⟨Int32.not_lt.mp (nI_pos (by omega)), (nI_ltI (by omega) (by omega)).mpr hj⟩
theorem sv_qv_j {T : sv_T} {j : Nat} {f : sv_A → sv_Q} (hj : j < T.nv) (h80 : T.nv ≤ 80) : sv_qv T (nI j) f = f (T.vw j) := by
  rw [sv_qv, if_pos (sv_iv_j hj h80), nI_clamp (by omega)]
theorem sv_qa_no {T : sv_T} {a : sv_A} {x : Int32} {f : Nat → sv_Q} (h : ¬ (0 ≤ x ∧ x < nI a.ax)) : sv_qa T a x f = (4, .null, T) := if_neg h
theorem sv_qa_j {T : sv_T} {a : sv_A} {k : Nat} {f : Nat → sv_Q} (hk : k < a.ax) (h4 : a.ax ≤ 4) : sv_qa T a (nI k) f = f k := by
  rw [sv_qa, if_pos ⟨Int32.not_lt.mp (nI_pos (by omega)), (nI_ltI (by omega) (by omega)).mpr hk⟩, nI_clamp (by omega)]
/-- how a call ends: the class holds the new state; little was made; an answer, or an exception -/
def sv_O (g : am_G) (S : am_S) (q : sv_Q) (o : am_O) (S1 : am_S) : Prop :=
  (∃ (lo : Nat) (as av : Nat → Nat), sv_C g lo S1 q.2.2 as av) ∧ sv_D g S S1 16 700 ∧ ((q.1 = 0 ∧ o = .inl (some q.2.1)) ∨ (¬ q.1 = 0 ∧ ∃ a, o = .inr a ∧ S1.1 a = some (.inr (q.1, []))))
abbrev sv_R (g : am_G) (S : am_S) (k z : Nat) : Prop := S.2.1 + k ≤ g.2.2.2.1 ∧ S.2.2 + z ≤ g.2.2.2.2.1
theorem sv_C.base {g : am_G} {lo : Nat} {S : am_S} {T : sv_T} {as av : Nat → Nat} (h : sv_C g lo S T as av) : g.2.2.1 + 20 ≤ lo ∧ lo ≤ S.2.1 ∧ sv_wf T := by
  obtain ⟨qs, qv, fp0, fn0, fm0, -, -, -, -, -, hb, hlo, hw⟩ := h
  exact ⟨hb, hlo, hw⟩
theorem sv_O.thr {g : am_G} {S S1 : am_S} {lo k : Nat} {T : sv_T} {as av : Nat → Nat} {v : Value} (h : sv_C g lo S1 T as av) (hD : sv_D g S S1 15 690) (hk : ¬ k = 0) : sv_O g S (k, v, T) (.inr S1.2.1) (am_thrown k S1) :=
  ⟨⟨lo, as, av, h.thr⟩, (hD.tr (sv_D.thr (by have := h.base; omega))).le (by omega) (by omega), Or.inr ⟨hk, S1.2.1, rfl, am_up_s⟩⟩
theorem sv_O.thr0 {g : am_G} {S : am_S} {lo k : Nat} {T : sv_T} {as av : Nat → Nat} {v : Value} (h : sv_C g lo S T as av) (hk : ¬ k = 0) : sv_O g S (k, v, T) (.inr S.2.1) (am_thrown k S) := sv_O.thr h (sv_D.rf.le (by omega) (by omega)) hk
theorem sv_O.ret {g : am_G} {S S1 : am_S} {lo : Nat} {T : sv_T} {as av : Nat → Nat} {v : Value} (h : sv_C g lo S1 T as av) (hD : sv_D g S S1 16 700) : sv_O g S (0, v, T) (.inl (some v)) S1 := ⟨⟨lo, as, av, h⟩, hD, Or.inl ⟨rfl, rfl⟩⟩
/-! sums of steps by indices, and items -/
def sv_sm (p : Nat → Int32) (x : Nat → Nat) : Nat → Int32
  | 0 => 0
  | n + 1 => nI (x n) * p n + sv_sm p x n
theorem sv_sm_congr {p p2 : Nat → Int32} {x x2 : Nat → Nat} : ∀ {n : Nat}, (∀ k, k < n → p2 k = p k) → (∀ k, k < n → x2 k = x k) → sv_sm p2 x2 n = sv_sm p x n := by
  intro n
  induction n with
  | zero => intro _ _; rfl
  | succ n ih => intro h1 h2; simp only [sv_sm]; rw [h1 n (by omega), h2 n (by omega), ih (fun k hk => h1 k (by omega)) (fun k hk => h2 k (by omega))]
theorem sv_pl_sm (E : Nat → Nat) (p : Nat → Int32) : ∀ n i, sv_pl E p n i = sv_sm p (fun k => sv_ix E n k i) n := by
  intro n
  induction n with
  | zero => intro i; rfl
  | succ n ih =>
    intro i
    simp only [sv_pl, sv_sm, sv_ix]
    rw [ih (i / E n)]
    simp only [if_true]
    congr 1
    exact sv_sm_congr (fun _ _ => rfl) (fun k hk => by show sv_ix E n k (i / E n) = (if k = n then i % E n else sv_ix E n k (i / E n)); rw [if_neg (by omega)])
theorem sv_ix_lt {E : Nat → Nat} : ∀ {n i : Nat}, i < sv_pr E n → ∀ k, k < n → sv_ix E n k i < E k := by
  intro n
  induction n with
  | zero => intro i _ k hk; omega
  | succ n ih =>
    intro i hi k hk
    have hi : i < sv_pr E n * E n := hi
    simp only [sv_ix]
    split
    · rename_i h
      subst h
      refine Nat.mod_lt _ (Nat.pos_of_ne_zero (fun h => ?_))
      rw [h] at hi
      omega
    · exact ih (Nat.div_lt_of_lt_mul (by rw [Nat.mul_comm]; exact hi)) k (by omega)
theorem sv_ix_ex {E : Nat → Nat} : ∀ {n : Nat} (x : Nat → Nat), (∀ k, k < n → x k < E k) → ∃ i, i < sv_pr E n ∧ ∀ k, k < n → sv_ix E n k i = x k := by
  intro n
  induction n with
  | zero => intro x _; exact ⟨0, Nat.one_pos, fun k hk => absurd hk (Nat.not_lt_zero k)⟩
  | succ n ih =>
    intro x hx
    obtain ⟨i, h1, h2⟩ := ih x (fun k hk => hx k (by omega))
    have hn := hx n (by omega)
    refine ⟨i * E n + x n, ?_, fun k hk => ?_⟩
    · show i * E n + x n < sv_pr E n * E n
      have := Nat.mul_le_mul_right (E n) (show i + 1 ≤ sv_pr E n from h1)
      rw [Nat.add_mul, Nat.one_mul] at this
      omega
    · simp only [sv_ix]
      have hd : (i * E n + x n) / E n = i := by rw [Nat.mul_comm, Nat.mul_add_div (by omega), Nat.div_eq_of_lt hn, Nat.add_zero]
      have hm : (i * E n + x n) % E n = x n := by rw [Nat.mul_comm, Nat.mul_add_mod]; exact Nat.mod_eq_of_lt hn
      split
      · rename_i h
        rw [hm, h]
      · rw [hd]
        exact h2 k (by omega)
/-- what holds at all items holds at all indices -/
theorem sv_all {E : Nat → Nat} {p : Nat → Int32} {n : Nat} {Q : Int32 → Prop} (h : ∀ i, i < sv_pr E n → Q (sv_pl E p n i)) (x : Nat → Nat) (hx : ∀ k, k < n → x k < E k) : Q (sv_sm p x n) := by
  obtain ⟨i, h1, h2⟩ := sv_ix_ex x hx
  have h3 := h i h1
  rw [sv_pl_sm, sv_sm_congr (p := p) (x := x) (fun _ _ => rfl) h2] at h3
  exact h3
theorem sv_lla {E : Nat → Nat} {p : Nat → Int32} {n : Nat} {Q : Int32 → Prop} (h : ∀ x : Nat → Nat, (∀ k, k < n → x k < E k) → Q (sv_sm p x n)) (i : Nat) (hi : i < sv_pr E n) : Q (sv_pl E p n i) := by
  rw [sv_pl_sm]
  exact h _ (sv_ix_lt hi)
theorem sv_pr_congr {E E2 : Nat → Nat} : ∀ {n : Nat}, (∀ k, k < n → E2 k = E k) → sv_pr E2 n = sv_pr E n := by
  intro n
  induction n with
  | zero => intro _; rfl
  | succ n ih => intro h; simp only [sv_pr]; rw [h n (by omega), ih (fun k hk => h k (by omega))]
theorem sv_pl_congr {E E2 : Nat → Nat} {p p2 : Nat → Int32} : ∀ {n i : Nat}, (∀ k, k < n → E2 k = E k) → (∀ k, k < n → p2 k = p k) → sv_pl E2 p2 n i = sv_pl E p n i := by
  intro n
  induction n with
  | zero => intro i _ _; rfl
  | succ n ih => intro i h h2; simp only [sv_pl]; rw [h n (by omega), h2 n (by omega), ih (fun k hk => h k (by omega)) (fun k hk => h2 k (by omega))]
/-- the new view's items lie where the raw one's do -/
theorem sv_set_pl {a : sv_A} {i : Nat} (hi : i < a.it) : (sv_set a).pl i = a.pl i := by
  have h0 : ¬ a.it = 0 := by omega
  show (if a.it = 0 then 0 else a.sa) + sv_pl a.ex (fun k => if (a.it = 0 ∨ a.ex k < 2) then 0 else a.sp k) a.ax i = a.sa + sv_pl a.ex a.sp a.ax i
  rw [if_neg h0]
  congr 1
  rw [sv_pl_sm, sv_pl_sm]
  have h1 := sv_ix_lt (E := a.ex) (n := a.ax) (i := i) hi
  generalize hN : (fun k => sv_ix a.ex a.ax k i) = x
  have h1 : ∀ k, k < a.ax → x k < a.ex k := by intro k hk; rw [← hN]; exact h1 k hk
  clear hN
  have key : ∀ n, n ≤ a.ax → sv_sm (fun k => if (a.it = 0 ∨ a.ex k < 2) then 0 else a.sp k) x n = sv_sm a.sp x n := by
    intro n
    induction n with
    | zero => intro _; rfl
    | succ n ih =>
      intro hn
      simp only [sv_sm]
      rw [ih (by omega)]
      congr 1
      by_cases h : a.ex n < 2
      · have h2 := h1 n (by omega)
        rw [show x n = 0 by omega, nI_0, Int32.zero_mul, Int32.zero_mul]
      · rw [if_neg (fun q => q.elim h0 h)]
  exact key _ (Nat.le_refl _)
theorem sv_set_wv {ns : Nat} {sz : Nat → Nat} {a : sv_A} (h1 : a.st < ns) (h2 : a.ax ≤ 4) (h3 : sv_ok a.ex a.ax) (h4 : a.it ≤ 3000) (h5 : ∀ i, i < a.it → vp_in (a.pl i) (sz a.st)) : sv_wv ns sz (sv_set a) := by
  refine ⟨h1, h2, h3, h4, fun h => ⟨if_pos h, fun k hk => if_pos (Or.inl h)⟩, fun k hk h => if_pos (Or.inr h), fun i hi => ?_⟩
  rw [sv_set_pl (a := a) hi]
  exact h5 i hi
theorem sv_wf.addV {T : sv_T} {a : sv_A} (h : sv_wf T) (hv : T.nv < 80) (hw : sv_wv T.ns T.sz a) : sv_wf (T.addV a) := by
  refine ⟨h.1, hv, h.2.2.1, fun i hi => ?_⟩
  show sv_wv T.ns T.sz (if i = T.nv then a else T.vw i)
  split
  · exact hw
  · exact h.2.2.2 i (by have : i < T.nv + 1 := hi; omega)
theorem sv_wf.addS {T : sv_T} {ln : Int32} {sz : Nat} {f : Nat → Int64} (h : sv_wf T) (hs : T.ns < 12) (hz : sz ≤ 300) : sv_wf (T.addS ln sz f) := by
  refine ⟨hs, h.2.1, fun i hi => ?_, fun i hi => ?_⟩
  · show (if i = T.ns then sz else T.sz i) ≤ 300
    split
    · exact hz
    · exact h.2.2.1 i (by have : i < T.ns + 1 := hi; omega)
  · obtain ⟨h1, h2⟩ := h.2.2.2 i hi
    refine ⟨by show _ < T.ns + 1; exact Nat.lt_succ_of_lt h1, h2.1, h2.2.1, h2.2.2.1, h2.2.2.2.1, h2.2.2.2.2.1, fun t ht => ?_⟩
    show vp_in _ (if (T.vw i).st = T.ns then sz else T.sz (T.vw i).st)
    rw [if_neg (by omega)]
    exact h2.2.2.2.2.2 t ht
