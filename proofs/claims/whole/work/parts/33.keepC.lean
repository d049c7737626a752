/-! the class's calls: what is kept -/
theorem sv_vc_0 {vw : Nat → sv_A} {i : Nat} : ∀ {n : Nat}, (∀ k, k < n → ¬ (vw k).st = i) → sv_vc vw i n = 0 := by
  intro n
  induction n with
  | zero => intro _; rfl
  | succ n ih => intro h; simp only [sv_vc]; rw [if_neg (h n (by omega)), ih (fun k hk => h k (by omega))]
set_option maxHeartbeats 4000000 in
set_option maxRecDepth 100000 in
/-- viewAt: a view, or no such -/
theorem c_viewC {g : am_G} {d : Nat} {S : am_S} {lo : Nat} {T : sv_T} {as av : Nat → Nat} (hC : sv_C g lo S T as av) (i : Int32) (hr : sv_R g S 1 6) : am_W g d mm_X_viewAt (0, am_ent [.ref g.2.2.1, .int i] 2, []) S (fun o S1 => (¬ sv_iv T i ∧ o = .inr S.2.1 ∧ S1 = am_thrown 4 S) ∨ (∃ j, j < T.nv ∧ i = nI j ∧ o = .inl (some (.ref (av j))) ∧ S1 = S)) := by
  obtain ⟨qs, qv, fp, fn, fm, ⟨hx, hq1, hq2, h3, h4, h5⟩, hs, hv, i1, i2, hB, hlo, hw⟩ := id hC
  have h80 := hw.2.1
  refine c_viewAt hx hq2 i hr.1 hr.2 (fun h => Or.inl ⟨fun q => h.elim (fun h => Int32.not_lt.mpr q.1 h) (fun h => Int32.not_lt.mpr h q.2), rfl, rfl⟩) (fun j h1 h2 => ?_)
  have hj : j < T.nv := (nI_ltI h2 (by omega)).mp h1
  exact ⟨av j, (hv j hj).1, by omega, fun e => Or.inr ⟨j, hj, e, rfl, rfl⟩⟩
set_option maxHeartbeats 4000000 in
set_option maxRecDepth 100000 in
/-- keepStore: a store more -/
theorem c_keepS {g : am_G} {d : Nat} {S : am_S} {lo : Nat} {T : sv_T} {as av : Nat → Nat} (hC : sv_C g lo S T as av) {s sz : Nat} {ln : Int32} {f : Nat → Int64} (hs12 : T.ns < 12) (hz : sz ≤ 300) (hSi : sv_Si S.1 s T.ns ln sz f 0) (hsl : lo ≤ s) (hsh : s + 2 ≤ S.2.1) {P : am_O → am_S → Prop} (hP : ∀ S1 : am_S, sv_C g (s + 2) S1 (T.addS ln sz f) (fun i => if i = T.ns then s else as i) av → S1.2 = S.2 → (∀ q, q ≠ g.2.2.1 → q ≠ g.2.2.1 + 1 → S1.1 q = S.1 q) → P (.inl none) S1) : am_W g d mm_X_keepStore (0, am_ent [.ref g.2.2.1, .ref s] 2, []) S P := by
  obtain ⟨qs, qv, fp, fn, fm, ⟨hx, hq1, hq2, h3, h4, h5⟩, hs, hv, i1, i2, hB, hlo, hw⟩ := id hC
  refine c_keepStore0 hx hs12 hq1 hSi.1 (fun S1 g1 g2 g3 g4 => hP S1 ?_ g3 g4)
  have g31 : S1.2.1 = S.2.1 := by rw [g3]
  refine ⟨va_up qs T.ns (some s), qv, fp, fn, fm, ⟨g1, g2, (g4 _ (by omega) (by omega)).trans hq2, (g4 _ (by omega) (by omega)).trans h3, (g4 _ (by omega) (by omega)).trans h4, (g4 _ (by omega) (by omega)).trans h5⟩, fun i hi => ?_, fun i hi => ?_, fun i j hi hj => ?_, i2, by omega, by omega, hw.addS hs12 hz⟩
  · have hi : i < T.ns + 1 := hi
    show va_up qs T.ns (some s) i = some (if i = T.ns then s else as i) ∧ g.2.2.1 + 20 ≤ (if i = T.ns then s else as i) ∧ (if i = T.ns then s else as i) + 1 < s + 2 ∧ sv_Si S1.1 (if i = T.ns then s else as i) i (if i = T.ns then ln else T.ln i) (if i = T.ns then sz else T.sz i) (if i = T.ns then f else T.nu i) (sv_vc T.vw i T.nv)
    by_cases h : i = T.ns
    · subst h
      simp only [if_true]
      have h0 : sv_vc T.vw T.ns T.nv = 0 := sv_vc_0 (fun k hk => by have := (hw.2.2.2 k hk).1; omega)
      rw [h0]
      exact ⟨by simp [va_up], by omega, by omega, hSi.of (g4 _ (by omega) (by omega)) (g4 _ (by omega) (by omega))⟩
    · obtain ⟨a1, a2, a3, a4⟩ := hs i (by omega)
      simp only [if_neg h]
      exact ⟨by simp [va_up, h]; exact a1, a2, by omega, a4.of (g4 _ (by omega) (by omega)) (g4 _ (by omega) (by omega))⟩
  · obtain ⟨a1, a2, a3, a4⟩ := hv i hi
    have h9 := (hw.2.2.2 i hi).1
    refine ⟨a1, a2, by omega, ?_⟩
    obtain ⟨fe, fs, b1, b2⟩ := a4.of (M2 := S1.1) (g4 _ (by omega) (by omega)) (g4 _ (by omega) (by omega)) (g4 _ (by omega) (by omega))
    refine ⟨fe, fs, ?_, b2⟩
    show sv_V S1.1 (av i) (if (T.vw i).st = T.ns then s else as (T.vw i).st) _ _ _ _ _ _ _
    rw [if_neg (by omega)]
    exact b1
  · have hi : i < T.ns + 1 := hi
    have hj : j < T.ns + 1 := hj
    show (if i = T.ns then s else as i) = (if j = T.ns then s else as j) → i = j
    intro e
    by_cases h : i = T.ns
    · by_cases h' : j = T.ns
      · omega
      · rw [if_pos h, if_neg h'] at e
        have := hs j (by omega)
        omega
    · by_cases h' : j = T.ns
      · rw [if_neg h, if_pos h'] at e
        have := hs i (by omega)
        omega
      · rw [if_neg h, if_neg h'] at e
        exact i1 i j (by omega) (by omega) e
set_option maxHeartbeats 4000000 in
set_option maxRecDepth 100000 in
/-- keepView: a view more, or too many -/
theorem c_keepV {g : am_G} {d : Nat} {S : am_S} {lo : Nat} {T : sv_T} {as av : Nat → Nat} (hC : sv_C g lo S T as av) {a : sv_A} {v : Nat} {it : Int32} {fe fs : Nat → Int32} (hV : sv_V S.1 v (as a.st) a.sa a.ax it (v + 1) (v + 2) fe fs) (hE : ∀ k, k < a.ax → fe k = nI (a.ex k)) (hS : ∀ k, k < a.ax → fs k = a.sp k) (hO : sv_ok a.ex a.ax) (hst : a.st < T.ns) (hin : a.it ≤ 3000 → ∀ i, i < a.it → vp_in (a.pl i) (T.sz a.st)) (hvl : lo ≤ v) (hvh : v + 3 ≤ S.2.1) (hr : sv_R g S 1 6) {P : am_O → am_S → Prop} (hbad : ¬ (T.nv < 80 ∧ a.it ≤ 3000) → ∀ S1 : am_S, sv_C g lo S1 T as av → S1.2 = S.2 → (∀ q, q < lo → S1.1 q = S.1 q) → P (.inr S1.2.1) (am_thrown 6 S1)) (hok : T.nv < 80 → a.it ≤ 3000 → ∀ S1 : am_S, sv_C g (v + 3) S1 (T.addV (sv_set a)) as (fun i => if i = T.nv then v else av i) → S1.2 = S.2 → (∀ q, q ≠ g.2.2.1 → q ≠ g.2.2.1 + 2 → q ≠ as a.st → q ≠ v → q ≠ v + 1 → q ≠ v + 2 → S1.1 q = S.1 q) → P (.inl (some (.int (nI T.nv)))) S1) : am_W g (d + 2) mm_X_keepView (0, am_ent [.ref g.2.2.1, .ref v] 2, []) S P := by
  obtain ⟨qs, qv, fp, fn, fm, ⟨hx, hq1, hq2, h3, h4, h5⟩, hs, hv, i1, i2, hB, hlo, hw⟩ := id hC
  have h80 := hw.2.1
  obtain ⟨s1, s2, s3, s4⟩ := hs a.st hst
  refine c_keepView0 hx h80 hq2 hV a.ex hE hO s4.1 hr.1 hr.2 (fun h S1 hf => ?_) (fun hk hq S1 fs1 g1 g2 g3 g4 g5 g6 g7 => ?_)
  · refine hbad (fun q => ?_) S1 (hC.up (fun q hq => hf.2 q (by omega) (by omega) (by omega)) (by have := hf.1; rw [Prod.ext_iff] at this; omega)) hf.1 (fun q hq => hf.2 q (by omega) (by omega) (by omega))
    have h8 : sv_pr a.ex a.ax ≤ 3000 := q.2
    omega
  · refine hok hk hq S1 ?_ g6 (fun q h1 h2 h3 h4 h5 h6 => g7 q h1 h2 h3 h4 h5 h6)
    have g61 : S1.2.1 = S.2.1 := by rw [g6]
    have hst9 : ∀ q, q ≠ g.2.2.1 → q ≠ g.2.2.1 + 2 → q ≠ as a.st → q < lo → S1.1 q = S.1 q := fun q h1 h2 h3 h4 => g7 q h1 h2 h3 (by omega) (by omega) (by omega)
    refine ⟨qs, va_up qv T.nv (some v), fp, fn, fm, ⟨g3, (hst9 _ (by omega) (by omega) (by omega) (by omega)).trans hq1, g4, (hst9 _ (by omega) (by omega) (by omega) (by omega)).trans h3, (hst9 _ (by omega) (by omega) (by omega) (by omega)).trans h4, (hst9 _ (by omega) (by omega) (by omega) (by omega)).trans h5⟩, fun i hi => ?_, fun i hi => ?_, i1, fun i j hi hj => ?_, by omega, by omega, hw.addV hk (sv_set_wv hst hV.2.2.2.2 hO hq (hin hq))⟩
    · obtain ⟨a1, a2, a3, a4⟩ := hs i hi
      refine ⟨a1, a2, by omega, ?_⟩
      show sv_Si S1.1 (as i) i (T.ln i) (T.sz i) (T.nu i) (sv_vc (T.addV (sv_set a)).vw i (T.addV (sv_set a)).nv)
      rw [sv_vc_addV]
      have hrow : as i + 1 ≠ as a.st := fun e => by
        have h1 := a4.2
        rw [e, s4.1] at h1
        exact absurd h1 (by simp)
      by_cases h : a.st = i
      · rw [if_pos (show (sv_set a).st = i from h)]
        subst h
        exact ⟨g5, (hst9 _ (by omega) (by omega) hrow (by omega)).trans a4.2⟩
      · rw [if_neg (show ¬ (sv_set a).st = i from h)]
        exact a4.of (hst9 _ (by omega) (by omega) (fun e => h (i1 _ _ hst hi e.symm)) (by omega)) (hst9 _ (by omega) (by omega) hrow (by omega))
    · have hi : i < T.nv + 1 := hi
      show va_up qv T.nv (some v) i = some (if i = T.nv then v else av i) ∧ g.2.2.1 + 20 ≤ (if i = T.nv then v else av i) ∧ (if i = T.nv then v else av i) + 2 < v + 3 ∧ sv_Vi S1.1 as (if i = T.nv then v else av i) (if i = T.nv then sv_set a else T.vw i)
      by_cases h : i = T.nv
      · subst h
        simp only [if_true]
        refine ⟨by simp [va_up], by omega, by omega, fe, fs1, g1, hE, fun k hk => ?_⟩
        rw [g2 k hk, hS k hk]
        rfl
      · obtain ⟨a1, a2, a3, a4⟩ := hv i (by omega)
        simp only [if_neg h]
        refine ⟨by simp [va_up, h]; exact a1, a2, by omega, ?_⟩
        obtain ⟨fe9, fs9, b1, b2⟩ := id a4
        exact a4.of (hst9 _ (by omega) (by omega) (am_nd b1.1 s4.1 (by simp [am_kd])) (by omega)) (hst9 _ (by omega) (by omega) (am_nd b1.2.1 s4.1 (by simp [am_kd])) (by omega)) (hst9 _ (by omega) (by omega) (am_nd b1.2.2.1 s4.1 (by simp [am_kd])) (by omega))
    · have hi : i < T.nv + 1 := hi
      have hj : j < T.nv + 1 := hj
      show (if i = T.nv then v else av i) = (if j = T.nv then v else av j) → i = j
      intro e
      by_cases h : i = T.nv
      · by_cases h' : j = T.nv
        · omega
        · rw [if_pos h, if_neg h'] at e
          have := hv j (by omega)
          omega
      · by_cases h' : j = T.nv
        · rw [if_neg h, if_pos h'] at e
          have := hv i (by omega)
          omega
        · rw [if_neg h, if_neg h'] at e
          exact i2 i j (by omega) (by omega) e
set_option maxHeartbeats 4000000 in
set_option maxRecDepth 100000 in
/-- keepView, as a call ends -/
theorem c_keepQ {g : am_G} {d : Nat} {S : am_S} {S0 : am_S} {lo : Nat} {T : sv_T} {as av : Nat → Nat} (hC : sv_C g lo S T as av) {a : sv_A} {v : Nat} {it : Int32} {fe fs : Nat → Int32} (hV : sv_V S.1 v (as a.st) a.sa a.ax it (v + 1) (v + 2) fe fs) (hE : ∀ k, k < a.ax → fe k = nI (a.ex k)) (hS : ∀ k, k < a.ax → fs k = a.sp k) (hO : sv_ok a.ex a.ax) (hst : a.st < T.ns) (hin : a.it ≤ 3000 → ∀ i, i < a.it → vp_in (a.pl i) (T.sz a.st)) (hvl : lo ≤ v) (hvh : v + 3 ≤ S.2.1) (hr : sv_R g S 1 6) (hD : sv_D g S0 S 15 690) : am_W g (d + 2) mm_X_keepView (0, am_ent [.ref g.2.2.1, .ref v] 2, []) S (sv_O g S0 (sv_kp T a)) := by
  have hb := hC.base
  obtain ⟨qs, qv, fp, fn, fm, ⟨hx, hq1, hq2, h3, h4, h5⟩, hs, hv, i1, i2, hB, hlo, hw⟩ := id hC
  obtain ⟨s1, s2, s3, s4⟩ := hs a.st hst
  refine c_keepV hC hV hE hS hO hst hin hvl hvh hr (fun h S1 g1 g2 g3 => ?_) (fun hk hq S1 g1 g2 g3 => ?_)
  · rw [sv_kp, if_neg h]
    have g21 : S1.2.1 = S.2.1 := by rw [g2]
    have g22 : S1.2.2 = S.2.2 := by rw [g2]
    exact sv_O.thr g1 ⟨fun q h1 h2 => (g3 q (by omega)).trans (hD.1 q h1 h2), by have := hD.2; omega, by have := hD.2; omega, by have := hD.2; omega, by have := hD.2; omega⟩ (by decide)
  · rw [sv_kp, if_pos ⟨hk, hq⟩]
    have g21 : S1.2.1 = S.2.1 := by rw [g2]
    have g22 : S1.2.2 = S.2.2 := by rw [g2]
    exact sv_O.ret g1 ⟨fun q h1 h2 => (g3 q (by omega) (by omega) (by omega) (by omega) (by omega) (by omega)).trans (hD.1 q h1 h2), by have := hD.2; omega, by have := hD.2; omega, by have := hD.2; omega, by have := hD.2; omega⟩
