/-! array rows at an index that is a number; a view in cells -/
section AmN
variable {g : am_G} {d : Nat} {y : am_I} {pc : Nat} {L : List (Option Value)} {st : List Value} {S : am_S} {P : am_O → am_S → Prop}
theorem am_ialdN {a t n k : Nat} {f : Nat → Int32} (hd : decode y.2.1 pc = .ok (.iaload, 1)) (ht : am_tyl[t]? = some .int) (hM : S.1 a = some (.inl (t, n, .inl f))) (hk : k < n) (hn : n < 2 ^ 31) (kk : am_W g d y (pc + 1, L, .int (f k) :: st) S P) : am_W g d y (pc, L, .int (nI k) :: .ref a :: st) S P :=
  am_iald hd ht hM (vp_in_nI hk hn) (by rw [nI_clamp (Nat.lt_trans hk hn)]; exact kk)
theorem am_laldN {a t n k : Nat} {f : Nat → Int64} (hd : decode y.2.1 pc = .ok (.laload, 1)) (ht : am_tyl[t]? = some .long) (hM : S.1 a = some (.inl (t, n, .inr (.inl f)))) (hk : k < n) (hn : n < 2 ^ 31) (kk : am_W g d y (pc + 1, L, .long (f k) :: st) S P) : am_W g d y (pc, L, .int (nI k) :: .ref a :: st) S P :=
  am_lald hd ht hM (vp_in_nI hk hn) (by rw [nI_clamp (Nat.lt_trans hk hn)]; exact kk)
theorem am_zaldN {a t n k : Nat} {f : Nat → Int32} (hd : decode y.2.1 pc = .ok (.baload, 1)) (ht : am_tyl[t]? = some .boolean) (hM : S.1 a = some (.inl (t, n, .inl f))) (hk : k < n) (hn : n < 2 ^ 31) (kk : am_W g d y (pc + 1, L, .int (f k) :: st) S P) : am_W g d y (pc, L, .int (nI k) :: .ref a :: st) S P :=
  am_zald hd ht hM (vp_in_nI hk hn) (by rw [nI_clamp (Nat.lt_trans hk hn)]; exact kk)
theorem am_iastN {a t n k : Nat} {f : Nat → Int32} {x : Int32} (hd : decode y.2.1 pc = .ok (.iastore, 1)) (ht : am_tyl[t]? = some .int) (hM : S.1 a = some (.inl (t, n, .inl f))) (hk : k < n) (hn : n < 2 ^ 31) (kk : am_W g d y (pc + 1, L, st) (am_up S.1 a (.inl (t, n, .inl (upd f k x))), S.2) P) : am_W g d y (pc, L, .int x :: .int (nI k) :: .ref a :: st) S P :=
  am_iast hd ht hM (vp_in_nI hk hn) (by rw [nI_clamp (Nat.lt_trans hk hn)]; exact kk)
theorem am_lastN {a t n k : Nat} {f : Nat → Int64} {x : Int64} (hd : decode y.2.1 pc = .ok (.lastore, 1)) (ht : am_tyl[t]? = some .long) (hM : S.1 a = some (.inl (t, n, .inr (.inl f)))) (hk : k < n) (hn : n < 2 ^ 31) (kk : am_W g d y (pc + 1, L, st) (am_up S.1 a (.inl (t, n, .inr (.inl (vp_updL f k x)))), S.2) P) : am_W g d y (pc, L, .long x :: .int (nI k) :: .ref a :: st) S P :=
  am_last hd ht hM (vp_in_nI hk hn) (by rw [nI_clamp (Nat.lt_trans hk hn)]; exact kk)
theorem am_zastN {a t n k : Nat} {f : Nat → Int32} {x : Int32} (hd : decode y.2.1 pc = .ok (.bastore, 1)) (ht : am_tyl[t]? = some .boolean) (hM : S.1 a = some (.inl (t, n, .inl f))) (hk : k < n) (hn : n < 2 ^ 31) (kk : am_W g d y (pc + 1, L, st) (am_up S.1 a (.inl (t, n, .inl (upd f k (vp_nar .boolean x)))), S.2) P) : am_W g d y (pc, L, .int x :: .int (nI k) :: .ref a :: st) S P :=
  am_zast hd ht hM (vp_in_nI hk hn) (by rw [nI_clamp (Nat.lt_trans hk hn)]; exact kk)
theorem am_aaldN {a t n k : Nat} {C : String} {f : Nat → Option Nat} {v : Nat} (hd : decode y.2.1 pc = .ok (.aaload, 1)) (ht : am_tyl[t]? = some (.object C)) (hM : S.1 a = some (.inl (t, n, .inr (.inr (.inr (.inr f)))))) (hk : k < n) (hn : n < 2 ^ 31) (hv : f k = some v) (kk : am_W g d y (pc + 1, L, .ref v :: st) S P) : am_W g d y (pc, L, .int (nI k) :: .ref a :: st) S P :=
  am_aald hd ht hM (vp_in_nI hk hn) (by rw [nI_clamp (Nat.lt_trans hk hn)]; exact hv) kk
theorem am_aastN {a t n ci v k : Nat} {r : vw_C} {vs : List Value} {f : Nat → Option Nat} (hd : decode y.2.1 pc = .ok (.aastore, 1)) (ht : am_tyl[t]? = some (.object r.1)) (hM : S.1 a = some (.inl (t, n, .inr (.inr (.inr (.inr f)))))) (hv : S.1 v = some (.inr (ci, vs))) (hc : am_cl[ci]? = some r) (hk : k < n) (hn : n < 2 ^ 31) (kk : am_W g d y (pc + 1, L, st) (am_up S.1 a (.inl (t, n, .inr (.inr (.inr (.inr (va_up f k (some v))))))), S.2) P) : am_W g d y (pc, L, .ref v :: .int (nI k) :: .ref a :: st) S P :=
  am_aast hd ht hM hv hc (vp_in_nI hk hn) (by rw [nI_clamp (Nat.lt_trans hk hn)]; exact kk)
end AmN
/-- a view: its object, its two rows -/
def sv_V (M : am_M) (v st : Nat) (sa : Int32) (n : Nat) (it : Int32) (ex sp : Nat) (fe fs : Nat → Int32) : Prop :=
  M v = some (.inr (1, [.ref st, .int sa, .int (nI n), .int it, .ref ex, .ref sp])) ∧ M ex = some (.inl (0, 4, .inl fe)) ∧ M sp = some (.inl (0, 4, .inl fs)) ∧ ex ≠ sp ∧ n ≤ 4
theorem sv_V.of {M M' : am_M} {v st : Nat} {sa : Int32} {n : Nat} {it : Int32} {ex sp : Nat} {fe fs : Nat → Int32} (h : sv_V M v st sa n it ex sp fe fs) (h1 : M' v = M v) (h2 : M' ex = M ex) (h3 : M' sp = M sp) : sv_V M' v st sa n it ex sp fe fs :=
  ⟨h1.trans h.1, h2.trans h.2.1, h3.trans h.2.2.1, h.2.2.2⟩
theorem sv_V.ne {M : am_M} {v st : Nat} {sa : Int32} {n : Nat} {it : Int32} {ex sp : Nat} {fe fs : Nat → Int32} (h : sv_V M v st sa n it ex sp fe fs) : v ≠ ex ∧ v ≠ sp :=
  ⟨am_nd h.1 h.2.1 (by simp [am_kd]), am_nd h.1 h.2.2.1 (by simp [am_kd])⟩
/-- an axis more, at place j -/
def sv_ins {α : Type} (f : Nat → α) (j : Nat) (x : α) : Nat → α := fun k => if k < j then f k else if k = j then x else f (k - 1)
/-- an axis less -/
def sv_rem {α : Type} (f : Nat → α) (j : Nat) : Nat → α := fun k => if k < j then f k else f (k + 1)
/-- only the view's own cells have changed -/
def sv_fr (S S1 : am_S) (v ex sp : Nat) : Prop := S1.2 = S.2 ∧ ∀ q : Nat, q ≠ v → q ≠ ex → q ≠ sp → S1.1 q = S.1 q
theorem sv_fr.rf {S : am_S} {v ex sp : Nat} : sv_fr S S v ex sp := ⟨rfl, fun _ _ _ _ => rfl⟩
theorem sv_fr.tr {S S1 S2 : am_S} {v ex sp : Nat} (h : sv_fr S S1 v ex sp) (k : sv_fr S1 S2 v ex sp) : sv_fr S S2 v ex sp := ⟨k.1.trans h.1, fun q a b c => (k.2 q a b c).trans (h.2 q a b c)⟩
theorem sv_fr.u1 {S S1 : am_S} {v ex sp : Nat} {e : va_E} (h : sv_fr S S1 v ex sp) : sv_fr S (am_up S1.1 v e, S1.2) v ex sp := ⟨h.1, fun q a b c => (am_up_n a).trans (h.2 q a b c)⟩
theorem sv_fr.u2 {S S1 : am_S} {v ex sp : Nat} {e : va_E} (h : sv_fr S S1 v ex sp) : sv_fr S (am_up S1.1 ex e, S1.2) v ex sp := ⟨h.1, fun q a b c => (am_up_n b).trans (h.2 q a b c)⟩
theorem sv_fr.u3 {S S1 : am_S} {v ex sp : Nat} {e : va_E} (h : sv_fr S S1 v ex sp) : sv_fr S (am_up S1.1 sp e, S1.2) v ex sp := ⟨h.1, fun q a b c => (am_up_n c).trans (h.2 q a b c)⟩
/-- a view one of whose axes is spread -/
def sv_fx (fe fs : Nat → Int32) (n : Nat) : Prop := ∃ k, k < n ∧ fs k = 0 ∧ 2 ≤ fe k
def sv_go (n : Nat) (fe : Nat → Int32) (nt : Nat) (te : Nat → Int32) : Prop := n ≤ nt ∧ ∀ k, k < n → fe k = 1 ∨ fe k = te (k + (nt - n))
def sv_he (n : Nat) (fe : Nat → Int32) (nt : Nat) (te : Nat → Int32) : Prop := n = nt ∧ ∀ k, k < n → fe k = te k
theorem nI_subN {a b : Nat} (h : b ≤ a) {c : Int32} (hc : c = nI b) : nI a - c = nI (a - b) := by rw [hc]; exact pk_sub h
theorem nI_m1N {a : Nat} (h : 0 < a) : nI a - 1 = nI (a - 1) := by
  obtain ⟨b, rfl⟩ : ∃ q, a = q + 1 := ⟨a - 1, by omega⟩
  exact nI_pred b
theorem nI_d1N {a : Nat} (h : 0 < a) : nI a + (-1) = nI (a - 1) := by
  obtain ⟨b, rfl⟩ : ∃ q, a = q + 1 := ⟨a - 1, by omega⟩
  exact pk_m1 b
