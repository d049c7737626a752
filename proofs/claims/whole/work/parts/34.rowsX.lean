/-! a call whose ends are the caller's next goals -/
section AmCps
variable {g : am_G} {d : Nat} {y y' : am_I} {pc : Nat} {L : List (Option Value)} {st : List Value} {S : am_S} {P : am_O → am_S → Prop}
def am_K (g : am_G) (d : Nat) (y : am_I) (pc : Nat) (L : List (Option Value)) (rest : List Value) (P : am_O → am_S → Prop) (o : am_O) (S1 : am_S) : Prop :=
  match o with
  | .inl v => am_W g (d + 1) y (pc + 3, L, v.toList ++ rest) S1 P
  | .inr x => P (.inr x) S1
theorem am_cpsS {ix n : Nat} (as rest : List Value) (hd : decode y.2.1 pc = .ok (.invokestatic ix, 3)) (hc : am_cS y.1.cls ix y' n) (hh : y.2.2.2.2 = []) (hn : as.length = n) (hst : st = as.reverse ++ rest) (hl : (lg_sl as).length ≤ y'.2.2.1) (hw : (rest.map fun v => v.category).sum ≤ 8)
    (hm : am_W g d y' (0, am_ent as y'.2.2.1, []) S (am_K g d y pc L rest P)) : am_W g (d + 1) y (pc, L, st) S P :=
  am_callS as rest hd hc hn hst hl hw hm (fun _ _ h => h) (fun _ _ h => am_catNo hh h)
theorem am_cpsV {ix ci n b : Nat} {fs : List Value} (as rest : List Value) (hd : decode y.2.1 pc = .ok (.invokevirtual ix, 3)) (hc : am_cV y.1.cls ix y' ci n) (hh : y.2.2.2.2 = []) (hM : S.1 b = some (.inr (ci, fs))) (hn : as.length = n) (hst : st = as.reverse ++ .ref b :: rest) (hl : (lg_sl (.ref b :: as)).length ≤ y'.2.2.1) (hw : (rest.map fun v => v.category).sum ≤ 8)
    (hm : am_W g d y' (0, am_ent (.ref b :: as) y'.2.2.1, []) S (am_K g d y pc L rest P)) : am_W g (d + 1) y (pc, L, st) S P :=
  am_callV as rest hd hc hM hn hst hl hw hm (fun _ _ h => h) (fun _ _ h => am_catNo hh h)
theorem am_cpsI {ix n b : Nat} (as rest : List Value) (hd : decode y.2.1 pc = .ok (.invokespecial ix, 3)) (hc : am_cI y.1.cls ix y' n) (hh : y.2.2.2.2 = []) (hn : as.length = n) (hst : st = as.reverse ++ .ref b :: rest) (hl : (lg_sl (.ref b :: as)).length ≤ y'.2.2.1) (hw : (rest.map fun v => v.category).sum ≤ 8)
    (hm : am_W g d y' (0, am_ent (.ref b :: as) y'.2.2.1, []) S (am_K g d y pc L rest P)) : am_W g (d + 1) y (pc, L, st) S P :=
  am_callI as rest hd hc hn hst hl hw hm (fun _ _ h => h) (fun _ _ h => am_catNo hh h)
end AmCps
set_option maxHeartbeats 4000000 in
set_option maxRecDepth 100000 in
/-- viewAt -/
theorem c_viewP {g : am_G} {d : Nat} {S : am_S} {lo : Nat} {T : sv_T} {as av : Nat → Nat} (hC : sv_C g lo S T as av) {i : Int32} (hr : sv_R g S 1 6) {P : am_O → am_S → Prop} (no : ¬ sv_iv T i → P (.inr S.2.1) (am_thrown 4 S)) (ok : ∀ j, j < T.nv → i = nI j → P (.inl (some (.ref (av j)))) S) : am_W g d mm_X_viewAt (0, am_ent [.ref g.2.2.1, .int i] 2, []) S P := by
  obtain ⟨qs, qv, fp, fn, fm, ⟨hx, hq1, hq2, h3, h4, h5⟩, hs, hv, i1, i2, hB, hlo, hw⟩ := id hC
  have h80 := hw.2.1
  refine c_viewAt hx hq2 i hr.1 hr.2 (fun h => no (fun q => h.elim (fun h => Int32.not_lt.mpr q.1 h) (fun h => Int32.not_lt.mpr h q.2))) (fun j h1 h2 => ?_)
  have hj : j < T.nv := (nI_ltI h2 (by omega)).mp h1
  exact ⟨av j, (hv j hj).1, by omega, fun e => ok j hj e⟩
set_option maxHeartbeats 4000000 in
set_option maxRecDepth 100000 in
/-- needAxis -/
theorem c_axisP {g : am_G} {d : Nat} {S : am_S} {v st ex sp : Nat} {sa it : Int32} {n : Nat} (hv : S.1 v = some (.inr (1, [.ref st, .int sa, .int (nI n), .int it, .ref ex, .ref sp]))) (h4 : n ≤ 4) {x : Int32} (hr : sv_R g S 1 6) {P : am_O → am_S → Prop} (no : ¬ (0 ≤ x ∧ x < nI n) → P (.inr S.2.1) (am_thrown 4 S)) (ok : ∀ k, k < n → x = nI k → P (.inl none) S) : am_W g d mm_X_needAxis (0, am_ent [.ref v, .int x] 2, []) S P := by
  refine am_mono (fun o S1 h => ?_) (c_needAxis hv x hr.1 hr.2)
  rcases h with ⟨h, rfl, rfl⟩ | ⟨h, rfl, rfl⟩
  · exact no (fun q => h.elim (fun h => Int32.not_lt.mpr q.1 h) (fun h => Int32.not_lt.mpr h q.2))
  · rcases pk_ix x (n := n) (by omega) with h1 | h1 | ⟨k, hk, e⟩
    · exact absurd (Or.inl h1) h
    · exact absurd (Or.inr h1) h
    · exact ok k hk e
set_option maxHeartbeats 4000000 in
set_option maxRecDepth 100000 in
/-- needItem -/
theorem c_itemP {g : am_G} {d : Nat} {S : am_S} {v st ex sp : Nat} {sa xs : Int32} {n : Nat} (hv : S.1 v = some (.inr (1, [.ref st, .int sa, .int xs, .int (nI n), .ref ex, .ref sp]))) (h4 : n ≤ 3000) {x : Int32} (hr : sv_R g S 1 6) {P : am_O → am_S → Prop} (no : ¬ (0 ≤ x ∧ x < nI n) → P (.inr S.2.1) (am_thrown 4 S)) (ok : ∀ k, k < n → x = nI k → P (.inl none) S) : am_W g d mm_X_needItem (0, am_ent [.ref v, .int x] 2, []) S P := by
  refine am_mono (fun o S1 h => ?_) (c_needItem hv x hr.1 hr.2)
  rcases h with ⟨h, rfl, rfl⟩ | ⟨h, rfl, rfl⟩
  · exact no (fun q => h.elim (fun h => Int32.not_lt.mpr q.1 h) (fun h => Int32.not_lt.mpr h q.2))
  · rcases pk_ix x (n := n) (by omega) with h1 | h1 | ⟨k, hk, e⟩
    · exact absurd (Or.inl h1) h
    · exact absurd (Or.inr h1) h
    · exact ok k hk e
set_option maxHeartbeats 4000000 in
set_option maxRecDepth 100000 in
/-- needLane -/
theorem c_laneP {g : am_G} {d : Nat} {S : am_S} {ln : Int32} (hr : sv_R g S 1 6) {P : am_O → am_S → Prop} (no : ¬ (0 ≤ ln ∧ ln ≤ 3) → P (.inr S.2.1) (am_thrown 5 S)) (ok : (0 ≤ ln ∧ ln ≤ 3) → P (.inl none) S) : am_W g d mm_X_needLane (0, am_ent [.int ln] 1, []) S P := by
  refine am_mono (fun o S1 h => ?_) (c_needLane ln hr.1 hr.2)
  rcases h with ⟨h, rfl, rfl⟩ | ⟨h, rfl, rfl⟩
  · exact no (fun q => h.elim (fun h => Int32.not_lt.mpr q.1 h) (fun h => Int32.not_lt.mpr q.2 h))
  · exact ok ⟨Int32.not_lt.mp (fun q => h (Or.inl q)), Int32.not_lt.mp (fun q => h (Or.inr q))⟩
set_option maxHeartbeats 4000000 in
set_option maxRecDepth 100000 in
/-- needFewNumbers -/
theorem c_fewP {g : am_G} {d : Nat} {S : am_S} {n : Nat} (hn : n < 2 ^ 31) (hr : sv_R g S 1 6) {P : am_O → am_S → Prop} (no : ¬ n ≤ 300 → P (.inr S.2.1) (am_thrown 6 S)) (ok : n ≤ 300 → P (.inl none) S) : am_W g d mm_X_needFewNumbers (0, am_ent [.int (nI n)] 1, []) S P := by
  refine am_mono (fun o S1 h => ?_) (c_needFew (nI n) hr.1 hr.2)
  have e : (300 : Int32) = nI 300 := rfl
  rw [e] at h
  rcases h with ⟨h, rfl, rfl⟩ | ⟨h, rfl, rfl⟩
  · exact no (fun q => nI_nlt q (by omega) h)
  · exact ok (Nat.le_of_not_lt (fun q => h (nI_lt q (by omega))))
set_option maxHeartbeats 4000000 in
set_option maxRecDepth 100000 in
/-- needRoomForStore -/
theorem c_roomP {g : am_G} {d : Nat} {S : am_S} {lo : Nat} {T : sv_T} {as av : Nat → Nat} (hC : sv_C g lo S T as av) (hr : sv_R g S 1 6) {P : am_O → am_S → Prop} (no : ¬ (T.ns < 12 ∧ T.nv < 80) → P (.inr S.2.1) (am_thrown 6 S)) (ok : T.ns < 12 → T.nv < 80 → P (.inl none) S) : am_W g d mm_X_needRoomForStore (0, am_ent [.ref g.2.2.1] 1, []) S P := by
  obtain ⟨qs, qv, fp, fn, fm, ⟨hx, hq1, hq2, h3, h4, h5⟩, hs, hv, i1, i2, hB, hlo, hw⟩ := id hC
  have h80 := hw.2.1
  have h12 := hw.1
  refine am_mono (fun o S1 h => ?_) (c_needRoom hx hr.1 hr.2)
  have e : (12 : Int32) = nI 12 := rfl
  have e2 : (80 : Int32) = nI 80 := rfl
  rw [e, e2] at h
  rcases h with ⟨h, rfl, rfl⟩ | ⟨h, rfl, rfl⟩
  · exact no (fun q => h.elim (fun h => nI_ge q.1 (by omega) h) (fun h => nI_ge q.2 (by omega) h))
  · exact ok (Nat.lt_of_not_le (fun q => h (Or.inl (nI_le q (by omega))))) (Nat.lt_of_not_le (fun q => h (Or.inr (nI_le q (by omega)))))
