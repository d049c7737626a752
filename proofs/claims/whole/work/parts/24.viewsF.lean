set_option maxHeartbeats 4000000 in
set_option maxRecDepth 100000 in
/-- the loop of twin -/
theorem c_twin_l {g : am_G} {d : Nat} {S : am_S} {v st : Nat} {sa : Int32} {n : Nat} {it : Int32} {ex sp : Nat} {fe fs : Nat → Int32} (hV : sv_V S.1 v st sa n it ex sp fe fs) {w : Nat} {N : Nat × Nat} (hvw : v < w) (hew : ex < w) (hsw : sp < w) {P : am_O → am_S → Prop} (hP : ∀ (S1 : am_S) (fe1 fs1 : Nat → Int32), sv_V S1.1 w st sa n 0 (w + 1) (w + 2) fe1 fs1 → S1.2 = N → (∀ q, q < w → S1.1 q = S.1 q) → (∀ i, i < n → fe1 i = fe i ∧ fs1 i = fs i) → P (.inl (some (.ref w))) S1) : ∀ (m k : Nat), k + m = n → ∀ (S0 : am_S) (Fe Fs : Nat → Int32), sv_V S0.1 w st sa k 0 (w + 1) (w + 2) Fe Fs → S0.2 = N → (∀ q, q < w → S0.1 q = S.1 q) → (∀ i, i < k → Fe i = fe i ∧ Fs i = fs i) → am_W g (d + 1) mm_V_twin (18, [some (.ref v), some (.ref w), some (.int (nI k))], []) S0 P := by
  obtain ⟨hv0, he0, hs0, hne, hn4⟩ := id hV
  intro m
  induction m using Nat.strongRecOn with
  | ind m ih =>
    intro k hk S0 Fe Fs hW hn0 hfr hI
    have hv := (hfr v hvw).trans hv0
    have he := (hfr ex hew).trans he0
    have hs := (hfr sp hsw).trans hs0
    have hw := hW.1
    refine am_iloadn d_V_twin_18 rfl ?_
    refine am_aloadn d_V_twin_19 rfl ?_
    refine am_get d_V_twin_20 fl_V_26 hv rfl ?_
    refine am_icge (tgt := 49) d_V_twin_23 (by decide) (fun hc => ?_) (fun hc => ?_)
    · have hk0 : n ≤ k := (nI_leI (by omega) (by omega)).mp hc
      obtain rfl : n = k := by omega
      refine am_aloadn d_V_twin_49 rfl ?_
      exact am_aret d_V_twin_50 rfl (hP S0 Fe Fs hW hn0 hfr hI)
    · have hlt : k < n := Nat.lt_of_not_le (fun q => hc (nI_le q (by omega)))
      refine am_aloadn d_V_twin_26 rfl ?_
      refine am_iloadn d_V_twin_27 rfl ?_
      refine am_aloadn d_V_twin_28 rfl ?_
      refine am_get d_V_twin_29 fl_V_9 hv rfl ?_
      refine am_iloadn d_V_twin_32 rfl ?_
      refine am_ialdN (t := 0) (k := k) d_V_twin_33 rfl he (by omega) (by omega) ?_
      refine am_aloadn d_V_twin_34 rfl ?_
      refine am_get d_V_twin_35 fl_V_15 hv rfl ?_
      refine am_iloadn d_V_twin_38 rfl ?_
      refine am_ialdN (t := 0) (k := k) d_V_twin_39 rfl hs (by omega) (by omega) ?_
      refine am_callV [.int (nI k), .int (fe k), .int (fs k)] [] d_V_twin_40 cV_V_35 hw rfl rfl (Nat.le_of_ble_eq_true rfl) (Nat.le_of_ble_eq_true rfl) (c_insert hW (j := k) (fe k) (fs k) (by omega) (Nat.le_refl k) (P := fun o S1 => o = .inl none ∧ ∃ fe1 fs1 : Nat → Int32, sv_V S1.1 w st sa (k + 1) 0 (w + 1) (w + 2) fe1 fs1 ∧ sv_fr S0 S1 w (w + 1) (w + 2) ∧ ∀ i, i < k + 1 → fe1 i = sv_ins Fe k (fe k) i ∧ fs1 i = sv_ins Fs k (fs k) i) (fun S1 fe1 fs1 h1 h2 h3 => ⟨rfl, fe1, fs1, h1, h2, h3⟩)) ?_ ?_
      · intro r1 S1 hr1
        obtain ⟨hr2, fe1, fs1, hW1, hf1, hI1⟩ := hr1
        cases hr2
        show am_W g (d + 1) mm_V_twin (43, [some (.ref v), some (.ref w), some (.int (nI k))], []) S1 _
        refine am_iinc (v := nI (k + 1)) (L' := [some (.ref v), some (.ref w), some (.int (nI (k + 1)))]) d_V_twin_43 rfl (nI_1 k) (by decide) rfl rfl ?_
        refine am_goto (tgt := 18) d_V_twin_46 (by decide) ?_
        refine ih (m - 1) (by omega) (k + 1) (by omega) S1 fe1 fs1 hW1 (hf1.1.trans hn0) (fun q hq => (hf1.2 q (by omega) (by omega) (by omega)).trans (hfr q hq)) (fun i hi => ?_)
        obtain ⟨h5, h6⟩ := hI1 i hi
        rw [h5, h6]
        simp only [sv_ins]
        rcases Nat.lt_or_ge i k with h | h
        · rw [if_pos h, if_pos h]; exact hI i h
        · obtain rfl : i = k := by omega
          simp
      · intro r1 S1 hr1
        cases hr1.1
set_option maxHeartbeats 4000000 in
set_option maxRecDepth 100000 in
/-- twin: a view of the same -/
theorem c_twin {g : am_G} {d : Nat} {S : am_S} {v st : Nat} {sa : Int32} {n : Nat} {it : Int32} {ex sp : Nat} {fe fs : Nat → Int32} (hV : sv_V S.1 v st sa n it ex sp fe fs) (hvl : v < S.2.1) (hel : ex < S.2.1) (hsl : sp < S.2.1) (hr1 : S.2.1 + 3 ≤ g.2.2.2.1) (hr2 : S.2.2 + 14 ≤ g.2.2.2.2.1) {P : am_O → am_S → Prop} (hP : ∀ (S1 : am_S) (fe1 fs1 : Nat → Int32), sv_V S1.1 S.2.1 st sa n 0 (S.2.1 + 1) (S.2.1 + 2) fe1 fs1 → S1.2 = (S.2.1 + 3, S.2.2 + 14) → (∀ q, q < S.2.1 → S1.1 q = S.1 q) → (∀ i, i < n → fe1 i = fe i ∧ fs1 i = fs i) → P (.inl (some (.ref S.2.1))) S1) : am_W g (d + 1) mm_V_twin (0, am_ent [.ref v] 3, []) S (P) := by
  obtain ⟨hv, he, hs, hne, hn4⟩ := id hV
  show am_W g (d + 1) mm_V_twin (0, [some (.ref v), none, none], []) S _
  have hfr0 : ∀ q : Nat, q < S.2.1 → S.1 q = S.1 q := fun _ _ => rfl
  obtain ⟨a_1, ea_1⟩ : ∃ z : Nat, z = S.2.1 := ⟨_, rfl⟩
  refine am_new d_V_twin_0 nw_V_10 (by omega) (by simp only [List.length]; omega) ?_
  change am_W _ _ _ (_, _, .ref S.2.1 :: _) (am_up S.1 S.2.1 (.inr (1, [.null, .int 0, .int 0, .int 0, .null, .null])), S.2.1 + 1, S.2.2 + 6) _
  rw [← ea_1]
  obtain ⟨S_2, eS_2⟩ : ∃ z : am_S, z = (am_up S.1 a_1 (.inr (1, [.null, .int 0, .int 0, .int 0, .null, .null])), a_1 + 1, S.2.2 + 6) := ⟨_, rfl⟩
  rw [← eS_2]
  have h_3 : S_2.1 v = some (.inr (1, [.ref st, .int sa, .int (nI n), .int it, .ref ex, .ref sp])) := by rw [eS_2]; exact (am_up_n (by omega)).trans hv
  have h_4 : S_2.1 ex = some (.inl (0, 4, .inl fe)) := by rw [eS_2]; exact (am_up_n (by omega)).trans he
  have h_5 : S_2.1 sp = some (.inl (0, 4, .inl fs)) := by rw [eS_2]; exact (am_up_n (by omega)).trans hs
  have hf_6 : ∀ q : Nat, q < S.2.1 → S_2.1 q = S.1 q := by rw [eS_2]; exact fun q h1 => (am_up_n (by omega)).trans (hfr0 q h1)
  have h_7 : S_2.1 a_1 = some (.inr (1, [.null, .int 0, .int 0, .int 0, .null, .null])) := by rw [eS_2]; exact am_up_s
  have hna_1 : S_2.2.1 = a_1 + 1 := by rw [eS_2]
  have hza_1 : S_2.2.2 = S.2.2 + 6 := by rw [eS_2]
  refine am_dup d_V_twin_3 rfl ?_
  refine am_aloadn d_V_twin_4 rfl ?_
  refine am_get d_V_twin_5 fl_V_18 h_3 rfl ?_
  refine am_aloadn d_V_twin_8 rfl ?_
  refine am_get d_V_twin_9 fl_V_22 h_3 rfl ?_
  have hnw : S_2.2.1 = a_1 + 1 := hna_1
  refine am_callI [.ref st, .int sa] [.ref a_1] d_V_twin_12 cI_V_32 rfl rfl (Nat.le_of_ble_eq_true rfl) (Nat.le_of_ble_eq_true rfl) (c_Vinit h_7 (by omega) (by omega) (by omega) (P := fun o S1 => o = .inl none ∧ S1.1 a_1 = some (.inr (1, [.ref st, .int sa, .int 0, .int 0, .ref (a_1 + 1), .ref (a_1 + 1 + 1)])) ∧ S1.1 (a_1 + 1) = some (.inl (0, 4, .inl (fun _ => 0))) ∧ S1.1 (a_1 + 1 + 1) = some (.inl (0, 4, .inl (fun _ => 0))) ∧ S1.2 = (a_1 + 3, S.2.2 + 14) ∧ ∀ q, q < a_1 → S1.1 q = S.1 q) (fun S1 h1 h2 h3 h4 h5 => by rw [hnw] at h1 h2 h3 h4 h5; rw [hza_1] at h4; exact ⟨rfl, h1, h2, h3, h4.trans (by rw [Nat.add_assoc, Nat.add_assoc]), fun q hq => (h5 q (by omega) (by omega)).trans (hf_6 q (by omega))⟩)) ?_ ?_
  · intro r1 S1 hr1
    obtain ⟨hr2, g1, g2, g3, g4, g5⟩ := hr1
    cases hr2
    show am_W g (d + 1) mm_V_twin (15, [some (.ref v), none, none], [.ref a_1]) S1 _
    have hN : S1.2 = (a_1 + 3, S.2.2 + 14) := g4
    refine am_astoren (L' := [some (.ref v), some (.ref a_1), none]) d_V_twin_15 (by decide) rfl rfl ?_
    refine am_iconst 0 d_V_twin_16 (by decide) ?_
    refine am_istoren (L' := [some (.ref v), some (.ref a_1), some (.int 0)]) d_V_twin_17 (by decide) rfl rfl ?_
    refine c_twin_l hV (w := a_1) (by omega) (by omega) (by omega) (N := (a_1 + 3, S.2.2 + 14)) (fun S2 fe1 fs1 q1 q2 q3 q4 => ?_) n 0 (by omega) S1 (fun _ => 0) (fun _ => 0) ⟨g1, g2, g3, by omega, by omega⟩ hN g5 (fun i hi => absurd hi (Nat.not_lt_zero i))
    rw [ea_1] at q1 q2 q3 ⊢
    exact hP S2 fe1 fs1 q1 q2 q3 q4
  · intro r1 S1 hr1
    cases hr1.1
