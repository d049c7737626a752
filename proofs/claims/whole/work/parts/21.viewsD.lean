theorem sv_ins_end {fe fs Fe Fs : Nat → Int32} {j i : Nat} {xe xp : Int32} (h : Fe i = (if i ≤ j then fe i else fe (i - 1)) ∧ Fs i = (if i ≤ j then fs i else fs (i - 1))) (_ : 0 < 1) : (upd Fe j xe) i = sv_ins fe j xe i ∧ (upd Fs j xp) i = sv_ins fs j xp i := by
  by_cases hij : i = j
  · subst hij
    have a1 : sv_ins fe i xe i = xe := by simp [sv_ins]
    have a2 : sv_ins fs i xp i = xp := by simp [sv_ins]
    rw [a1, a2]
    exact ⟨pk_us, pk_us⟩
  · have h7 : (upd Fe j xe) i = Fe i := pk_un hij
    have h8 : (upd Fs j xp) i = Fs i := pk_un hij
    rw [h7, h8, h.1, h.2]
    simp only [sv_ins]
    rcases Nat.lt_or_ge i j with hl | hl
    · rw [if_pos (by omega), if_pos (by omega), if_pos (by omega), if_pos (by omega)]; exact ⟨rfl, rfl⟩
    · rw [if_neg (by omega), if_neg (by omega), if_neg (by omega), if_neg (by omega), if_neg (by omega), if_neg (by omega)]; exact ⟨rfl, rfl⟩
set_option maxHeartbeats 4000000 in
set_option maxRecDepth 100000 in
/-- the loop of insert -/
theorem c_insert_l {g : am_G} {d : Nat} {S : am_S} {v st : Nat} {sa : Int32} {n : Nat} {it : Int32} {ex sp : Nat} {fe fs : Nat → Int32} (hV : sv_V S.1 v st sa n it ex sp fe fs) {j : Nat} {xe xp : Int32} (hn3 : n < 4) {P : am_O → am_S → Prop} (hP : ∀ (S1 : am_S) (fe1 fs1 : Nat → Int32), sv_V S1.1 v st sa (n + 1) it ex sp fe1 fs1 → sv_fr S S1 v ex sp → (∀ i, i < n + 1 → fe1 i = sv_ins fe j xe i ∧ fs1 i = sv_ins fs j xp i) → P (.inl none) S1) : ∀ (k : Nat), j ≤ k → k ≤ n → k < 4 → ∀ (S0 : am_S) (Fe Fs : Nat → Int32), sv_V S0.1 v st sa n it ex sp Fe Fs → sv_fr S S0 v ex sp → (∀ i, i < n + 1 → Fe i = (if i ≤ k then fe i else fe (i - 1)) ∧ Fs i = (if i ≤ k then fs i else fs (i - 1))) → am_W g d mm_V_insert (6, [some (.ref v), some (.int (nI j)), some (.int xe), some (.int xp), some (.int (nI k))], []) S0 P := by
  intro k
  induction k using Nat.strongRecOn with
  | ind k ih =>
    intro hjk hkn hk4 S0 Fe Fs hV hfr hI
    obtain ⟨hv, he, hs, hne, hn4⟩ := id hV
    refine am_iload d_V_insert_6 rfl ?_
    refine am_iloadn d_V_insert_8 rfl ?_
    refine am_icle (tgt := 50) d_V_insert_9 (by decide) (fun hc => ?_) (fun hc => ?_)
    · have hk0 : k ≤ j := (nI_leI (by omega) (by omega)).mp hc
      obtain rfl : j = k := by omega
      refine am_aloadn d_V_insert_50 rfl ?_
      refine am_get d_V_insert_51 fl_V_9 hv rfl ?_
      refine am_iloadn d_V_insert_54 rfl ?_
      refine am_iloadn d_V_insert_55 rfl ?_
      refine am_iastN (t := 0) d_V_insert_56 rfl he (by omega) (by omega) ?_
      obtain ⟨S_1, eS_1⟩ : ∃ z : am_S, z = (am_up S0.1 ex (.inl (0, 4, .inl (upd Fe j xe))), S0.2) := ⟨_, rfl⟩
      change am_W _ _ _ _ (am_up S0.1 ex (.inl (0, 4, .inl (upd Fe j xe))), S0.2) _
      rw [← eS_1]
      have h_2 : S_1.1 v = some (.inr (1, [.ref st, .int sa, .int (nI n), .int it, .ref ex, .ref sp])) := by rw [eS_1]; exact (am_up_n hV.ne.1).trans hv
      have h_3 : S_1.1 sp = some (.inl (0, 4, .inl Fs)) := by rw [eS_1]; exact (am_up_n hne.symm).trans hs
      have hf_4 : sv_fr S S_1 v ex sp := by rw [eS_1]; exact hfr.u2
      have h_5 : S_1.1 ex = some (.inl (0, 4, .inl (upd Fe j xe))) := by rw [eS_1]; exact am_up_s
      have hn_6 : S_1.2 = S0.2 := by rw [eS_1]
      refine am_aloadn d_V_insert_57 rfl ?_
      refine am_get d_V_insert_58 fl_V_15 h_2 rfl ?_
      refine am_iloadn d_V_insert_61 rfl ?_
      refine am_iloadn d_V_insert_62 rfl ?_
      refine am_iastN (t := 0) d_V_insert_63 rfl h_3 (by omega) (by omega) ?_
      obtain ⟨S_7, eS_7⟩ : ∃ z : am_S, z = (am_up S_1.1 sp (.inl (0, 4, .inl (upd Fs j xp))), S_1.2) := ⟨_, rfl⟩
      change am_W _ _ _ _ (am_up S_1.1 sp (.inl (0, 4, .inl (upd Fs j xp))), S_1.2) _
      rw [← eS_7]
      have h_8 : S_7.1 v = some (.inr (1, [.ref st, .int sa, .int (nI n), .int it, .ref ex, .ref sp])) := by rw [eS_7]; exact (am_up_n hV.ne.2).trans h_2
      have h_9 : S_7.1 ex = some (.inl (0, 4, .inl (upd Fe j xe))) := by rw [eS_7]; exact (am_up_n hne).trans h_5
      have hf_10 : sv_fr S S_7 v ex sp := by rw [eS_7]; exact hf_4.u3
      have h_11 : S_7.1 sp = some (.inl (0, 4, .inl (upd Fs j xp))) := by rw [eS_7]; exact am_up_s
      have hn_12 : S_7.2 = S_1.2 := by rw [eS_7]
      refine am_aloadn d_V_insert_64 rfl ?_
      refine am_dup d_V_insert_65 rfl ?_
      refine am_get d_V_insert_66 fl_V_26 h_8 rfl ?_
      refine am_iconst 1 d_V_insert_69 (by decide) ?_
      refine am_iadd d_V_insert_70 ?_
      refine am_ti (b := nI (n + 1)) (nI_1 n) ?_
      refine am_put d_V_insert_71 fp_V_26 h_8 rfl rfl (Nat.le_of_ble_eq_true rfl) ?_
      obtain ⟨S_25, eS_25⟩ : ∃ z : am_S, z = (am_up S_7.1 v (.inr (1, [.ref st, .int sa, .int (nI (n + 1)), .int it, .ref ex, .ref sp])), S_7.2) := ⟨_, rfl⟩
      change am_W _ _ _ _ (am_up S_7.1 v (.inr (1, [.ref st, .int sa, .int (nI (n + 1)), .int it, .ref ex, .ref sp])), S_7.2) _
      rw [← eS_25]
      have h_26 : S_25.1 ex = some (.inl (0, 4, .inl (upd Fe j xe))) := by rw [eS_25]; exact (am_up_n hV.ne.1.symm).trans h_9
      have h_27 : S_25.1 sp = some (.inl (0, 4, .inl (upd Fs j xp))) := by rw [eS_25]; exact (am_up_n hV.ne.2.symm).trans h_11
      have hf_28 : sv_fr S S_25 v ex sp := by rw [eS_25]; exact hf_10.u1
      have h_29 : S_25.1 v = some (.inr (1, [.ref st, .int sa, .int (nI (n + 1)), .int it, .ref ex, .ref sp])) := by rw [eS_25]; exact am_up_s
      have hn_30 : S_25.2 = S_7.2 := by rw [eS_25]
      exact am_vret d_V_insert_74 rfl (hP _ _ _ ⟨h_29, h_26, h_27, hne, by omega⟩ hf_28 (fun i hi => sv_ins_end (hI i (by omega)) (by omega)))
    · have hlt : j < k := Nat.lt_of_not_le (fun q => hc (nI_le q (by omega)))
      refine am_aloadn d_V_insert_12 rfl ?_
      refine am_get d_V_insert_13 fl_V_9 hv rfl ?_
      refine am_iload d_V_insert_16 rfl ?_
      refine am_aloadn d_V_insert_18 rfl ?_
      refine am_get d_V_insert_19 fl_V_9 hv rfl ?_
      refine am_iload d_V_insert_22 rfl ?_
      refine am_iconst 1 d_V_insert_24 (by decide) ?_
      refine am_isub d_V_insert_25 ?_
      refine am_ti (b := nI (k - 1)) (nI_m1N (by omega)) ?_
      refine am_ialdN (t := 0) (k := k - 1) d_V_insert_26 rfl he (by omega) (by omega) ?_
      refine am_iastN (t := 0) d_V_insert_27 rfl he (by omega) (by omega) ?_
      obtain ⟨S_13, eS_13⟩ : ∃ z : am_S, z = (am_up S0.1 ex (.inl (0, 4, .inl (upd Fe k (Fe (k - 1))))), S0.2) := ⟨_, rfl⟩
      change am_W _ _ _ _ (am_up S0.1 ex (.inl (0, 4, .inl (upd Fe k (Fe (k - 1))))), S0.2) _
      rw [← eS_13]
      have h_14 : S_13.1 v = some (.inr (1, [.ref st, .int sa, .int (nI n), .int it, .ref ex, .ref sp])) := by rw [eS_13]; exact (am_up_n hV.ne.1).trans hv
      have h_15 : S_13.1 sp = some (.inl (0, 4, .inl Fs)) := by rw [eS_13]; exact (am_up_n hne.symm).trans hs
      have hf_16 : sv_fr S S_13 v ex sp := by rw [eS_13]; exact hfr.u2
      have h_17 : S_13.1 ex = some (.inl (0, 4, .inl (upd Fe k (Fe (k - 1))))) := by rw [eS_13]; exact am_up_s
      have hn_18 : S_13.2 = S0.2 := by rw [eS_13]
      refine am_aloadn d_V_insert_28 rfl ?_
      refine am_get d_V_insert_29 fl_V_15 h_14 rfl ?_
      refine am_iload d_V_insert_32 rfl ?_
      refine am_aloadn d_V_insert_34 rfl ?_
      refine am_get d_V_insert_35 fl_V_15 h_14 rfl ?_
      refine am_iload d_V_insert_38 rfl ?_
      refine am_iconst 1 d_V_insert_40 (by decide) ?_
      refine am_isub d_V_insert_41 ?_
      refine am_ti (b := nI (k - 1)) (nI_m1N (by omega)) ?_
      refine am_ialdN (t := 0) (k := k - 1) d_V_insert_42 rfl h_15 (by omega) (by omega) ?_
      refine am_iastN (t := 0) d_V_insert_43 rfl h_15 (by omega) (by omega) ?_
      obtain ⟨S_19, eS_19⟩ : ∃ z : am_S, z = (am_up S_13.1 sp (.inl (0, 4, .inl (upd Fs k (Fs (k - 1))))), S_13.2) := ⟨_, rfl⟩
      change am_W _ _ _ _ (am_up S_13.1 sp (.inl (0, 4, .inl (upd Fs k (Fs (k - 1))))), S_13.2) _
      rw [← eS_19]
      have h_20 : S_19.1 v = some (.inr (1, [.ref st, .int sa, .int (nI n), .int it, .ref ex, .ref sp])) := by rw [eS_19]; exact (am_up_n hV.ne.2).trans h_14
      have h_21 : S_19.1 ex = some (.inl (0, 4, .inl (upd Fe k (Fe (k - 1))))) := by rw [eS_19]; exact (am_up_n hne).trans h_17
      have hf_22 : sv_fr S S_19 v ex sp := by rw [eS_19]; exact hf_16.u3
      have h_23 : S_19.1 sp = some (.inl (0, 4, .inl (upd Fs k (Fs (k - 1))))) := by rw [eS_19]; exact am_up_s
      have hn_24 : S_19.2 = S_13.2 := by rw [eS_19]
      refine am_iinc (v := nI (k - 1)) (L' := [some (.ref v), some (.int (nI j)), some (.int xe), some (.int xp), some (.int (nI (k - 1)))]) d_V_insert_44 rfl (nI_d1N (by omega)) (by decide) rfl rfl ?_
      refine am_goto (tgt := 6) d_V_insert_47 (by decide) ?_
      refine ih (k - 1) (by omega) (by omega) (by omega) (by omega) _ _ _ ⟨h_20, h_21, h_23, hne, hn4⟩ hf_22 (fun i hi => ?_)
      have hi0 := hI i hi
      have hi1 := hI (k - 1) (by omega)
      rw [if_pos (by omega), if_pos (by omega)] at hi1
      by_cases hik : i = k
      · subst hik
        rw [if_neg (by omega), if_neg (by omega)]
        exact ⟨pk_us.trans hi1.1, pk_us.trans hi1.2⟩
      · have h7 : (upd Fe k (Fe (k - 1))) i = Fe i := pk_un hik
        have h8 : (upd Fs k (Fs (k - 1))) i = Fs i := pk_un hik
        rw [h7, h8, hi0.1, hi0.2]
        rcases Nat.lt_or_ge i k with h | h
        · rw [if_pos (by omega), if_pos (by omega), if_pos (by omega), if_pos (by omega)]; exact ⟨rfl, rfl⟩
        · rw [if_neg (by omega), if_neg (by omega), if_neg (by omega), if_neg (by omega)]; exact ⟨rfl, rfl⟩
set_option maxHeartbeats 4000000 in
set_option maxRecDepth 100000 in
/-- insert: an axis more -/
theorem c_insert {g : am_G} {d : Nat} {S : am_S} {v st : Nat} {sa : Int32} {n : Nat} {it : Int32} {ex sp : Nat} {fe fs : Nat → Int32} (hV : sv_V S.1 v st sa n it ex sp fe fs) {j : Nat} (xe xp : Int32) (hn3 : n < 4) (hj : j ≤ n) {P : am_O → am_S → Prop} (hP : ∀ (S1 : am_S) (fe1 fs1 : Nat → Int32), sv_V S1.1 v st sa (n + 1) it ex sp fe1 fs1 → sv_fr S S1 v ex sp → (∀ i, i < n + 1 → fe1 i = sv_ins fe j xe i ∧ fs1 i = sv_ins fs j xp i) → P (.inl none) S1) : am_W g d mm_V_insert (0, am_ent [.ref v, .int (nI j), .int xe, .int xp] 5, []) S (P) := by
  obtain ⟨hv, he, hs, hne, hn4⟩ := id hV
  show am_W g d mm_V_insert (0, [some (.ref v), some (.int (nI j)), some (.int xe), some (.int xp), none], []) S _
  refine am_aloadn d_V_insert_0 rfl ?_
  refine am_get d_V_insert_1 fl_V_26 hv rfl ?_
  refine am_istore (L' := [some (.ref v), some (.int (nI j)), some (.int xe), some (.int xp), some (.int (nI n))]) d_V_insert_4 (by decide) rfl rfl ?_
  exact c_insert_l hV hn3 hP n hj (Nat.le_refl n) hn3 S fe fs hV sv_fr.rf (fun i hi => by rw [if_pos (by omega), if_pos (by omega)]; exact ⟨rfl, rfl⟩)
set_option maxHeartbeats 4000000 in
set_option maxRecDepth 100000 in
/-- the loop of remove -/
theorem c_remove_l {g : am_G} {d : Nat} {S : am_S} {v st : Nat} {sa : Int32} {n : Nat} {it : Int32} {ex sp : Nat} {fe fs : Nat → Int32} {j : Nat} (hj : j ≤ n) (hn3 : n < 4) {P : am_O → am_S → Prop} (hP : ∀ (S1 : am_S) (fe1 fs1 : Nat → Int32), sv_V S1.1 v st sa n it ex sp fe1 fs1 → sv_fr S S1 v ex sp → (∀ i, i < n → fe1 i = sv_rem fe j i ∧ fs1 i = sv_rem fs j i) → P (.inl none) S1) : ∀ (m k : Nat), k + m = n → j ≤ k → ∀ (S0 : am_S) (Fe Fs : Nat → Int32), sv_V S0.1 v st sa n it ex sp Fe Fs → sv_fr S S0 v ex sp → (∀ i, i < n + 1 → Fe i = (if i < k then sv_rem fe j i else fe i) ∧ Fs i = (if i < k then sv_rem fs j i else fs i)) → am_W g d mm_V_remove (12, [some (.ref v), some (.int (nI j)), some (.int (nI k))], []) S0 P := by
  intro m
  induction m using Nat.strongRecOn with
  | ind m ih =>
    intro k hk hjk S0 Fe Fs hV hfr hI
    obtain ⟨hv, he, hs, hne, hn4⟩ := id hV
    refine am_iloadn d_V_remove_12 rfl ?_
    refine am_aloadn d_V_remove_13 rfl ?_
    refine am_get d_V_remove_14 fl_V_26 hv rfl ?_
    refine am_icge (tgt := 54) d_V_remove_17 (by decide) (fun hc => ?_) (fun hc => ?_)
    · have hk0 : n ≤ k := (nI_leI (by omega) (by omega)).mp hc
      exact am_vret d_V_remove_54 rfl (hP S0 Fe Fs hV hfr (fun i hi => ⟨((hI i (by omega)).1.trans (by rw [if_pos (by omega)])), ((hI i (by omega)).2.trans (by rw [if_pos (by omega)]))⟩))
    · have hlt : k < n := Nat.lt_of_not_le (fun q => hc (nI_le q (by omega)))
      refine am_aloadn d_V_remove_20 rfl ?_
      refine am_get d_V_remove_21 fl_V_9 hv rfl ?_
      refine am_iloadn d_V_remove_24 rfl ?_
      refine am_aloadn d_V_remove_25 rfl ?_
      refine am_get d_V_remove_26 fl_V_9 hv rfl ?_
      refine am_iloadn d_V_remove_29 rfl ?_
      refine am_iconst 1 d_V_remove_30 (by decide) ?_
      refine am_iadd d_V_remove_31 ?_
      refine am_ti (b := nI (k + 1)) (nI_1 k) ?_
      refine am_ialdN (t := 0) (k := k + 1) d_V_remove_32 rfl he (by omega) (by omega) ?_
      refine am_iastN (t := 0) d_V_remove_33 rfl he (by omega) (by omega) ?_
      obtain ⟨S_1, eS_1⟩ : ∃ z : am_S, z = (am_up S0.1 ex (.inl (0, 4, .inl (upd Fe k (Fe (k + 1))))), S0.2) := ⟨_, rfl⟩
      change am_W _ _ _ _ (am_up S0.1 ex (.inl (0, 4, .inl (upd Fe k (Fe (k + 1))))), S0.2) _
      rw [← eS_1]
      have h_2 : S_1.1 v = some (.inr (1, [.ref st, .int sa, .int (nI n), .int it, .ref ex, .ref sp])) := by rw [eS_1]; exact (am_up_n hV.ne.1).trans hv
      have h_3 : S_1.1 sp = some (.inl (0, 4, .inl Fs)) := by rw [eS_1]; exact (am_up_n hne.symm).trans hs
      have hf_4 : sv_fr S S_1 v ex sp := by rw [eS_1]; exact hfr.u2
      have h_5 : S_1.1 ex = some (.inl (0, 4, .inl (upd Fe k (Fe (k + 1))))) := by rw [eS_1]; exact am_up_s
      have hn_6 : S_1.2 = S0.2 := by rw [eS_1]
      refine am_aloadn d_V_remove_34 rfl ?_
      refine am_get d_V_remove_35 fl_V_15 h_2 rfl ?_
      refine am_iloadn d_V_remove_38 rfl ?_
      refine am_aloadn d_V_remove_39 rfl ?_
      refine am_get d_V_remove_40 fl_V_15 h_2 rfl ?_
      refine am_iloadn d_V_remove_43 rfl ?_
      refine am_iconst 1 d_V_remove_44 (by decide) ?_
      refine am_iadd d_V_remove_45 ?_
      refine am_ti (b := nI (k + 1)) (nI_1 k) ?_
      refine am_ialdN (t := 0) (k := k + 1) d_V_remove_46 rfl h_3 (by omega) (by omega) ?_
      refine am_iastN (t := 0) d_V_remove_47 rfl h_3 (by omega) (by omega) ?_
      obtain ⟨S_7, eS_7⟩ : ∃ z : am_S, z = (am_up S_1.1 sp (.inl (0, 4, .inl (upd Fs k (Fs (k + 1))))), S_1.2) := ⟨_, rfl⟩
      change am_W _ _ _ _ (am_up S_1.1 sp (.inl (0, 4, .inl (upd Fs k (Fs (k + 1))))), S_1.2) _
      rw [← eS_7]
      have h_8 : S_7.1 v = some (.inr (1, [.ref st, .int sa, .int (nI n), .int it, .ref ex, .ref sp])) := by rw [eS_7]; exact (am_up_n hV.ne.2).trans h_2
      have h_9 : S_7.1 ex = some (.inl (0, 4, .inl (upd Fe k (Fe (k + 1))))) := by rw [eS_7]; exact (am_up_n hne).trans h_5
      have hf_10 : sv_fr S S_7 v ex sp := by rw [eS_7]; exact hf_4.u3
      have h_11 : S_7.1 sp = some (.inl (0, 4, .inl (upd Fs k (Fs (k + 1))))) := by rw [eS_7]; exact am_up_s
      have hn_12 : S_7.2 = S_1.2 := by rw [eS_7]
      refine am_iinc (v := nI (k + 1)) (L' := [some (.ref v), some (.int (nI j)), some (.int (nI (k + 1)))]) d_V_remove_48 rfl (nI_1 k) (by decide) rfl rfl ?_
      refine am_goto (tgt := 12) d_V_remove_51 (by decide) ?_
      refine ih (m - 1) (by omega) (k + 1) (by omega) (by omega) _ _ _ ⟨h_8, h_9, h_11, hne, hn4⟩ hf_10 (fun i hi => ?_)
      have hi0 := hI i hi
      have hi1 := hI (k + 1) (by omega)
      rw [if_neg (by omega), if_neg (by omega)] at hi1
      by_cases hik : i = k
      · subst hik
        rw [if_pos (by omega), if_pos (by omega)]
        have h5 : sv_rem fe j i = fe (i + 1) := by simp only [sv_rem]; rw [if_neg (by omega)]
        have h6 : sv_rem fs j i = fs (i + 1) := by simp only [sv_rem]; rw [if_neg (by omega)]
        rw [h5, h6]
        exact ⟨pk_us.trans hi1.1, pk_us.trans hi1.2⟩
      · have h7 : (upd Fe k (Fe (k + 1))) i = Fe i := pk_un hik
        have h8 : (upd Fs k (Fs (k + 1))) i = Fs i := pk_un hik
        rw [h7, h8, hi0.1, hi0.2]
        rcases Nat.lt_or_ge i k with h | h
        · rw [if_pos (by omega), if_pos (by omega), if_pos (by omega), if_pos (by omega)]; exact ⟨rfl, rfl⟩
        · rw [if_neg (by omega), if_neg (by omega), if_neg (by omega), if_neg (by omega)]; exact ⟨rfl, rfl⟩
set_option maxHeartbeats 4000000 in
set_option maxRecDepth 100000 in
/-- remove: an axis less -/
theorem c_remove {g : am_G} {d : Nat} {S : am_S} {v st : Nat} {sa : Int32} {n : Nat} {it : Int32} {ex sp : Nat} {fe fs : Nat → Int32} (hV : sv_V S.1 v st sa (n + 1) it ex sp fe fs) {j : Nat} (hj : j ≤ n) {P : am_O → am_S → Prop} (hP : ∀ (S1 : am_S) (fe1 fs1 : Nat → Int32), sv_V S1.1 v st sa n it ex sp fe1 fs1 → sv_fr S S1 v ex sp → (∀ i, i < n → fe1 i = sv_rem fe j i ∧ fs1 i = sv_rem fs j i) → P (.inl none) S1) : am_W g d mm_V_remove (0, am_ent [.ref v, .int (nI j)] 3, []) S (P) := by
  obtain ⟨hv, he, hs, hne, hn4⟩ := id hV
  show am_W g d mm_V_remove (0, [some (.ref v), some (.int (nI j)), none], []) S _
  refine am_aloadn d_V_remove_0 rfl ?_
  refine am_dup d_V_remove_1 rfl ?_
  refine am_get d_V_remove_2 fl_V_26 hv rfl ?_
  refine am_iconst 1 d_V_remove_5 (by decide) ?_
  refine am_isub d_V_remove_6 ?_
  refine am_ti (b := nI n) (nI_pred n) ?_
  refine am_put d_V_remove_7 fp_V_26 hv rfl rfl (Nat.le_of_ble_eq_true rfl) ?_
  obtain ⟨S_1, eS_1⟩ : ∃ z : am_S, z = (am_up S.1 v (.inr (1, [.ref st, .int sa, .int (nI n), .int it, .ref ex, .ref sp])), S.2) := ⟨_, rfl⟩
  change am_W _ _ _ _ (am_up S.1 v (.inr (1, [.ref st, .int sa, .int (nI n), .int it, .ref ex, .ref sp])), S.2) _
  rw [← eS_1]
  have h_2 : S_1.1 ex = some (.inl (0, 4, .inl fe)) := by rw [eS_1]; exact (am_up_n hV.ne.1.symm).trans he
  have h_3 : S_1.1 sp = some (.inl (0, 4, .inl fs)) := by rw [eS_1]; exact (am_up_n hV.ne.2.symm).trans hs
  have hf_4 : sv_fr S S_1 v ex sp := by rw [eS_1]; exact sv_fr.rf.u1
  have h_5 : S_1.1 v = some (.inr (1, [.ref st, .int sa, .int (nI n), .int it, .ref ex, .ref sp])) := by rw [eS_1]; exact am_up_s
  have hn_6 : S_1.2 = S.2 := by rw [eS_1]
  refine am_iloadn d_V_remove_10 rfl ?_
  refine am_istoren (L' := [some (.ref v), some (.int (nI j)), some (.int (nI j))]) d_V_remove_11 (by decide) rfl rfl ?_
  refine c_remove_l hj (by omega) hP (n - j) j (by omega) (Nat.le_refl j) _ fe fs ⟨h_5, h_2, h_3, hne, by omega⟩ hf_4 (fun i hi => ?_)
  rcases Nat.lt_or_ge i j with h | h
  · have h5 : sv_rem fe j i = fe i := by simp only [sv_rem]; rw [if_pos h]
    have h6 : sv_rem fs j i = fs i := by simp only [sv_rem]; rw [if_pos h]
    rw [if_pos h, if_pos h, h5, h6]; exact ⟨rfl, rfl⟩
  · rw [if_neg (by omega), if_neg (by omega)]; exact ⟨rfl, rfl⟩
