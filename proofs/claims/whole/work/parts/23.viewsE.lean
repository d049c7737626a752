theorem sv_ifc {α : Type} {p q : Prop} [Decidable p] [Decidable q] {a b : α} (h : p ↔ q) : (if p then a else b) = (if q then a else b) := by
  by_cases hp : p
  · rw [if_pos hp, if_pos (h.mp hp)]
  · rw [if_neg hp, if_neg (fun z => hp (h.mpr z))]
set_option maxHeartbeats 4000000 in
set_option maxRecDepth 100000 in
/-- the loop of settle -/
theorem c_settle_l {g : am_G} {d : Nat} {S : am_S} {v st : Nat} {sa : Int32} {n : Nat} {ex sp : Nat} {fe fs : Nat → Int32} (F : Nat → Nat) (hF : ∀ k, k < n → fe k = nI (F k)) (hO : sv_ok F n) (q : Nat) (hq : q < 2 ^ 31) {P : am_O → am_S → Prop} (hP : ∀ (S1 : am_S) (fs1 : Nat → Int32), sv_V S1.1 v st (if q = 0 then 0 else sa) n (nI q) ex sp fe fs1 → sv_fr S S1 v ex sp → (∀ i, i < n → fs1 i = if (q = 0 ∨ F i < 2) then 0 else fs i) → P (.inl none) S1) : ∀ (m k : Nat), k + m = n → ∀ (S0 : am_S) (Fs : Nat → Int32), sv_V S0.1 v st sa n (nI q) ex sp fe Fs → sv_fr S S0 v ex sp → (∀ i, i < n → Fs i = if (i < k ∧ (q = 0 ∨ F i < 2)) then 0 else fs i) → am_W g d mm_V_settle (11, [some (.ref v), some (.int (nI k))], []) S0 P := by
  intro m
  induction m using Nat.strongRecOn with
  | ind m ih =>
    intro k hk S0 Fs hV hfr hI
    obtain ⟨hv, he, hs, hne, hn4⟩ := id hV
    refine am_iloadn d_V_settle_11 rfl ?_
    refine am_aloadn d_V_settle_12 rfl ?_
    refine am_get d_V_settle_13 fl_V_26 hv rfl ?_
    refine am_icge (tgt := 49) d_V_settle_16 (by decide) (fun hc => ?_) (fun hc => ?_)
    · have hk0 : n ≤ k := (nI_leI (by omega) (by omega)).mp hc
      refine am_aloadn d_V_settle_49 rfl ?_
      refine am_get d_V_settle_50 fl_V_29 hv rfl ?_
      refine am_ifne (tgt := 61) d_V_settle_53 (by decide) (fun hz => ?_) (fun hz => ?_)
      · have hq0 : ¬ q = 0 := fun h => hz (by rw [h]; exact nI_0)
        exact am_vret d_V_settle_61 rfl (hP S0 Fs (by rw [if_neg hq0]; exact hV) hfr (fun i hi => (hI i hi).trans (sv_ifc (and_iff_right (by omega)))))
      · have hq0 : q = 0 := (nI_eq hq (by decide)).mp (hz.trans nI_0.symm)
        refine am_aloadn d_V_settle_56 rfl ?_
        refine am_iconst 0 d_V_settle_57 (by decide) ?_
        refine am_put d_V_settle_58 fp_V_22 hv rfl rfl (Nat.le_of_ble_eq_true rfl) ?_
        obtain ⟨S_1, eS_1⟩ : ∃ z : am_S, z = (am_up S0.1 v (.inr (1, [.ref st, .int 0, .int (nI n), .int (nI q), .ref ex, .ref sp])), S0.2) := ⟨_, rfl⟩
        change am_W _ _ _ _ (am_up S0.1 v (.inr (1, [.ref st, .int 0, .int (nI n), .int (nI q), .ref ex, .ref sp])), S0.2) _
        rw [← eS_1]
        have h_2 : S_1.1 ex = some (.inl (0, 4, .inl fe)) := by rw [eS_1]; exact (am_up_n hV.ne.1.symm).trans he
        have h_3 : S_1.1 sp = some (.inl (0, 4, .inl Fs)) := by rw [eS_1]; exact (am_up_n hV.ne.2.symm).trans hs
        have hf_4 : sv_fr S S_1 v ex sp := by rw [eS_1]; exact hfr.u1
        have h_5 : S_1.1 v = some (.inr (1, [.ref st, .int 0, .int (nI n), .int (nI q), .ref ex, .ref sp])) := by rw [eS_1]; exact am_up_s
        have hnS_1 : S_1.2.1 = S0.2.1 := by rw [eS_1]
        have hzS_1 : S_1.2.2 = S0.2.2 := by rw [eS_1]
        exact am_vret d_V_settle_61 rfl (hP _ Fs (by rw [if_pos hq0]; exact ⟨h_5, h_2, h_3, hne, hn4⟩) hf_4 (fun i hi => (hI i hi).trans (sv_ifc (and_iff_right (by omega)))))
    · have hlt : k < n := Nat.lt_of_not_le (fun q => hc (nI_le q (by omega)))
      refine am_aloadn d_V_settle_19 rfl ?_
      refine am_get d_V_settle_20 fl_V_29 hv rfl ?_
      refine am_ifeq (tgt := 36) d_V_settle_23 (by decide) (fun hz => ?_) (fun hz => ?_)
      · refine am_aloadn d_V_settle_36 rfl ?_
        refine am_get d_V_settle_37 fl_V_15 hv rfl ?_
        refine am_iloadn d_V_settle_40 rfl ?_
        refine am_iconst 0 d_V_settle_41 (by decide) ?_
        refine am_iastN (t := 0) d_V_settle_42 rfl hs (by omega) (by omega) ?_
        obtain ⟨S_6, eS_6⟩ : ∃ z : am_S, z = (am_up S0.1 sp (.inl (0, 4, .inl (upd Fs k 0))), S0.2) := ⟨_, rfl⟩
        change am_W _ _ _ _ (am_up S0.1 sp (.inl (0, 4, .inl (upd Fs k 0))), S0.2) _
        rw [← eS_6]
        have h_7 : S_6.1 v = some (.inr (1, [.ref st, .int sa, .int (nI n), .int (nI q), .ref ex, .ref sp])) := by rw [eS_6]; exact (am_up_n hV.ne.2).trans hv
        have h_8 : S_6.1 ex = some (.inl (0, 4, .inl fe)) := by rw [eS_6]; exact (am_up_n hne).trans he
        have hf_9 : sv_fr S S_6 v ex sp := by rw [eS_6]; exact hfr.u3
        have h_10 : S_6.1 sp = some (.inl (0, 4, .inl (upd Fs k 0))) := by rw [eS_6]; exact am_up_s
        have hnS_6 : S_6.2.1 = S0.2.1 := by rw [eS_6]
        have hzS_6 : S_6.2.2 = S0.2.2 := by rw [eS_6]
        refine am_iinc (v := nI (k + 1)) (L' := [some (.ref v), some (.int (nI (k + 1)))]) d_V_settle_43 rfl (nI_1 k) (by decide) rfl rfl ?_
        refine am_goto (tgt := 11) d_V_settle_46 (by decide) ?_
        refine ih (m - 1) (by omega) (k + 1) (by omega) _ _ ⟨h_7, h_8, h_10, hne, hn4⟩ hf_9 (fun i hi => ?_)
        by_cases hik : i = k
        · subst hik
          rw [if_pos ⟨by omega, Or.inl ((nI_eq hq (by decide)).mp (hz.trans nI_0.symm))⟩]; exact pk_us
        · have h8 : (upd Fs k 0) i = Fs i := pk_un hik
          rw [h8, hI i hi]
          exact sv_ifc (and_congr_left (fun _ => by omega))
      · refine am_aloadn d_V_settle_26 rfl ?_
        refine am_get d_V_settle_27 fl_V_9 hv rfl ?_
        refine am_iloadn d_V_settle_30 rfl ?_
        refine am_ialdN (t := 0) (k := k) d_V_settle_31 rfl he (by omega) (by omega) ?_
        refine am_ti (b := nI (F k)) (hF k hlt) ?_
        refine am_iconst 2 d_V_settle_32 (by decide) ?_
        refine am_icge (tgt := 43) d_V_settle_33 (by decide) (fun hw => ?_) (fun hw => ?_)
        · have hF2 : 2 ≤ F k := (nI_leI (by decide) (hO k hlt)).mp hw
          have hq0 : ¬ q = 0 := fun h => hz (by rw [h]; exact nI_0)
          refine am_iinc (v := nI (k + 1)) (L' := [some (.ref v), some (.int (nI (k + 1)))]) d_V_settle_43 rfl (nI_1 k) (by decide) rfl rfl ?_
          refine am_goto (tgt := 11) d_V_settle_46 (by decide) ?_
          refine ih (m - 1) (by omega) (k + 1) (by omega) _ _ hV hfr (fun i hi => ?_)
          rw [hI i hi]
          by_cases hik : i = k
          · subst hik
            rw [if_neg (fun h => absurd h.1 (by omega)), if_neg (fun h => h.2.elim hq0 (by omega))]
          · exact sv_ifc (and_congr_left (fun _ => by omega))
        · have hF2 : F k < 2 := Nat.lt_of_not_le (fun z => hw (nI_le z (hO k hlt)))
          refine am_aloadn d_V_settle_36 rfl ?_
          refine am_get d_V_settle_37 fl_V_15 hv rfl ?_
          refine am_iloadn d_V_settle_40 rfl ?_
          refine am_iconst 0 d_V_settle_41 (by decide) ?_
          refine am_iastN (t := 0) d_V_settle_42 rfl hs (by omega) (by omega) ?_
          obtain ⟨S_11, eS_11⟩ : ∃ z : am_S, z = (am_up S0.1 sp (.inl (0, 4, .inl (upd Fs k 0))), S0.2) := ⟨_, rfl⟩
          change am_W _ _ _ _ (am_up S0.1 sp (.inl (0, 4, .inl (upd Fs k 0))), S0.2) _
          rw [← eS_11]
          have h_12 : S_11.1 v = some (.inr (1, [.ref st, .int sa, .int (nI n), .int (nI q), .ref ex, .ref sp])) := by rw [eS_11]; exact (am_up_n hV.ne.2).trans hv
          have h_13 : S_11.1 ex = some (.inl (0, 4, .inl fe)) := by rw [eS_11]; exact (am_up_n hne).trans he
          have hf_14 : sv_fr S S_11 v ex sp := by rw [eS_11]; exact hfr.u3
          have h_15 : S_11.1 sp = some (.inl (0, 4, .inl (upd Fs k 0))) := by rw [eS_11]; exact am_up_s
          have hnS_11 : S_11.2.1 = S0.2.1 := by rw [eS_11]
          have hzS_11 : S_11.2.2 = S0.2.2 := by rw [eS_11]
          refine am_iinc (v := nI (k + 1)) (L' := [some (.ref v), some (.int (nI (k + 1)))]) d_V_settle_43 rfl (nI_1 k) (by decide) rfl rfl ?_
          refine am_goto (tgt := 11) d_V_settle_46 (by decide) ?_
          refine ih (m - 1) (by omega) (k + 1) (by omega) _ _ ⟨h_12, h_13, h_15, hne, hn4⟩ hf_14 (fun i hi => ?_)
          by_cases hik : i = k
          · subst hik
            rw [if_pos ⟨by omega, Or.inr hF2⟩]; exact pk_us
          · have h8 : (upd Fs k 0) i = Fs i := pk_un hik
            rw [h8, hI i hi]
            exact sv_ifc (and_congr_left (fun _ => by omega))
set_option maxHeartbeats 4000000 in
set_option maxRecDepth 100000 in
/-- settle: the items are counted, steps that say nothing are 0 -/
theorem c_settle {g : am_G} {d : Nat} {S : am_S} {v st : Nat} {sa : Int32} {n : Nat} {it : Int32} {ex sp : Nat} {fe fs : Nat → Int32} (hV : sv_V S.1 v st sa n it ex sp fe fs) (F : Nat → Nat) (hF : ∀ k, k < n → fe k = nI (F k)) (hO : sv_ok F n) {P : am_O → am_S → Prop} (hP : ∀ (S1 : am_S) (fs1 : Nat → Int32), sv_V S1.1 v st (if min (sv_pr F n) 2147483647 = 0 then 0 else sa) n (nI (min (sv_pr F n) 2147483647)) ex sp fe fs1 → sv_fr S S1 v ex sp → (∀ i, i < n → fs1 i = if (min (sv_pr F n) 2147483647 = 0 ∨ F i < 2) then 0 else fs i) → P (.inl none) S1) : am_W g (d + 1) mm_V_settle (0, am_ent [.ref v] 2, []) S (P) := by
  obtain ⟨hv, he, hs, hne, hn4⟩ := id hV
  show am_W g (d + 1) mm_V_settle (0, [some (.ref v), none], []) S _
  refine am_aloadn d_V_settle_0 rfl ?_
  refine am_aloadn d_V_settle_1 rfl ?_
  refine am_iconst (-1) d_V_settle_2 (by decide) ?_
  refine am_callV [.int (-1)] [.ref v] d_V_settle_3 cV_V_39 hv rfl rfl (Nat.le_of_ble_eq_true rfl) (Nat.le_of_ble_eq_true rfl) (c_itemsBut hV F hF hO (-1) (P := fun o S1 => o = .inl (some (.int (nI (min (sv_prs F (-1) n) 2147483647)))) ∧ S1 = S) ⟨rfl, rfl⟩) ?_ ?_
  · intro r_1 Sx_2 hx_3
    obtain ⟨hx_3a, hx_3b⟩ := hx_3
    cases hx_3a
    rw [hx_3b]
    rw [sv_prs_none F n (by omega)]
    obtain ⟨q, hq⟩ : ∃ q, q = min (sv_pr F n) 2147483647 := ⟨_, rfl⟩
    rw [← hq] at hP ⊢
    show am_W g (d + 1) mm_V_settle (6, [some (.ref v), none], [.int (nI q), .ref v]) S _
    refine am_put d_V_settle_6 fp_V_29 hv rfl rfl (Nat.le_of_ble_eq_true rfl) ?_
    obtain ⟨S_4, eS_4⟩ : ∃ z : am_S, z = (am_up S.1 v (.inr (1, [.ref st, .int sa, .int (nI n), .int (nI q), .ref ex, .ref sp])), S.2) := ⟨_, rfl⟩
    change am_W _ _ _ _ (am_up S.1 v (.inr (1, [.ref st, .int sa, .int (nI n), .int (nI q), .ref ex, .ref sp])), S.2) _
    rw [← eS_4]
    have h_5 : S_4.1 ex = some (.inl (0, 4, .inl fe)) := by rw [eS_4]; exact (am_up_n hV.ne.1.symm).trans he
    have h_6 : S_4.1 sp = some (.inl (0, 4, .inl fs)) := by rw [eS_4]; exact (am_up_n hV.ne.2.symm).trans hs
    have hf_7 : sv_fr S S_4 v ex sp := by rw [eS_4]; exact sv_fr.rf.u1
    have h_8 : S_4.1 v = some (.inr (1, [.ref st, .int sa, .int (nI n), .int (nI q), .ref ex, .ref sp])) := by rw [eS_4]; exact am_up_s
    have hnS_4 : S_4.2.1 = S.2.1 := by rw [eS_4]
    have hzS_4 : S_4.2.2 = S.2.2 := by rw [eS_4]
    refine am_iconst 0 d_V_settle_9 (by decide) ?_
    refine am_istoren (L' := [some (.ref v), some (.int 0)]) d_V_settle_10 (by decide) rfl rfl ?_
    exact c_settle_l F hF hO q (by omega) hP n 0 (by omega) _ fs ⟨h_8, h_5, h_6, hne, hn4⟩ hf_7 (fun i hi => by rw [if_neg (fun h => absurd h.1 (Nat.not_lt_zero i))])
  · intro r_1 Sx_2 hx_3
    cases hx_3.1
set_option maxHeartbeats 4000000 in
set_option maxRecDepth 100000 in
/-- View(store, start) -/
theorem c_Vinit {g : am_G} {d : Nat} {S : am_S} {v st : Nat} {sa : Int32} (hv : S.1 v = some (.inr (1, [.null, .int 0, .int 0, .int 0, .null, .null]))) (hvl : v < S.2.1) (hr1 : S.2.1 + 2 ≤ g.2.2.2.1) (hr2 : S.2.2 + 8 ≤ g.2.2.2.2.1) {P : am_O → am_S → Prop} (hP : ∀ S1 : am_S, S1.1 v = some (.inr (1, [.ref st, .int sa, .int 0, .int 0, .ref S.2.1, .ref (S.2.1 + 1)])) → S1.1 S.2.1 = some (.inl (0, 4, .inl (fun _ => 0))) → S1.1 (S.2.1 + 1) = some (.inl (0, 4, .inl (fun _ => 0))) → S1.2 = (S.2.1 + 2, S.2.2 + 8) → (∀ q : Nat, q ≠ v → q < S.2.1 → S1.1 q = S.1 q) → P (.inl none) S1) : am_W g d mm_V_init (0, am_ent [.ref v, .ref st, .int sa] 3, []) S (P) := by
  have hfr0 : ∀ q : Nat, q ≠ v → q < S.2.1 → S.1 q = S.1 q := fun _ _ _ => rfl
  show am_W g d mm_V_init (0, [some (.ref v), some (.ref st), some (.int sa)], []) S _
  refine am_aloadn d_V_init_0 rfl ?_
  refine am_obj d_V_init_1 (am_in 176 (by decide +kernel) rfl) (am_in 18 (by decide +kernel) rfl) (am_in 19 (by decide +kernel) rfl) (Nat.le_of_ble_eq_true rfl) ?_
  refine am_aloadn d_V_init_4 rfl ?_
  refine am_iconst 4 d_V_init_5 (by decide) ?_
  refine am_ti (b := nI 4) rfl ?_
  obtain ⟨a_1, ea_1⟩ : ∃ z : Nat, z = S.2.1 := ⟨_, rfl⟩
  refine am_newI (N := 4) d_V_init_6 (by omega) (by omega) (by omega) ?_
  change am_W _ _ _ (_, _, .ref S.2.1 :: _) (am_up S.1 S.2.1 (.inl (0, 4, .inl (fun _ => 0))), S.2.1 + 1, S.2.2 + 4) _
  rw [← ea_1]
  obtain ⟨S_2, eS_2⟩ : ∃ z : am_S, z = (am_up S.1 a_1 (.inl (0, 4, .inl (fun _ => 0))), a_1 + 1, S.2.2 + 4) := ⟨_, rfl⟩
  rw [← eS_2]
  have h_3 : S_2.1 v = some (.inr (1, [.null, .int 0, .int 0, .int 0, .null, .null])) := by rw [eS_2]; exact (am_up_n (by omega)).trans hv
  have hf_4 : ∀ q : Nat, q ≠ v → q < S.2.1 → S_2.1 q = S.1 q := by rw [eS_2]; exact fun q h1 h2 => (am_up_n (by omega)).trans (hfr0 q h1 h2)
  have h_5 : S_2.1 a_1 = some (.inl (0, 4, .inl (fun _ => 0))) := by rw [eS_2]; exact am_up_s
  have hna_1 : S_2.2.1 = a_1 + 1 := by rw [eS_2]
  have hza_1 : S_2.2.2 = S.2.2 + 4 := by rw [eS_2]
  refine am_putF d_V_init_8 fp_V_9 rfl h_3 rfl rfl (Nat.le_of_ble_eq_true rfl) ?_
  obtain ⟨S_6, eS_6⟩ : ∃ z : am_S, z = (am_up S_2.1 v (.inr (1, [.null, .int 0, .int 0, .int 0, .ref a_1, .null])), S_2.2) := ⟨_, rfl⟩
  change am_W _ _ _ _ (am_up S_2.1 v (.inr (1, [.null, .int 0, .int 0, .int 0, .ref a_1, .null])), S_2.2) _
  rw [← eS_6]
  have h_7 : S_6.1 a_1 = some (.inl (0, 4, .inl (fun _ => 0))) := by rw [eS_6]; exact (am_up_n (by omega)).trans h_5
  have hf_8 : ∀ q : Nat, q ≠ v → q < S.2.1 → S_6.1 q = S.1 q := by rw [eS_6]; exact fun q h1 h2 => (am_up_n (by omega)).trans (hf_4 q h1 h2)
  have h_9 : S_6.1 v = some (.inr (1, [.null, .int 0, .int 0, .int 0, .ref a_1, .null])) := by rw [eS_6]; exact am_up_s
  have hnS_6 : S_6.2.1 = S_2.2.1 := by rw [eS_6]
  have hzS_6 : S_6.2.2 = S_2.2.2 := by rw [eS_6]
  refine am_aloadn d_V_init_11 rfl ?_
  refine am_iconst 4 d_V_init_12 (by decide) ?_
  refine am_ti (b := nI 4) rfl ?_
  obtain ⟨a_10, ea_10⟩ : ∃ z : Nat, z = S_6.2.1 := ⟨_, rfl⟩
  refine am_newI (N := 4) d_V_init_13 (by omega) (by omega) (by omega) ?_
  change am_W _ _ _ (_, _, .ref S_6.2.1 :: _) (am_up S_6.1 S_6.2.1 (.inl (0, 4, .inl (fun _ => 0))), S_6.2.1 + 1, S_6.2.2 + 4) _
  rw [← ea_10]
  obtain ⟨S_11, eS_11⟩ : ∃ z : am_S, z = (am_up S_6.1 a_10 (.inl (0, 4, .inl (fun _ => 0))), a_10 + 1, S_6.2.2 + 4) := ⟨_, rfl⟩
  rw [← eS_11]
  have h_12 : S_11.1 v = some (.inr (1, [.null, .int 0, .int 0, .int 0, .ref a_1, .null])) := by rw [eS_11]; exact (am_up_n (by omega)).trans h_9
  have h_13 : S_11.1 a_1 = some (.inl (0, 4, .inl (fun _ => 0))) := by rw [eS_11]; exact (am_up_n (by omega)).trans h_7
  have hf_14 : ∀ q : Nat, q ≠ v → q < S.2.1 → S_11.1 q = S.1 q := by rw [eS_11]; exact fun q h1 h2 => (am_up_n (by omega)).trans (hf_8 q h1 h2)
  have h_15 : S_11.1 a_10 = some (.inl (0, 4, .inl (fun _ => 0))) := by rw [eS_11]; exact am_up_s
  have hna_10 : S_11.2.1 = a_10 + 1 := by rw [eS_11]
  have hza_10 : S_11.2.2 = S_6.2.2 + 4 := by rw [eS_11]
  refine am_putF d_V_init_15 fp_V_15 rfl h_12 rfl rfl (Nat.le_of_ble_eq_true rfl) ?_
  obtain ⟨S_16, eS_16⟩ : ∃ z : am_S, z = (am_up S_11.1 v (.inr (1, [.null, .int 0, .int 0, .int 0, .ref a_1, .ref a_10])), S_11.2) := ⟨_, rfl⟩
  change am_W _ _ _ _ (am_up S_11.1 v (.inr (1, [.null, .int 0, .int 0, .int 0, .ref a_1, .ref a_10])), S_11.2) _
  rw [← eS_16]
  have h_17 : S_16.1 a_1 = some (.inl (0, 4, .inl (fun _ => 0))) := by rw [eS_16]; exact (am_up_n (by omega)).trans h_13
  have h_18 : S_16.1 a_10 = some (.inl (0, 4, .inl (fun _ => 0))) := by rw [eS_16]; exact (am_up_n (by omega)).trans h_15
  have hf_19 : ∀ q : Nat, q ≠ v → q < S.2.1 → S_16.1 q = S.1 q := by rw [eS_16]; exact fun q h1 h2 => (am_up_n (by omega)).trans (hf_14 q h1 h2)
  have h_20 : S_16.1 v = some (.inr (1, [.null, .int 0, .int 0, .int 0, .ref a_1, .ref a_10])) := by rw [eS_16]; exact am_up_s
  have hnS_16 : S_16.2.1 = S_11.2.1 := by rw [eS_16]
  have hzS_16 : S_16.2.2 = S_11.2.2 := by rw [eS_16]
  refine am_aloadn d_V_init_18 rfl ?_
  refine am_aloadn d_V_init_19 rfl ?_
  refine am_putF d_V_init_20 fp_V_18 rfl h_20 rfl rfl (Nat.le_of_ble_eq_true rfl) ?_
  obtain ⟨S_21, eS_21⟩ : ∃ z : am_S, z = (am_up S_16.1 v (.inr (1, [.ref st, .int 0, .int 0, .int 0, .ref a_1, .ref a_10])), S_16.2) := ⟨_, rfl⟩
  change am_W _ _ _ _ (am_up S_16.1 v (.inr (1, [.ref st, .int 0, .int 0, .int 0, .ref a_1, .ref a_10])), S_16.2) _
  rw [← eS_21]
  have h_22 : S_21.1 a_1 = some (.inl (0, 4, .inl (fun _ => 0))) := by rw [eS_21]; exact (am_up_n (by omega)).trans h_17
  have h_23 : S_21.1 a_10 = some (.inl (0, 4, .inl (fun _ => 0))) := by rw [eS_21]; exact (am_up_n (by omega)).trans h_18
  have hf_24 : ∀ q : Nat, q ≠ v → q < S.2.1 → S_21.1 q = S.1 q := by rw [eS_21]; exact fun q h1 h2 => (am_up_n (by omega)).trans (hf_19 q h1 h2)
  have h_25 : S_21.1 v = some (.inr (1, [.ref st, .int 0, .int 0, .int 0, .ref a_1, .ref a_10])) := by rw [eS_21]; exact am_up_s
  have hnS_21 : S_21.2.1 = S_16.2.1 := by rw [eS_21]
  have hzS_21 : S_21.2.2 = S_16.2.2 := by rw [eS_21]
  refine am_aloadn d_V_init_23 rfl ?_
  refine am_iloadn d_V_init_24 rfl ?_
  refine am_put d_V_init_25 fp_V_22 h_25 rfl rfl (Nat.le_of_ble_eq_true rfl) ?_
  obtain ⟨S_26, eS_26⟩ : ∃ z : am_S, z = (am_up S_21.1 v (.inr (1, [.ref st, .int sa, .int 0, .int 0, .ref a_1, .ref a_10])), S_21.2) := ⟨_, rfl⟩
  change am_W _ _ _ _ (am_up S_21.1 v (.inr (1, [.ref st, .int sa, .int 0, .int 0, .ref a_1, .ref a_10])), S_21.2) _
  rw [← eS_26]
  have h_27 : S_26.1 a_1 = some (.inl (0, 4, .inl (fun _ => 0))) := by rw [eS_26]; exact (am_up_n (by omega)).trans h_22
  have h_28 : S_26.1 a_10 = some (.inl (0, 4, .inl (fun _ => 0))) := by rw [eS_26]; exact (am_up_n (by omega)).trans h_23
  have hf_29 : ∀ q : Nat, q ≠ v → q < S.2.1 → S_26.1 q = S.1 q := by rw [eS_26]; exact fun q h1 h2 => (am_up_n (by omega)).trans (hf_24 q h1 h2)
  have h_30 : S_26.1 v = some (.inr (1, [.ref st, .int sa, .int 0, .int 0, .ref a_1, .ref a_10])) := by rw [eS_26]; exact am_up_s
  have hnS_26 : S_26.2.1 = S_21.2.1 := by rw [eS_26]
  have hzS_26 : S_26.2.2 = S_21.2.2 := by rw [eS_26]
  refine am_aloadn d_V_init_28 rfl ?_
  refine am_iconst 0 d_V_init_29 (by decide) ?_
  refine am_put d_V_init_30 fp_V_26 h_30 rfl rfl (Nat.le_of_ble_eq_true rfl) ?_
  obtain ⟨S_31, eS_31⟩ : ∃ z : am_S, z = (am_up S_26.1 v (.inr (1, [.ref st, .int sa, .int 0, .int 0, .ref a_1, .ref a_10])), S_26.2) := ⟨_, rfl⟩
  change am_W _ _ _ _ (am_up S_26.1 v (.inr (1, [.ref st, .int sa, .int 0, .int 0, .ref a_1, .ref a_10])), S_26.2) _
  rw [← eS_31]
  have h_32 : S_31.1 a_1 = some (.inl (0, 4, .inl (fun _ => 0))) := by rw [eS_31]; exact (am_up_n (by omega)).trans h_27
  have h_33 : S_31.1 a_10 = some (.inl (0, 4, .inl (fun _ => 0))) := by rw [eS_31]; exact (am_up_n (by omega)).trans h_28
  have hf_34 : ∀ q : Nat, q ≠ v → q < S.2.1 → S_31.1 q = S.1 q := by rw [eS_31]; exact fun q h1 h2 => (am_up_n (by omega)).trans (hf_29 q h1 h2)
  have h_35 : S_31.1 v = some (.inr (1, [.ref st, .int sa, .int 0, .int 0, .ref a_1, .ref a_10])) := by rw [eS_31]; exact am_up_s
  have hnS_31 : S_31.2.1 = S_26.2.1 := by rw [eS_31]
  have hzS_31 : S_31.2.2 = S_26.2.2 := by rw [eS_31]
  refine am_aloadn d_V_init_33 rfl ?_
  refine am_iconst 0 d_V_init_34 (by decide) ?_
  refine am_put d_V_init_35 fp_V_29 h_35 rfl rfl (Nat.le_of_ble_eq_true rfl) ?_
  obtain ⟨S_36, eS_36⟩ : ∃ z : am_S, z = (am_up S_31.1 v (.inr (1, [.ref st, .int sa, .int 0, .int 0, .ref a_1, .ref a_10])), S_31.2) := ⟨_, rfl⟩
  change am_W _ _ _ _ (am_up S_31.1 v (.inr (1, [.ref st, .int sa, .int 0, .int 0, .ref a_1, .ref a_10])), S_31.2) _
  rw [← eS_36]
  have h_37 : S_36.1 a_1 = some (.inl (0, 4, .inl (fun _ => 0))) := by rw [eS_36]; exact (am_up_n (by omega)).trans h_32
  have h_38 : S_36.1 a_10 = some (.inl (0, 4, .inl (fun _ => 0))) := by rw [eS_36]; exact (am_up_n (by omega)).trans h_33
  have hf_39 : ∀ q : Nat, q ≠ v → q < S.2.1 → S_36.1 q = S.1 q := by rw [eS_36]; exact fun q h1 h2 => (am_up_n (by omega)).trans (hf_34 q h1 h2)
  have h_40 : S_36.1 v = some (.inr (1, [.ref st, .int sa, .int 0, .int 0, .ref a_1, .ref a_10])) := by rw [eS_36]; exact am_up_s
  have hnS_36 : S_36.2.1 = S_31.2.1 := by rw [eS_36]
  have hzS_36 : S_36.2.2 = S_31.2.2 := by rw [eS_36]
  have ha2 : a_10 = S.2.1 + 1 := by omega
  have hfin : S_36.2 = (S.2.1 + 2, S.2.2 + 8) := by
    have q1 : S_36.2.1 = S.2.1 + 2 := by omega
    have q2 : S_36.2.2 = S.2.2 + 8 := by omega
    exact Prod.ext q1 q2
  refine am_vret d_V_init_38 rfl (hP S_36 ?_ ?_ ?_ hfin hf_39)
  · rw [← ha2, ← ea_1]; exact h_40
  · rw [← ea_1]; exact h_37
  · rw [← ha2]; exact h_38
