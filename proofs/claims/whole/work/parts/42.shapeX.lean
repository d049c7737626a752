/-! shape's and fold's own loops -/
theorem sv_ad_ok {p : Nat × (Nat → Nat)} {x : Int32} (hx : ¬ x < -1) (h : sv_ok p.2 p.1) : sv_ok (sv_ad p x).2 (sv_ad p x).1 := by
  unfold sv_ad
  split
  · exact h
  · intro k hk
    have hk : k < p.1 + 1 := hk
    show sv_ins p.2 p.1 x.toNatClampNeg k < 2 ^ 31
    simp only [sv_ins]
    split
    · exact h k (by omega)
    · rw [if_pos (by omega)]
      have := Int32.toInt_lt x
      show x.toInt.toNat < _
      omega
theorem sv_ad_le {p : Nat × (Nat → Nat)} {x : Int32} : (sv_ad p x).1 ≤ p.1 + 1 := by
  unfold sv_ad
  split
  · exact Nat.le_succ _
  · exact Nat.le_refl _
theorem sv_not_lt {x : Int32} (h1 : ¬ x < -1) (h2 : ¬ x = -1) : ¬ x < 0 := by
  intro h3
  have e1 : ¬ x.toInt < -1 := fun q => h1 (Int32.lt_iff_toInt_lt.mpr q)
  have e2 : ¬ x.toInt = -1 := fun q => h2 (Int32.toInt_inj.mp q)
  have e3 : x.toInt < 0 := Int32.lt_iff_toInt_lt.mp h3
  omega
set_option maxHeartbeats 4000000 in
set_option maxRecDepth 100000 in
/-- addUnlessNone -/
theorem c_addU {g : am_G} {d : Nat} {S : am_S} {v st : Nat} {sa : Int32} {n : Nat} {it : Int32} {ex sp : Nat} {fe fs : Nat → Int32} (hV : sv_V S.1 v st sa n it ex sp fe fs) {E : Nat → Nat} {x : Int32} (hx : ¬ x < -1) (hn : n < 4) (hI : ∀ i, i < n → fe i = nI (E i) ∧ fs i = 0) {P : am_O → am_S → Prop} (hP : ∀ (S1 : am_S) (fe1 fs1 : Nat → Int32), sv_V S1.1 v st sa (sv_ad (n, E) x).1 it ex sp fe1 fs1 → sv_fr S S1 v ex sp → (∀ i, i < (sv_ad (n, E) x).1 → fe1 i = nI ((sv_ad (n, E) x).2 i) ∧ fs1 i = 0) → P (.inl none) S1) : am_W g (d + 1) mm_V_addUnlessNone (0, am_ent [.ref v, .int x] 2, []) S P := by
  refine c_addUnless hV x (fun _ => hn) (fun h => ?_) (fun h S1 fe1 fs1 h1 h2 h3 => ?_)
  · have e : sv_ad (n, E) x = (n, E) := if_pos h
    rw [e] at hP
    exact hP S fe fs hV sv_fr.rf hI
  · have e : sv_ad (n, E) x = (n + 1, sv_ins E n x.toNatClampNeg) := if_neg h
    rw [e] at hP
    obtain ⟨N, hN, hxN⟩ := nI_of (sv_not_lt hx h)
    refine hP S1 fe1 fs1 h1 h2 (fun i hi => ?_)
    obtain ⟨q1, q2⟩ := h3 i hi
    rw [q1, q2]
    show sv_ins fe n x i = nI (sv_ins E n x.toNatClampNeg i) ∧ sv_ins fs n 0 i = 0
    simp only [sv_ins]
    split
    · rename_i h4
      exact hI i h4
    · have hi : i < n + 1 := hi
      rw [if_pos (by omega), if_pos (by omega), if_pos (by omega), hxN, nI_clamp hN]
      exact ⟨rfl, rfl⟩
set_option maxHeartbeats 4000000 in
set_option maxRecDepth 100000 in
/-- guessSteps, the loop -/
theorem c_guess_l {g : am_G} {d : Nat} {S : am_S} {x B1 B2 B3 B4 B5 : Nat} {ns nv : Int32} (hx0 : S.1 x = some (.inr (2, [.ref B1, .ref B2, .int ns, .int nv, .ref B3, .ref B4, .ref B5]))) {Fp G : Nat → Int32} (hp0 : S.1 B3 = some (.inl (0, 3000, .inl Fp))) {N : Nat} (hG : ∀ t, t < N → Fp t = G t) {v st : Nat} {sa : Int32} {n : Nat} {ex sp : Nat} {fe fs : Nat → Int32} (hV : sv_V S.1 v st sa n (nI N) ex sp fe fs) (hB2 : B3 ≠ ex) (hB3 : B3 ≠ sp) (F : Nat → Nat) (hF : ∀ k, k < n → fe k = nI (F k)) (hO : sv_ok F n) (hN : sv_pr F n = N) (hN3 : N ≤ 3000) (hZ : ∀ k, k < n → 0 < F k) {P : am_O → am_S → Prop} (hP : ∀ (S1 : am_S) (fs1 : Nat → Int32), sv_V S1.1 v st sa n (nI N) ex sp fe fs1 → sv_fr S S1 v ex sp → (∀ i, i < n → fs1 i = (if F i < 2 then fs i else G (sv_dp F n (n - 1 - i)) - G 0)) → P (.inl none) S1) : ∀ (m : Nat), m ≤ n → ∀ (S0 : am_S) (Fs : Nat → Int32), sv_V S0.1 v st sa n (nI N) ex sp fe Fs → sv_fr S S0 v ex sp → (∀ i, i < n → Fs i = if m ≤ i then (if F i < 2 then fs i else G (sv_dp F n (n - 1 - i)) - G 0) else fs i) → am_W g d mm_X_guessSteps (17, [some (.ref x), some (.ref v), some (.int (nI (sv_dp F n (n - m)))), some (.int (sv_dn m))], []) S0 P := by
  intro m
  induction m with
  | zero =>
    intro hm S0 Fs hW hfr hI
    obtain ⟨hv, he, hs, hne, hn4⟩ := id hW
    have hx := (hfr.2 x (am_nd hx0 hV.1 (by simp [am_kd])) (am_nd hx0 hV.2.1 (by simp [am_kd])) (am_nd hx0 hV.2.2.1 (by simp [am_kd]))).trans hx0
    have hp := (hfr.2 B3 (am_nd hp0 hV.1 (by simp [am_kd])) hB2 hB3).trans hp0
    refine am_iloadn d_X_guessSteps_17 rfl ?_
    refine am_iflt (tgt := 65) d_X_guessSteps_18 (by decide) (fun hc => ?_) (fun hc => ?_)
    · exact am_vret d_X_guessSteps_65 rfl (hP S0 Fs hW hfr (fun i hi => (hI i hi).trans (if_pos (Nat.zero_le i))))
    · exact absurd sv_dn_0 hc
  | succ m ih =>
    intro hm S0 Fs hW hfr hI
    obtain ⟨hv, he, hs, hne, hn4⟩ := id hW
    have hx := (hfr.2 x (am_nd hx0 hV.1 (by simp [am_kd])) (am_nd hx0 hV.2.1 (by simp [am_kd])) (am_nd hx0 hV.2.2.1 (by simp [am_kd]))).trans hx0
    have hp := (hfr.2 B3 (am_nd hp0 hV.1 (by simp [am_kd])) hB2 hB3).trans hp0
    refine am_iloadn d_X_guessSteps_17 rfl ?_
    refine am_iflt (tgt := 65) d_X_guessSteps_18 (by decide) (fun hc => ?_) (fun hc => ?_)
    · exact absurd hc (sv_dn_n (by omega))
    · obtain ⟨D, hDe⟩ : ∃ D, D = sv_dp F n (n - (m + 1)) := ⟨_, rfl⟩
      rw [sv_dn_s m, ← hDe]
      have hD2 : sv_dp F n (n - m) = D * F m := by
        rw [show n - m = (n - (m + 1)) + 1 by omega, sv_dp_s F _ n (by omega), ← hDe, show n - 1 - (n - (m + 1)) = m by omega]
      have hD3 : D * F m ≤ N := by rw [← hD2, ← hN]; exact sv_dp_le F hZ _ (by omega)
      have hDp : 0 < D := by rw [hDe]; exact sv_dp_pos F hZ _ (by omega)
      have hFm := hO m (by omega)
      refine am_aloadn d_X_guessSteps_21 rfl ?_
      refine am_get d_X_guessSteps_22 fl_X_79 hv rfl ?_
      refine am_iloadn d_X_guessSteps_25 rfl ?_
      refine am_ialdN (t := 0) (k := m) d_X_guessSteps_26 rfl he (by omega) (by omega) ?_
      refine am_ti (b := nI (F m)) (hF m (by omega)) ?_
      refine am_iconst 1 d_X_guessSteps_27 (by decide) ?_
      refine am_icle (tgt := 50) d_X_guessSteps_28 (by decide) (fun hq => ?_) (fun hq => ?_)
      · have hF2 : F m < 2 := by have : F m ≤ 1 := (nI_leI (b := 1) hFm (by decide)).mp hq; omega
        refine am_iloadn d_X_guessSteps_50 rfl ?_
        refine am_aloadn d_X_guessSteps_51 rfl ?_
        refine am_get d_X_guessSteps_52 fl_X_79 hv rfl ?_
        refine am_iloadn d_X_guessSteps_55 rfl ?_
        refine am_ialdN (t := 0) (k := m) d_X_guessSteps_56 rfl he (by omega) (by omega) ?_
        refine am_ti (b := nI (F m)) (hF m (by omega)) ?_
        refine am_imul d_X_guessSteps_57 ?_
        refine am_ti (b := nI (D * F m)) (pk_mul D (F m)) ?_
        refine am_istoren (L' := [some (.ref x), some (.ref v), some (.int (nI (D * F m))), some (.int (nI m))]) d_X_guessSteps_58 (by decide) rfl rfl ?_
        refine am_iinc (v := sv_dn m) (L' := [some (.ref x), some (.ref v), some (.int (nI (D * F m))), some (.int (sv_dn m))]) d_X_guessSteps_59 rfl (sv_dn_d m) (by decide) rfl rfl ?_
        refine am_goto (tgt := 17) d_X_guessSteps_62 (by decide) ?_
        rw [← hD2]
        refine ih (by omega) S0 Fs ⟨hv, he, hs, hne, hn4⟩ hfr (fun i hi => ?_)
        rw [hI i hi]
        by_cases e : m ≤ i
        · rw [if_pos e]
          by_cases e2 : m + 1 ≤ i
          · rw [if_pos e2]
          · obtain rfl : i = m := by omega
            rw [if_neg e2, if_pos hF2]
        · rw [if_neg e, if_neg (by omega)]
      · have hF2 : ¬ F m < 2 := fun h => hq (nI_le (b := 1) (by omega) (by decide))
        have hDN : D < N := by have := Nat.mul_le_mul_left D (show 2 ≤ F m by omega); omega
        refine am_aloadn d_X_guessSteps_31 rfl ?_
        refine am_get d_X_guessSteps_32 fl_X_93 hv rfl ?_
        refine am_iloadn d_X_guessSteps_35 rfl ?_
        refine am_aloadn d_X_guessSteps_36 rfl ?_
        refine am_get d_X_guessSteps_37 fl_X_21 hx rfl ?_
        refine am_iloadn d_X_guessSteps_40 rfl ?_
        refine am_ialdN (t := 0) (k := D) d_X_guessSteps_41 rfl hp (by omega) (by omega) ?_
        refine am_ti (b := G D) (hG D hDN) ?_
        refine am_aloadn d_X_guessSteps_42 rfl ?_
        refine am_get d_X_guessSteps_43 fl_X_21 hx rfl ?_
        refine am_iconst 0 d_X_guessSteps_46 (by decide) ?_
        show am_W _ _ _ (_, _, .int (nI 0) :: _) _ _
        refine am_ialdN (t := 0) (k := 0) d_X_guessSteps_47 rfl hp (by omega) (by omega) ?_
        refine am_ti (b := G 0) (hG 0 (by omega)) ?_
        refine am_isub d_X_guessSteps_48 ?_
        refine am_iastN (t := 0) d_X_guessSteps_49 rfl hs (by omega) (by omega) ?_
        obtain ⟨S_1, eS_1⟩ : ∃ z : am_S, z = (am_up S0.1 sp (.inl (0, 4, .inl (upd Fs m ((G D) - (G 0))))), S0.2) := ⟨_, rfl⟩
        change am_W _ _ _ _ (am_up S0.1 sp (.inl (0, 4, .inl (upd Fs m ((G D) - (G 0))))), S0.2) _
        rw [← eS_1]
        have h_2 : S_1.1 x = some (.inr (2, [.ref B1, .ref B2, .int ns, .int nv, .ref B3, .ref B4, .ref B5])) := by rw [eS_1]; exact (am_up_n (am_nd hx hs (by simp [am_kd]))).trans hx
        have h_3 : S_1.1 B3 = some (.inl (0, 3000, .inl Fp)) := by rw [eS_1]; exact (am_up_n (fun q => hB3 q)).trans hp
        have h_4 : S_1.1 v = some (.inr (1, [.ref st, .int sa, .int (nI n), .int (nI N), .ref ex, .ref sp])) := by rw [eS_1]; exact (am_up_n (am_nd hv hs (by simp [am_kd]))).trans hv
        have h_5 : S_1.1 ex = some (.inl (0, 4, .inl fe)) := by rw [eS_1]; exact (am_up_n (fun q => hne q)).trans he
        have hf_6 : sv_fr S S_1 v ex sp := by rw [eS_1]; exact hfr.u3
        have h_7 : S_1.1 sp = some (.inl (0, 4, .inl (upd Fs m ((G D) - (G 0))))) := by rw [eS_1]; exact am_up_s
        have hnS_1 : S_1.2.1 = S0.2.1 := by rw [eS_1]
        have hzS_1 : S_1.2.2 = S0.2.2 := by rw [eS_1]
        refine am_iloadn d_X_guessSteps_50 rfl ?_
        refine am_aloadn d_X_guessSteps_51 rfl ?_
        refine am_get d_X_guessSteps_52 fl_X_79 h_4 rfl ?_
        refine am_iloadn d_X_guessSteps_55 rfl ?_
        refine am_ialdN (t := 0) (k := m) d_X_guessSteps_56 rfl h_5 (by omega) (by omega) ?_
        refine am_ti (b := nI (F m)) (hF m (by omega)) ?_
        refine am_imul d_X_guessSteps_57 ?_
        refine am_ti (b := nI (D * F m)) (pk_mul D (F m)) ?_
        refine am_istoren (L' := [some (.ref x), some (.ref v), some (.int (nI (D * F m))), some (.int (nI m))]) d_X_guessSteps_58 (by decide) rfl rfl ?_
        refine am_iinc (v := sv_dn m) (L' := [some (.ref x), some (.ref v), some (.int (nI (D * F m))), some (.int (sv_dn m))]) d_X_guessSteps_59 rfl (sv_dn_d m) (by decide) rfl rfl ?_
        refine am_goto (tgt := 17) d_X_guessSteps_62 (by decide) ?_
        rw [← hD2]
        refine ih (by omega) S_1 (upd Fs m (G D - G 0)) ⟨h_4, h_5, h_7, hne, hn4⟩ hf_6 (fun i hi => ?_)
        by_cases e : i = m
        · subst e
          rw [pk_us, if_pos (Nat.le_refl i), if_neg hF2, hDe, show n - 1 - i = n - (i + 1) by omega]
        · rw [pk_un e, hI i hi]
          by_cases e2 : m + 1 ≤ i
          · rw [if_pos e2, if_pos (show m ≤ i by omega)]
          · rw [if_neg e2, if_neg (show ¬ m ≤ i by omega)]
set_option maxHeartbeats 4000000 in
set_option maxRecDepth 100000 in
/-- guessSteps -/
theorem c_guess {g : am_G} {d : Nat} {S : am_S} {x B1 B2 B3 B4 B5 : Nat} {ns nv : Int32} (hx0 : S.1 x = some (.inr (2, [.ref B1, .ref B2, .int ns, .int nv, .ref B3, .ref B4, .ref B5]))) {Fp G : Nat → Int32} (hp0 : S.1 B3 = some (.inl (0, 3000, .inl Fp))) {N : Nat} (hG : ∀ t, t < N → Fp t = G t) {v st : Nat} {sa : Int32} {n : Nat} {ex sp : Nat} {fe fs : Nat → Int32} (hV : sv_V S.1 v st sa n (nI N) ex sp fe fs) (hB2 : B3 ≠ ex) (hB3 : B3 ≠ sp) (F : Nat → Nat) (hF : ∀ k, k < n → fe k = nI (F k)) (hO : sv_ok F n) (hN : sv_pr F n = N) (hN3 : N ≤ 3000) {P : am_O → am_S → Prop} (h0 : N = 0 → P (.inl none) S) (hP : 0 < N → ∀ (S1 : am_S) (fs1 : Nat → Int32), sv_V S1.1 v st sa n (nI N) ex sp fe fs1 → sv_fr S S1 v ex sp → (∀ i, i < n → fs1 i = (if F i < 2 then fs i else G (sv_dp F n (n - 1 - i)) - G 0)) → P (.inl none) S1) : am_W g d mm_X_guessSteps (0, am_ent [.ref x, .ref v] 4, []) S (P) := by
  show am_W g d mm_X_guessSteps (0, [some (.ref x), some (.ref v), none, none], []) S _
  refine am_aloadn d_X_guessSteps_0 rfl ?_
  refine am_get d_X_guessSteps_1 fl_X_139 hV.1 rfl ?_
  refine am_ifne (tgt := 8) d_X_guessSteps_4 (by decide) (fun hc => ?_) (fun hc => ?_)
  · have hN0 : 0 < N := Nat.pos_of_ne_zero (fun h => hc (by rw [h]; exact nI_0))
    have hZ : ∀ k, k < n → 0 < F k := sv_pr_pos (by rw [hN]; exact hN0)
    refine am_iconst 1 d_X_guessSteps_8 (by decide) ?_
    refine am_istoren (L' := [some (.ref x), some (.ref v), some (.int 1), none]) d_X_guessSteps_9 (by decide) rfl rfl ?_
    refine am_aloadn d_X_guessSteps_10 rfl ?_
    refine am_get d_X_guessSteps_11 fl_X_104 hV.1 rfl ?_
    refine am_iconst 1 d_X_guessSteps_14 (by decide) ?_
    refine am_isub d_X_guessSteps_15 ?_
    refine am_ti (b := sv_dn n) rfl ?_
    refine am_istoren (L' := [some (.ref x), some (.ref v), some (.int 1), some (.int (sv_dn n))]) d_X_guessSteps_16 (by decide) rfl rfl ?_
    have h9 : (1 : Int32) = nI (sv_dp F n (n - n)) := by rw [Nat.sub_self, sv_dp_0]; rfl
    rw [h9]
    exact c_guess_l hx0 hp0 hG hV hB2 hB3 F hF hO hN hN3 hZ (hP hN0) n (Nat.le_refl n) S fs hV sv_fr.rf (fun i hi => (if_neg (by omega)).symm)
  · have hN0 : N = 0 := (nI_eq (by omega) (by decide)).mp (hc.trans nI_0.symm)
    exact am_vret d_X_guessSteps_7 rfl (h0 hN0)
set_option maxHeartbeats 4000000 in
set_option maxRecDepth 100000 in
/-- liesAsLaidOut, the loop -/
theorem c_lies_l {g : am_G} {d : Nat} {S : am_S} {x B1 B2 B3 B4 B5 : Nat} {ns nv : Int32} (hx0 : S.1 x = some (.inr (2, [.ref B1, .ref B2, .int ns, .int nv, .ref B3, .ref B4, .ref B5]))) {Fp G : Nat → Int32} (hp0 : S.1 B3 = some (.inl (0, 3000, .inl Fp))) {N : Nat} (hG : ∀ t, t < N → Fp t = G t) {v st : Nat} {sa : Int32} {n : Nat} {ex sp : Nat} {fe fs : Nat → Int32} (hV : sv_V S.1 v st sa n (nI N) ex sp fe fs) (F : Nat → Nat) (hF : ∀ k, k < n → fe k = nI (F k)) (hO : sv_ok F n) (hN : sv_pr F n = N) (hN3 : N ≤ 3000) {P : am_O → am_S → Prop} (h1 : (∀ t, t < N → sa + sv_pl F fs n t = G t) → P (.inl (some (.int 1))) S) (h0 : ¬ (∀ t, t < N → sa + sv_pl F fs n t = G t) → P (.inl (some (.int 0))) S) : ∀ (c i : Nat), i + c = N → (∀ t, t < i → sa + sv_pl F fs n t = G t) → am_W g (d + 1) mm_X_liesAsLaidOut (2, [some (.ref x), some (.ref v), some (.int (nI i))], []) S P := by
  intro c
  induction c using Nat.strongRecOn with
  | ind c ih =>
    intro i hi hI
    refine am_iloadn d_X_liesAsLaidOut_2 rfl ?_
    refine am_aloadn d_X_liesAsLaidOut_3 rfl ?_
    refine am_get d_X_liesAsLaidOut_4 fl_X_139 hV.1 rfl ?_
    refine am_icge (tgt := 32) d_X_liesAsLaidOut_7 (by decide) (fun hc => ?_) (fun hc => ?_)
    · have hk0 : N ≤ i := (nI_leI (by omega) (by omega)).mp hc
      refine am_iconst 1 d_X_liesAsLaidOut_32 (by decide) ?_
      exact am_zret d_X_liesAsLaidOut_33 rfl rfl (h1 (fun t ht => hI t (by omega)))
    · have hlt : i < N := Nat.lt_of_not_le (fun q => hc (nI_le q (by omega)))
      have hZ : ∀ k, k < n → 0 < F k := sv_pr_pos (by rw [hN]; omega)
      refine am_aloadn d_X_liesAsLaidOut_10 rfl ?_
      refine am_iloadn d_X_liesAsLaidOut_11 rfl ?_
      refine am_cpsV [.int (nI i)] [] d_X_liesAsLaidOut_12 cV_X_179 rfl hV.1 rfl rfl (Nat.le_of_ble_eq_true rfl) (Nat.le_of_ble_eq_true rfl) (c_placeOf hV F hF hO hZ (i := i) (by omega) ?_)
      show am_W g (d + 1) mm_X_liesAsLaidOut (15, [some (.ref x), some (.ref v), some (.int (nI i))], [.int (sa + sv_pl F fs n i)]) S _
      refine am_aloadn d_X_liesAsLaidOut_15 rfl ?_
      refine am_get d_X_liesAsLaidOut_16 fl_X_21 hx0 rfl ?_
      refine am_iloadn d_X_liesAsLaidOut_19 rfl ?_
      refine am_ialdN (t := 0) (k := i) d_X_liesAsLaidOut_20 rfl hp0 (by omega) (by omega) ?_
      refine am_ti (b := G i) (hG i hlt) ?_
      refine am_iceq (tgt := 26) d_X_liesAsLaidOut_21 (by decide) (fun hz => ?_) (fun hz => ?_)
      · refine am_iinc (v := nI (i + 1)) (L' := [some (.ref x), some (.ref v), some (.int (nI (i + 1)))]) d_X_liesAsLaidOut_26 rfl (nI_1 i) (by decide) rfl rfl ?_
        refine am_goto (tgt := 2) d_X_liesAsLaidOut_29 (by decide) ?_
        exact ih (c - 1) (by omega) (i + 1) (by omega) (fun t ht => (Nat.lt_or_ge t i).elim (hI t) (fun z => (show t = i by omega) ▸ hz))
      · refine am_iconst 0 d_X_liesAsLaidOut_24 (by decide) ?_
        exact am_zret d_X_liesAsLaidOut_25 rfl rfl (h0 (fun q => hz (q i hlt)))
set_option maxHeartbeats 4000000 in
set_option maxRecDepth 100000 in
/-- liesAsLaidOut -/
theorem c_lies {g : am_G} {d : Nat} {S : am_S} {x B1 B2 B3 B4 B5 : Nat} {ns nv : Int32} (hx0 : S.1 x = some (.inr (2, [.ref B1, .ref B2, .int ns, .int nv, .ref B3, .ref B4, .ref B5]))) {Fp G : Nat → Int32} (hp0 : S.1 B3 = some (.inl (0, 3000, .inl Fp))) {N : Nat} (hG : ∀ t, t < N → Fp t = G t) {v st : Nat} {sa : Int32} {n : Nat} {ex sp : Nat} {fe fs : Nat → Int32} (hV : sv_V S.1 v st sa n (nI N) ex sp fe fs) (F : Nat → Nat) (hF : ∀ k, k < n → fe k = nI (F k)) (hO : sv_ok F n) (hN : sv_pr F n = N) (hN3 : N ≤ 3000) {P : am_O → am_S → Prop} (h1 : (∀ t, t < N → sa + sv_pl F fs n t = G t) → P (.inl (some (.int 1))) S) (h0 : ¬ (∀ t, t < N → sa + sv_pl F fs n t = G t) → P (.inl (some (.int 0))) S) : am_W g (d + 1) mm_X_liesAsLaidOut (0, am_ent [.ref x, .ref v] 3, []) S (P) := by
  show am_W g (d + 1) mm_X_liesAsLaidOut (0, [some (.ref x), some (.ref v), none], []) S _
  refine am_iconst 0 d_X_liesAsLaidOut_0 (by decide) ?_
  refine am_istoren (L' := [some (.ref x), some (.ref v), some (.int 0)]) d_X_liesAsLaidOut_1 (by decide) rfl rfl ?_
  exact c_lies_l hx0 hp0 hG hV F hF hO hN hN3 h1 h0 N 0 (Nat.zero_add _) (fun t ht => absurd ht (Nat.not_lt_zero t))
set_option maxHeartbeats 4000000 in
set_option maxRecDepth 100000 in
/-- foldInto, what is there at first -/
theorem c_fold_1 {g : am_G} {d : Nat} {S : am_S} {s rw N : Nat} {num ln vo : Int32} (hs0 : S.1 s = some (.inr (0, [.int num, .int ln, .ref rw, .int vo]))) {f0 : Nat → Int64} (hr0 : S.1 rw = some (.inl (1, N, .inr (.inl f0)))) (hN : N ≤ 300) {x v w : Nat} {t0 z5 : Int32} {P : am_O → am_S → Prop} (hK : ∀ S1 : am_S, S1.1 rw = some (.inl (1, N, .inr (.inl (fun i => if i < N then sv_neu t0 else 0)))) → sv_f1 S S1 rw → ∀ z8 : Int32, am_W g (d + 1) mm_X_foldInto (30, [some (.ref x), some (.ref s), some (.int t0), some (.ref v), some (.ref w), some (.int z5), some (.int z8), none], []) S1 P) : ∀ (c i : Nat), i + c = N → ∀ (S0 : am_S) (Fr : Nat → Int64), S0.1 rw = some (.inl (1, N, .inr (.inl Fr))) → sv_f1 S S0 rw → Fr = (fun j => if j < i then sv_neu t0 else 0) → am_W g (d + 1) mm_X_foldInto (3, [some (.ref x), some (.ref s), some (.int t0), some (.ref v), some (.ref w), some (.int z5), some (.int (nI i)), none], []) S0 P := by
  intro c
  induction c using Nat.strongRecOn with
  | ind c ih =>
    intro i hi S0 Fr hr hfr hI
    have hs := (hfr.2 s (am_nd hs0 hr0 (by simp [am_kd]))).trans hs0
    refine am_iload d_X_foldInto_3 rfl ?_
    refine am_aloadn d_X_foldInto_5 rfl ?_
    refine am_get d_X_foldInto_6 fl_X_176 hs rfl ?_
    refine am_alen (t := 1) d_X_foldInto_9 rfl hr ?_
    refine am_icge (tgt := 30) d_X_foldInto_10 (by decide) (fun hc => ?_) (fun hc => ?_)
    · have hk0 : N ≤ i := (nI_leI (by omega) (by omega)).mp hc
      obtain rfl : N = i := by omega
      exact hK S0 (by rw [← hI]; exact hr) hfr (nI N)
    · have hlt : i < N := Nat.lt_of_not_le (fun q => hc (nI_le q (by omega)))
      refine am_aloadn d_X_foldInto_13 rfl ?_
      refine am_get d_X_foldInto_14 fl_X_176 hs rfl ?_
      refine am_iload d_X_foldInto_17 rfl ?_
      refine am_iloadn d_X_foldInto_19 rfl ?_
      refine am_cpsS [.int t0] [.int (nI i), .ref rw] d_X_foldInto_20 cS_X_269 rfl rfl rfl (Nat.le_of_ble_eq_true rfl) (Nat.le_of_ble_eq_true rfl) (c_neutral t0 ?_)
      show am_W g (d + 1) mm_X_foldInto (23, [some (.ref x), some (.ref s), some (.int t0), some (.ref v), some (.ref w), some (.int z5), some (.int (nI i)), none], [.long (sv_neu t0), .int (nI i), .ref rw]) S0 _
      refine am_lastN (t := 1) d_X_foldInto_23 rfl hr (by omega) (by omega) ?_
      obtain ⟨S_1, eS_1⟩ : ∃ z : am_S, z = (am_up S0.1 rw (.inl (1, N, .inr (.inl (vp_updL Fr i (sv_neu t0))))), S0.2) := ⟨_, rfl⟩
      change am_W _ _ _ _ (am_up S0.1 rw (.inl (1, N, .inr (.inl (vp_updL Fr i (sv_neu t0))))), S0.2) _
      rw [← eS_1]
      have h_2 : S_1.1 s = some (.inr (0, [.int num, .int ln, .ref rw, .int vo])) := by rw [eS_1]; exact (am_up_n (am_nd hs hr (by simp [am_kd]))).trans hs
      have hf_3 : sv_f1 S S_1 rw := by rw [eS_1]; exact hfr.u
      have h_4 : S_1.1 rw = some (.inl (1, N, .inr (.inl (vp_updL Fr i (sv_neu t0))))) := by rw [eS_1]; exact am_up_s
      have hnS_1 : S_1.2.1 = S0.2.1 := by rw [eS_1]
      have hzS_1 : S_1.2.2 = S0.2.2 := by rw [eS_1]
      refine am_iinc (v := nI (i + 1)) (L' := [some (.ref x), some (.ref s), some (.int t0), some (.ref v), some (.ref w), some (.int z5), some (.int (nI (i + 1))), none]) d_X_foldInto_24 rfl (nI_1 i) (by decide) rfl rfl ?_
      refine am_goto (tgt := 3) d_X_foldInto_27 (by decide) ?_
      refine ih (c - 1) (by omega) (i + 1) (by omega) _ _ h_4 hf_3 ?_
      rw [hI]
      funext t
      by_cases e : t = i
      · subst e
        rw [pk_uLs, if_pos (by omega)]
      · rw [pk_uLn e]
        exact sv_ifc (by omega)
set_option maxHeartbeats 4000000 in
set_option maxRecDepth 100000 in
/-- foldInto, item after item -/
theorem c_fold_2 {g : am_G} {d : Nat} {S : am_S} {x B1 B2 B3 B4 B5 : Nat} {ns nv : Int32} (hx0 : S.1 x = some (.inr (2, [.ref B1, .ref B2, .int ns, .int nv, .ref B3, .ref B4, .ref B5]))) {s rw N : Nat} {num ln vo : Int32} (hs0 : S.1 s = some (.inr (0, [.int num, .int ln, .ref rw, .int vo]))) {f0 : Nat → Int64} (hr0 : S.1 rw = some (.inl (1, N, .inr (.inl f0)))) (hN : N ≤ 300) {Fp : Nat → Int32} (hp0 : S.1 B3 = some (.inl (0, 3000, .inl Fp))) {Fn nu : Nat → Int64} (hn0 : S.1 B4 = some (.inl (1, 3000, .inr (.inl Fn)))) {u st ex sp : Nat} {sa xs : Int32} {M : Nat} (hu0 : S.1 u = some (.inr (1, [.ref st, .int sa, .int xs, .int (nI M), .ref ex, .ref sp]))) (hM : M ≤ 3000) {A : Nat → Nat} (hG : ∀ t, t < M → Fp t = nI (A t)) (hNu : ∀ t, t < M → Fn t = nu t) (hAN : ∀ t, t < M → A t < N) (hrB : rw ≠ B4) {v w : Nat} {t0 z5 : Int32} {P : am_O → am_S → Prop} (hP : ∀ S1 : am_S, S1.1 rw = some (.inl (1, N, .inr (.inl (sv_fo t0 A nu f0 M)))) → sv_f1 S S1 rw → P (.inl none) S1) : ∀ (c i : Nat), i + c = M → ∀ (S0 : am_S), S0.1 rw = some (.inl (1, N, .inr (.inl (sv_fo t0 A nu f0 i)))) → sv_f1 S S0 rw → am_W g (d + 1) mm_X_foldInto (74, [some (.ref x), some (.ref s), some (.int t0), some (.ref v), some (.ref w), some (.int z5), some (.ref u), some (.int (nI i))], []) S0 P := by
  intro c
  induction c using Nat.strongRecOn with
  | ind c ih =>
    intro i hi S0 hr hfr
    have hx := (hfr.2 x (am_nd hx0 hr0 (by simp [am_kd]))).trans hx0
    have hp := (hfr.2 B3 (am_nd hp0 hr0 (by simp [am_kd]))).trans hp0
    have hn := (hfr.2 B4 (fun q => hrB q.symm)).trans hn0
    have hu := (hfr.2 u (am_nd hu0 hr0 (by simp [am_kd]))).trans hu0
    have hs := (hfr.2 s (am_nd hs0 hr0 (by simp [am_kd]))).trans hs0
    refine am_iload d_X_foldInto_74 rfl ?_
    refine am_aload d_X_foldInto_76 rfl ?_
    refine am_get d_X_foldInto_78 fl_X_139 hu rfl ?_
    refine am_icge (tgt := 125) d_X_foldInto_81 (by decide) (fun hc => ?_) (fun hc => ?_)
    · have hk0 : M ≤ i := (nI_leI (by omega) (by omega)).mp hc
      obtain rfl : M = i := by omega
      exact am_vret d_X_foldInto_125 rfl (hP S0 hr hfr)
    · have hlt : i < M := Nat.lt_of_not_le (fun q => hc (nI_le q (by omega)))
      have hA := hAN i hlt
      refine am_aloadn d_X_foldInto_84 rfl ?_
      refine am_get d_X_foldInto_85 fl_X_176 hs rfl ?_
      refine am_aloadn d_X_foldInto_88 rfl ?_
      refine am_get d_X_foldInto_89 fl_X_21 hx rfl ?_
      refine am_iload d_X_foldInto_92 rfl ?_
      refine am_ialdN (t := 0) (k := i) d_X_foldInto_94 rfl hp (by omega) (by omega) ?_
      refine am_ti (b := nI (A i)) (hG i hlt) ?_
      refine am_iloadn d_X_foldInto_95 rfl ?_
      refine am_aloadn d_X_foldInto_96 rfl ?_
      refine am_get d_X_foldInto_97 fl_X_176 hs rfl ?_
      refine am_aloadn d_X_foldInto_100 rfl ?_
      refine am_get d_X_foldInto_101 fl_X_21 hx rfl ?_
      refine am_iload d_X_foldInto_104 rfl ?_
      refine am_ialdN (t := 0) (k := i) d_X_foldInto_106 rfl hp (by omega) (by omega) ?_
      refine am_ti (b := nI (A i)) (hG i hlt) ?_
      refine am_laldN (t := 1) (k := A i) d_X_foldInto_107 rfl hr hA (by omega) ?_
      refine am_aloadn d_X_foldInto_108 rfl ?_
      refine am_get d_X_foldInto_109 fl_X_25 hx rfl ?_
      refine am_iload d_X_foldInto_112 rfl ?_
      refine am_laldN (t := 1) (k := i) d_X_foldInto_114 rfl hn (by omega) (by omega) ?_
      refine am_tl (b := nu i) (hNu i hlt) ?_
      refine am_cpsS [.int t0, .long ((sv_fo t0 A nu f0 i) (A i)), .long (nu i)] [.int (nI (A i)), .ref rw] d_X_foldInto_115 cS_X_195 rfl rfl rfl (Nat.le_of_ble_eq_true rfl) (Nat.le_of_ble_eq_true rfl) (c_reckon t0 (sv_fo t0 A nu f0 i (A i)) (nu i) ?_)
      show am_W g (d + 1) mm_X_foldInto (118, [some (.ref x), some (.ref s), some (.int t0), some (.ref v), some (.ref w), some (.int z5), some (.ref u), some (.int (nI i))], [.long (sv_act t0 (sv_fo t0 A nu f0 i (A i)) (nu i)), .int (nI (A i)), .ref rw]) S0 _
      refine am_lastN (t := 1) d_X_foldInto_118 rfl hr hA (by omega) ?_
      obtain ⟨S_1, eS_1⟩ : ∃ z : am_S, z = (am_up S0.1 rw (.inl (1, N, .inr (.inl (vp_updL (sv_fo t0 A nu f0 i) (A i) (sv_act t0 (sv_fo t0 A nu f0 i (A i)) (nu i)))))), S0.2) := ⟨_, rfl⟩
      change am_W _ _ _ _ (am_up S0.1 rw (.inl (1, N, .inr (.inl (vp_updL (sv_fo t0 A nu f0 i) (A i) (sv_act t0 (sv_fo t0 A nu f0 i (A i)) (nu i)))))), S0.2) _
      rw [← eS_1]
      have h_2 : S_1.1 x = some (.inr (2, [.ref B1, .ref B2, .int ns, .int nv, .ref B3, .ref B4, .ref B5])) := by rw [eS_1]; exact (am_up_n (am_nd hx hr (by simp [am_kd]))).trans hx
      have h_3 : S_1.1 B3 = some (.inl (0, 3000, .inl Fp)) := by rw [eS_1]; exact (am_up_n (am_nd hp hr (by simp [am_kd]))).trans hp
      have h_4 : S_1.1 B4 = some (.inl (1, 3000, .inr (.inl Fn))) := by rw [eS_1]; exact (am_up_n (fun q => hrB q.symm)).trans hn
      have h_5 : S_1.1 u = some (.inr (1, [.ref st, .int sa, .int xs, .int (nI M), .ref ex, .ref sp])) := by rw [eS_1]; exact (am_up_n (am_nd hu hr (by simp [am_kd]))).trans hu
      have h_6 : S_1.1 s = some (.inr (0, [.int num, .int ln, .ref rw, .int vo])) := by rw [eS_1]; exact (am_up_n (am_nd hs hr (by simp [am_kd]))).trans hs
      have hf_7 : sv_f1 S S_1 rw := by rw [eS_1]; exact hfr.u
      have h_8 : S_1.1 rw = some (.inl (1, N, .inr (.inl (vp_updL (sv_fo t0 A nu f0 i) (A i) (sv_act t0 (sv_fo t0 A nu f0 i (A i)) (nu i)))))) := by rw [eS_1]; exact am_up_s
      have hnS_1 : S_1.2.1 = S0.2.1 := by rw [eS_1]
      have hzS_1 : S_1.2.2 = S0.2.2 := by rw [eS_1]
      refine am_iinc (v := nI (i + 1)) (L' := [some (.ref x), some (.ref s), some (.int t0), some (.ref v), some (.ref w), some (.int z5), some (.ref u), some (.int (nI (i + 1)))]) d_X_foldInto_119 rfl (nI_1 i) (by decide) rfl rfl ?_
      refine am_goto (tgt := 74) d_X_foldInto_122 (by decide) ?_
      exact ih (c - 1) (by omega) (i + 1) (by omega) _ h_8 hf_7
