/-! the reference: shape, the steps -/
set_option maxHeartbeats 4000000 in
set_option maxRecDepth 100000 in
/-- findSteps, the steps -/
theorem m_find_1 {g : am_G} {d : Nat} {S : am_S} {T : sv_T} {th : Int32} {na : Nat} {ne rd : Nat → Int64} {mt : Nat → Int32} {j : Nat} (hj : j < T.nv) (E : Nat → Nat) (hE : ∀ k, k < na → ne k = lN (E k)) (hO : sv_ok E na) (hna : na ≤ 3) (hpr : sv_pr E na = (T.vw j).it) (h0 : 0 < (T.vw j).it) {P : am_O → am_S → Prop} (hK : ∀ (S1 : am_S) (Nw : Nat → Int64), sv_N g S1.1 T th na ne Nw rd mt → sv_MF g S S1 → (∀ i, i < na → Nw i = (sv_gs (T.vw j) na E i).toInt64) → ∀ z3 z4 : Int32, am_W g (d + 2) mm_M_findSteps (83, [some (.ref (g.2.2.1 + 6)), some (.int (nI j)), some (.int (nI (T.vw j).it)), some (.int z3), some (.int z4), none, none, none, none, none], []) S1 P) : ∀ (m : Nat), m ≤ na → ∀ (S0 : am_S) (Nw : Nat → Int64), sv_N g S0.1 T th na ne Nw rd mt → sv_MF g S S0 → (∀ i, i < na → m ≤ i → Nw i = (sv_gs (T.vw j) na E i).toInt64) → am_W g (d + 2) mm_M_findSteps (22, [some (.ref (g.2.2.1 + 6)), some (.int (nI j)), some (.int (nI (T.vw j).it)), some (.int (nI (sv_dp E na (na - m)))), some (.int (sv_dn m)), none, none, none, none, none], []) S0 P := by
  intro m
  induction m with
  | zero =>
    intro hm S0 Nw hN hfr hI
    obtain ⟨fl, fz, fN, fS, fa, fx, fe, fs, ⟨m0, m1, m2, m3, m4, m5, m6, m7, m8, m9, m10, m11, m12⟩, ⟨t1, t2, t3⟩, hw⟩ := id hN
    have h80 := hw.2.1
    obtain ⟨w1, w2, w3, w4, w5, w6, w7⟩ := hw.2.2.2 j hj
    have hZ : ∀ k, k < na → 0 < E k := sv_pr_pos (by rw [hpr]; exact h0)
    refine am_iload d_M_findSteps_22 rfl ?_
    refine am_iflt (tgt := 83) d_M_findSteps_24 (by decide) (fun hc => ?_) (fun hc => ?_)
    · exact hK S0 Nw hN hfr (fun i hi => hI i hi (Nat.zero_le i)) (nI (sv_dp E na (na - 0))) (sv_dn 0)
    · exact absurd sv_dn_0 hc
  | succ m ih =>
    intro hm S0 Nw hN hfr hI
    obtain ⟨fl, fz, fN, fS, fa, fx, fe, fs, ⟨m0, m1, m2, m3, m4, m5, m6, m7, m8, m9, m10, m11, m12⟩, ⟨t1, t2, t3⟩, hw⟩ := id hN
    have h80 := hw.2.1
    obtain ⟨w1, w2, w3, w4, w5, w6, w7⟩ := hw.2.2.2 j hj
    have hZ : ∀ k, k < na → 0 < E k := sv_pr_pos (by rw [hpr]; exact h0)
    refine am_iload d_M_findSteps_22 rfl ?_
    refine am_iflt (tgt := 83) d_M_findSteps_24 (by decide) (fun hc => ?_) (fun hc => ?_)
    · exact absurd hc (sv_dn_n (by omega))
    · obtain ⟨D, hDe⟩ : ∃ D, D = sv_dp E na (na - (m + 1)) := ⟨_, rfl⟩
      rw [sv_dn_s m, ← hDe]
      have hD2 : sv_dp E na (na - m) = D * E m := by
        rw [show na - m = (na - (m + 1)) + 1 by omega, sv_dp_s E _ na (by omega), ← hDe, show na - 1 - (na - (m + 1)) = m by omega]
      have hD3 : D * E m ≤ (T.vw j).it := by rw [← hD2, ← hpr]; exact sv_dp_le E hZ _ (by omega)
      have hDp : 0 < D := by rw [hDe]; exact sv_dp_pos E hZ _ (by omega)
      have hOm := hO m (by omega)
      refine am_aloadn d_M_findSteps_27 rfl ?_
      refine am_get d_M_findSteps_28 fl_M_38 m0 rfl ?_
      refine am_iload d_M_findSteps_31 rfl ?_
      refine am_aloadn d_M_findSteps_33 rfl ?_
      refine am_get d_M_findSteps_34 fl_M_35 m0 rfl ?_
      refine am_iload d_M_findSteps_37 rfl ?_
      refine am_laldN (t := 1) (k := m) d_M_findSteps_39 rfl m9 (by omega) (by omega) ?_
      refine am_tl (b := lN (E m)) (hE m (by omega)) ?_
      refine am_ldc2 2 d_M_findSteps_40 (am_in 609 (by decide +kernel) rfl) ?_
      refine am_lcmp d_M_findSteps_43 ?_
      refine am_cut (F := (65, [some (.ref (g.2.2.1 + 6)), some (.int (nI j)), some (.int (nI (T.vw j).it)), some (.int (nI D)), some (.int (nI m)), none, none, none, none, none], [.long ((sv_gs (T.vw j) na E m).toInt64), .int (nI m), .ref (g.2.2.1 + 16)])) ?_ (fun key => ?_)
      · refine am_lastN (t := 1) d_M_findSteps_65 rfl m10 (by omega) (by omega) ?_
        obtain ⟨S_1, eS_1⟩ : ∃ z : am_S, z = (am_up S0.1 (g.2.2.1 + 16) (.inl (1, 5, .inr (.inl (vp_updL Nw m ((sv_gs (T.vw j) na E m).toInt64))))), S0.2) := ⟨_, rfl⟩
        change am_W _ _ _ _ (am_up S0.1 (g.2.2.1 + 16) (.inl (1, 5, .inr (.inl (vp_updL Nw m ((sv_gs (T.vw j) na E m).toInt64))))), S0.2) _
        rw [← eS_1]
        have h_2 : S_1.1 (g.2.2.1 + 6) = some (.inr (3, [.int th, .int (nI T.ns), .ref (g.2.2.1 + 7), .ref (g.2.2.1 + 8), .ref (g.2.2.1 + 9), .int (nI T.nv), .ref (g.2.2.1 + 10), .ref (g.2.2.1 + 11), .ref (g.2.2.1 + 12), .ref (g.2.2.1 + 13), .ref (g.2.2.1 + 14), .ref (g.2.2.1 + 15), .ref (g.2.2.1 + 16), .int (nI na), .ref (g.2.2.1 + 17), .ref (g.2.2.1 + 18)])) := by rw [eS_1]; exact (am_up_n (by omega)).trans m0
        have h_3 : S_1.1 (g.2.2.1 + 7) = some (.inl (0, 12, .inl fl)) := by rw [eS_1]; exact (am_up_n (by omega)).trans m1
        have h_4 : S_1.1 (g.2.2.1 + 8) = some (.inl (0, 12, .inl fz)) := by rw [eS_1]; exact (am_up_n (by omega)).trans m2
        have h_5 : S_1.1 (g.2.2.1 + 9) = some (.inl (1, 3600, .inr (.inl fN))) := by rw [eS_1]; exact (am_up_n (by omega)).trans m3
        have h_6 : S_1.1 (g.2.2.1 + 10) = some (.inl (0, 80, .inl fS)) := by rw [eS_1]; exact (am_up_n (by omega)).trans m4
        have h_7 : S_1.1 (g.2.2.1 + 11) = some (.inl (0, 80, .inl fa)) := by rw [eS_1]; exact (am_up_n (by omega)).trans m5
        have h_8 : S_1.1 (g.2.2.1 + 12) = some (.inl (0, 80, .inl fx)) := by rw [eS_1]; exact (am_up_n (by omega)).trans m6
        have h_9 : S_1.1 (g.2.2.1 + 13) = some (.inl (0, 320, .inl fe)) := by rw [eS_1]; exact (am_up_n (by omega)).trans m7
        have h_10 : S_1.1 (g.2.2.1 + 14) = some (.inl (0, 320, .inl fs)) := by rw [eS_1]; exact (am_up_n (by omega)).trans m8
        have h_11 : S_1.1 (g.2.2.1 + 15) = some (.inl (1, 5, .inr (.inl ne))) := by rw [eS_1]; exact (am_up_n (by omega)).trans m9
        have h_12 : S_1.1 (g.2.2.1 + 17) = some (.inl (1, 3000, .inr (.inl rd))) := by rw [eS_1]; exact (am_up_n (by omega)).trans m11
        have h_13 : S_1.1 (g.2.2.1 + 18) = some (.inl (2, 300, .inl mt)) := by rw [eS_1]; exact (am_up_n (by omega)).trans m12
        have hf_14 : sv_MF g S S_1 := by rw [eS_1]; exact hfr.u (by omega) (by omega)
        have h_15 : S_1.1 (g.2.2.1 + 16) = some (.inl (1, 5, .inr (.inl (vp_updL Nw m ((sv_gs (T.vw j) na E m).toInt64))))) := by rw [eS_1]; exact am_up_s
        have hnS_1 : S_1.2.1 = S0.2.1 := by rw [eS_1]
        have hzS_1 : S_1.2.2 = S0.2.2 := by rw [eS_1]
        refine am_iloadn d_M_findSteps_66 rfl ?_
        refine am_aloadn d_M_findSteps_67 rfl ?_
        refine am_get d_M_findSteps_68 fl_M_35 h_2 rfl ?_
        refine am_iload d_M_findSteps_71 rfl ?_
        refine am_laldN (t := 1) (k := m) d_M_findSteps_73 rfl h_11 (by omega) (by omega) ?_
        refine am_tl (b := lN (E m)) (hE m (by omega)) ?_
        refine am_l2i d_M_findSteps_74 ?_
        refine am_ti (b := nI (E m)) (lN_i _) ?_
        refine am_imul d_M_findSteps_75 ?_
        refine am_ti (b := nI (D * E m)) (pk_mul _ _) ?_
        refine am_istoren (L' := [some (.ref (g.2.2.1 + 6)), some (.int (nI j)), some (.int (nI (T.vw j).it)), some (.int (nI (D * E m))), some (.int (nI m)), none, none, none, none, none]) d_M_findSteps_76 (by decide) rfl rfl ?_
        refine am_iinc (v := sv_dn m) (L' := [some (.ref (g.2.2.1 + 6)), some (.int (nI j)), some (.int (nI (T.vw j).it)), some (.int (nI (D * E m))), some (.int (sv_dn m)), none, none, none, none, none]) d_M_findSteps_77 rfl (sv_dn_d m) (by decide) rfl rfl ?_
        refine am_goto (tgt := 22) d_M_findSteps_80 (by decide) ?_
        rw [← hD2]
        refine ih (by omega) _ _ ⟨fl, fz, fN, fS, fa, fx, fe, fs, ⟨h_2, h_3, h_4, h_5, h_6, h_7, h_8, h_9, h_10, h_11, h_15, h_12, h_13⟩, ⟨t1, t2, t3⟩, hw⟩ hf_14 (fun i hi hmi => ?_)
        by_cases e : i = m
        · subst e
          exact pk_uLs
        · rw [pk_uLn e]
          exact hI i hi (by omega)
      · refine am_ifge (tgt := 51) d_M_findSteps_44 (by decide) (fun hz => ?_) (fun hz => ?_)
        · have h2 : ¬ E m < 2 := fun q => Int32.not_lt.mpr hz (sv_lcl.mpr ((pk_lLT (b := 2) (by omega) (by decide)).mpr q))
          have hDN : D < (T.vw j).it := by have := Nat.mul_le_mul_left D (show 2 ≤ E m by omega); omega
          refine am_aloadn d_M_findSteps_51 rfl ?_
          refine am_iloadn d_M_findSteps_52 rfl ?_
          refine am_iloadn d_M_findSteps_53 rfl ?_
          refine am_cpsV [.int (nI j), .int (nI D)] [.int (nI m), .ref (g.2.2.1 + 16)] d_M_findSteps_54 cV_M_70 rfl m0 rfl rfl (Nat.le_of_ble_eq_true rfl) (Nat.le_of_ble_eq_true rfl) (m_place hN hj (i := D) hDN ?_)
          show am_W g (d + 2) mm_M_findSteps (57, [some (.ref (g.2.2.1 + 6)), some (.int (nI j)), some (.int (nI (T.vw j).it)), some (.int (nI D)), some (.int (nI m)), none, none, none, none, none], [.int ((T.vw j).pl D), .int (nI m), .ref (g.2.2.1 + 16)]) S0 _
          refine am_aloadn d_M_findSteps_57 rfl ?_
          refine am_iloadn d_M_findSteps_58 rfl ?_
          refine am_iconst 0 d_M_findSteps_59 (by decide) ?_
          show am_W _ _ _ (_, _, .int (nI 0) :: _) _ _
          refine am_cpsV [.int (nI j), .int (nI 0)] [.int ((T.vw j).pl D), .int (nI m), .ref (g.2.2.1 + 16)] d_M_findSteps_60 cV_M_70 rfl m0 rfl rfl (Nat.le_of_ble_eq_true rfl) (Nat.le_of_ble_eq_true rfl) (m_place hN hj (i := 0) h0 ?_)
          show am_W g (d + 2) mm_M_findSteps (63, [some (.ref (g.2.2.1 + 6)), some (.int (nI j)), some (.int (nI (T.vw j).it)), some (.int (nI D)), some (.int (nI m)), none, none, none, none, none], [.int ((T.vw j).pl 0), .int ((T.vw j).pl D), .int (nI m), .ref (g.2.2.1 + 16)]) S0 _
          refine am_isub d_M_findSteps_63 ?_
          refine am_ti (b := (sv_gs (T.vw j) na E m)) (by rw [sv_gs, if_neg h2, show na - 1 - m = na - (m + 1) by omega, ← hDe]) ?_
          refine am_i2l d_M_findSteps_64 ?_
          exact key
        · refine am_lconst 0 d_M_findSteps_47 (by decide) ?_
          refine am_goto (tgt := 65) d_M_findSteps_48 (by decide) ?_
          have h2 : E m < 2 := (pk_lLT (b := 2) (by omega) (by decide)).mp (sv_lcl.mp (Int32.not_le.mp hz))
          rw [show (sv_gs (T.vw j) na E m) = 0 from if_pos h2] at key
          exact key
set_option maxHeartbeats 4000000 in
set_option maxRecDepth 100000 in
/-- findSteps, a place -/
theorem m_find_k {g : am_G} {d : Nat} {S : am_S} {T : sv_T} {th : Int32} {na : Nat} {ne nw rd : Nat → Int64} {mt : Nat → Int32} (hM : sv_N g S.1 T th na ne nw rd mt) {j : Nat} (hj : j < T.nv) (E : Nat → Nat) (hE : ∀ k, k < na → ne k = lN (E k)) (hO : sv_ok E na) (hna : na ≤ 3) (hpr : sv_pr E na = (T.vw j).it) (h0 : 0 < (T.vw j).it) {i : Nat} {z3 : Int32} {X : Int64} {P : am_O → am_S → Prop} (hK : ∀ z8 z9 : Int32, am_W g d mm_M_findSteps (170, [some (.ref (g.2.2.1 + 6)), some (.int (nI j)), some (.int (nI (T.vw j).it)), some (.int z3), some (.int (sv_if (∀ t, t < i → (T.vw j).sa + sv_pl E (sv_gs (T.vw j) na E) na t = (T.vw j).pl t) 1 0)), some (.int (nI i)), some (.long X), none, some (.int z8), some (.int z9)], []) S P) : ∀ (m : Nat), m ≤ na → ∀ (pv : Int64) (r : Nat), pv + sv_plL E nw m r = X → r < 2 ^ 31 → am_W g d mm_M_findSteps (121, [some (.ref (g.2.2.1 + 6)), some (.int (nI j)), some (.int (nI (T.vw j).it)), some (.int z3), some (.int (sv_if (∀ t, t < i → (T.vw j).sa + sv_pl E (sv_gs (T.vw j) na E) na t = (T.vw j).pl t) 1 0)), some (.int (nI i)), some (.long pv), none, some (.int (nI r)), some (.int (sv_dn m))], []) S P := by
  obtain ⟨fl, fz, fN, fS, fa, fx, fe, fs, ⟨m0, m1, m2, m3, m4, m5, m6, m7, m8, m9, m10, m11, m12⟩, ⟨t1, t2, t3⟩, hw⟩ := id hM
  have h80 := hw.2.1
  have h12 := hw.1
  have hZ : ∀ k, k < na → 0 < E k := sv_pr_pos (by rw [hpr]; exact h0)
  intro m
  induction m with
  | zero =>
    intro hm pv r hX hr
    refine am_iload d_M_findSteps_121 rfl ?_
    refine am_iflt (tgt := 170) d_M_findSteps_123 (by decide) (fun hc => ?_) (fun hc => ?_)
    · have h9 : pv = X := by rw [← hX]; show pv = pv + 0; rw [Int64.add_zero]
      rw [h9]
      exact hK (nI r) (sv_dn 0)
    · exact absurd sv_dn_0 hc
  | succ m ih =>
    intro hm pv r hX hr
    refine am_iload d_M_findSteps_121 rfl ?_
    refine am_iflt (tgt := 170) d_M_findSteps_123 (by decide) (fun hc => ?_) (fun hc => ?_)
    · exact absurd hc (sv_dn_n (by omega))
    · rw [sv_dn_s m]
      have hO9 := hO m (by omega)
      have hZ9 := hZ m (by omega)
      refine am_lload d_M_findSteps_126 rfl ?_
      refine am_iload d_M_findSteps_128 rfl ?_
      refine am_aloadn d_M_findSteps_130 rfl ?_
      refine am_get d_M_findSteps_131 fl_M_35 m0 rfl ?_
      refine am_iload d_M_findSteps_134 rfl ?_
      refine am_laldN (t := 1) (k := m) d_M_findSteps_136 rfl m9 (by omega) (by omega) ?_
      refine am_tl (b := lN (E m)) (hE m (by omega)) ?_
      refine am_l2i d_M_findSteps_137 ?_
      refine am_ti (b := nI (E m)) (lN_i _) ?_
      refine am_irem d_M_findSteps_138 (nI_ne0 hZ9 hO9) ?_
      refine am_ti (b := nI (r % E m)) (pk_rem hr hZ9 hO9) ?_
      refine am_i2l d_M_findSteps_139 ?_
      refine am_tl (b := lN (r % E m)) (nI_l (Nat.lt_of_le_of_lt (Nat.mod_le _ _) hr)) ?_
      refine am_aloadn d_M_findSteps_140 rfl ?_
      refine am_get d_M_findSteps_141 fl_M_38 m0 rfl ?_
      refine am_iload d_M_findSteps_144 rfl ?_
      refine am_laldN (t := 1) (k := m) d_M_findSteps_146 rfl m10 (by omega) (by omega) ?_
      refine am_lmul d_M_findSteps_147 ?_
      refine am_ladd d_M_findSteps_148 ?_
      refine am_lstore (L' := [some (.ref (g.2.2.1 + 6)), some (.int (nI j)), some (.int (nI (T.vw j).it)), some (.int z3), some (.int (sv_if (∀ t, t < i → (T.vw j).sa + sv_pl E (sv_gs (T.vw j) na E) na t = (T.vw j).pl t) 1 0)), some (.int (nI i)), some (.long (pv + ((lN (r % E m)) * (nw m)))), none, some (.int (nI r)), some (.int (nI m))]) d_M_findSteps_149 (by decide) rfl rfl ?_
      refine am_iload d_M_findSteps_151 rfl ?_
      refine am_aloadn d_M_findSteps_153 rfl ?_
      refine am_get d_M_findSteps_154 fl_M_35 m0 rfl ?_
      refine am_iload d_M_findSteps_157 rfl ?_
      refine am_laldN (t := 1) (k := m) d_M_findSteps_159 rfl m9 (by omega) (by omega) ?_
      refine am_tl (b := lN (E m)) (hE m (by omega)) ?_
      refine am_l2i d_M_findSteps_160 ?_
      refine am_ti (b := nI (E m)) (lN_i _) ?_
      refine am_idiv d_M_findSteps_161 (nI_ne0 hZ9 hO9) ?_
      refine am_ti (b := nI (r / E m)) (pk_div hr hZ9 hO9) ?_
      refine am_istore (L' := [some (.ref (g.2.2.1 + 6)), some (.int (nI j)), some (.int (nI (T.vw j).it)), some (.int z3), some (.int (sv_if (∀ t, t < i → (T.vw j).sa + sv_pl E (sv_gs (T.vw j) na E) na t = (T.vw j).pl t) 1 0)), some (.int (nI i)), some (.long (pv + ((lN (r % E m)) * (nw m)))), none, some (.int (nI (r / E m))), some (.int (nI m))]) d_M_findSteps_162 (by decide) rfl rfl ?_
      refine am_iinc (v := sv_dn m) (L' := [some (.ref (g.2.2.1 + 6)), some (.int (nI j)), some (.int (nI (T.vw j).it)), some (.int z3), some (.int (sv_if (∀ t, t < i → (T.vw j).sa + sv_pl E (sv_gs (T.vw j) na E) na t = (T.vw j).pl t) 1 0)), some (.int (nI i)), some (.long (pv + ((lN (r % E m)) * (nw m)))), none, some (.int (nI (r / E m))), some (.int (sv_dn m))]) d_M_findSteps_164 rfl (sv_dn_d m) (by decide) rfl rfl ?_
      refine am_goto (tgt := 121) d_M_findSteps_167 (by decide) ?_
      exact ih (by omega) _ (r / E m) (by rw [← hX]; show _ = pv + (lN (r % E m) * nw m + sv_plL E nw m (r / E m)); rw [Int64.add_assoc]) (Nat.lt_of_le_of_lt (Nat.div_le_self r (E m)) hr)
set_option maxHeartbeats 4000000 in
set_option maxRecDepth 100000 in
/-- findSteps, the test -/
theorem m_find_2 {g : am_G} {d : Nat} {S : am_S} {T : sv_T} {th : Int32} {na : Nat} {ne nw rd : Nat → Int64} {mt : Nat → Int32} (hM : sv_N g S.1 T th na ne nw rd mt) {j : Nat} (hj : j < T.nv) (E : Nat → Nat) (hE : ∀ k, k < na → ne k = lN (E k)) (hO : sv_ok E na) (hna : na ≤ 3) (hpr : sv_pr E na = (T.vw j).it) (h0 : 0 < (T.vw j).it) (hI : ∀ k, k < na → nw k = (sv_gs (T.vw j) na E k).toInt64) {z3 : Int32} {P : am_O → am_S → Prop} (hP : P (.inl (some (.int (sv_if (∀ t, t < (T.vw j).it → (T.vw j).sa + sv_pl E (sv_gs (T.vw j) na E) na t = (T.vw j).pl t) 1 0)))) S) : ∀ (c i : Nat), i + c = (T.vw j).it → am_W g (d + 2) mm_M_findSteps (89, [some (.ref (g.2.2.1 + 6)), some (.int (nI j)), some (.int (nI (T.vw j).it)), some (.int z3), some (.int (sv_if (∀ t, t < i → (T.vw j).sa + sv_pl E (sv_gs (T.vw j) na E) na t = (T.vw j).pl t) 1 0)), some (.int (nI i)), none, none, none, none], []) S P := by
  obtain ⟨fl, fz, fN, fS, fa, fx, fe, fs, ⟨m0, m1, m2, m3, m4, m5, m6, m7, m8, m9, m10, m11, m12⟩, ⟨t1, t2, t3⟩, hw⟩ := id hM
  have h80 := hw.2.1
  have h12 := hw.1
  obtain ⟨v1, v2, v3, v4⟩ := t3 j hj
  obtain ⟨w1, w2, w3, w4, w5, w6, w7⟩ := hw.2.2.2 j hj
  intro c
  induction c using Nat.strongRecOn with
  | ind c ih =>
    intro i hi
    refine am_iload d_M_findSteps_89 rfl ?_
    refine am_iloadn d_M_findSteps_91 rfl ?_
    refine am_icge (tgt := 197) d_M_findSteps_92 (by decide) (fun hc => ?_) (fun hc => ?_)
    · have hk9 : (T.vw j).it ≤ i := (nI_leI (by omega) (by omega)).mp hc
      obtain rfl : i = (T.vw j).it := by omega
      refine am_iload d_M_findSteps_197 rfl ?_
      exact am_zret d_M_findSteps_199 rfl sv_bo_n hP
    · have hlt : i < (T.vw j).it := Nat.lt_of_not_le (fun q => hc (nI_le q (by omega)))
      refine am_iload d_M_findSteps_95 rfl ?_
      refine am_ifeq (tgt := 197) d_M_findSteps_97 (by decide) (fun hz => ?_) (fun hz => ?_)
      · rw [sv_if_eq (show (∀ t, t < i → (T.vw j).sa + sv_pl E (sv_gs (T.vw j) na E) na t = (T.vw j).pl t) ↔ (∀ t, t < (T.vw j).it → (T.vw j).sa + sv_pl E (sv_gs (T.vw j) na E) na t = (T.vw j).pl t) from ⟨fun q => absurd q (sv_b0 hz), fun q => absurd (fun t ht => q t (by omega)) (sv_b0 hz)⟩)]
        refine am_iload d_M_findSteps_197 rfl ?_
        exact am_zret d_M_findSteps_199 rfl sv_bo_n hP
      · have hso := sv_b1 hz
        refine am_aloadn d_M_findSteps_100 rfl ?_
        refine am_iloadn d_M_findSteps_101 rfl ?_
        refine am_iconst 0 d_M_findSteps_102 (by decide) ?_
        show am_W _ _ _ (_, _, .int (nI 0) :: _) _ _
        refine am_cpsV [.int (nI j), .int (nI 0)] [] d_M_findSteps_103 cV_M_70 rfl m0 rfl rfl (Nat.le_of_ble_eq_true rfl) (Nat.le_of_ble_eq_true rfl) (m_place hM hj (i := 0) h0 ?_)
        show am_W g (d + 2) mm_M_findSteps (106, [some (.ref (g.2.2.1 + 6)), some (.int (nI j)), some (.int (nI (T.vw j).it)), some (.int z3), some (.int (sv_if (∀ t, t < i → (T.vw j).sa + sv_pl E (sv_gs (T.vw j) na E) na t = (T.vw j).pl t) 1 0)), some (.int (nI i)), none, none, none, none], [.int ((T.vw j).pl 0)]) S _
        refine am_i2l d_M_findSteps_106 ?_
        refine am_lstore (L' := [some (.ref (g.2.2.1 + 6)), some (.int (nI j)), some (.int (nI (T.vw j).it)), some (.int z3), some (.int (sv_if (∀ t, t < i → (T.vw j).sa + sv_pl E (sv_gs (T.vw j) na E) na t = (T.vw j).pl t) 1 0)), some (.int (nI i)), some (.long (((T.vw j).pl 0).toInt64)), none, none, none]) d_M_findSteps_107 (by decide) rfl rfl ?_
        refine am_iload d_M_findSteps_109 rfl ?_
        refine am_istore (L' := [some (.ref (g.2.2.1 + 6)), some (.int (nI j)), some (.int (nI (T.vw j).it)), some (.int z3), some (.int (sv_if (∀ t, t < i → (T.vw j).sa + sv_pl E (sv_gs (T.vw j) na E) na t = (T.vw j).pl t) 1 0)), some (.int (nI i)), some (.long (((T.vw j).pl 0).toInt64)), none, some (.int (nI i)), none]) d_M_findSteps_111 (by decide) rfl rfl ?_
        refine am_aloadn d_M_findSteps_113 rfl ?_
        refine am_get d_M_findSteps_114 fl_M_59 m0 rfl ?_
        refine am_iconst 1 d_M_findSteps_117 (by decide) ?_
        refine am_isub d_M_findSteps_118 ?_
        refine am_ti (b := sv_dn na) rfl ?_
        refine am_istore (L' := [some (.ref (g.2.2.1 + 6)), some (.int (nI j)), some (.int (nI (T.vw j).it)), some (.int z3), some (.int (sv_if (∀ t, t < i → (T.vw j).sa + sv_pl E (sv_gs (T.vw j) na E) na t = (T.vw j).pl t) 1 0)), some (.int (nI i)), some (.long (((T.vw j).pl 0).toInt64)), none, some (.int (nI i)), some (.int (sv_dn na))]) d_M_findSteps_119 (by decide) rfl rfl ?_
        refine m_find_k (d := d + 2) hM hj E hE hO hna hpr h0 (X := ((T.vw j).pl 0).toInt64 + sv_plL E nw na i) (fun z8 z9 => ?_) na (Nat.le_refl na) _ i rfl (by omega)
        refine am_lload d_M_findSteps_170 rfl ?_
        refine am_aloadn d_M_findSteps_172 rfl ?_
        refine am_iloadn d_M_findSteps_173 rfl ?_
        refine am_iload d_M_findSteps_174 rfl ?_
        refine am_cpsV [.int (nI j), .int (nI i)] [.long (((T.vw j).pl 0).toInt64 + sv_plL E nw na i)] d_M_findSteps_176 cV_M_70 rfl m0 rfl rfl (Nat.le_of_ble_eq_true rfl) (Nat.le_of_ble_eq_true rfl) (m_place hM hj hlt ?_)
        show am_W g (d + 2) mm_M_findSteps (179, [some (.ref (g.2.2.1 + 6)), some (.int (nI j)), some (.int (nI (T.vw j).it)), some (.int z3), some (.int (sv_if (∀ t, t < i → (T.vw j).sa + sv_pl E (sv_gs (T.vw j) na E) na t = (T.vw j).pl t) 1 0)), some (.int (nI i)), some (.long (((T.vw j).pl 0).toInt64 + sv_plL E nw na i)), none, some (.int z8), some (.int z9)], [.int ((T.vw j).pl i), .long (((T.vw j).pl 0).toInt64 + sv_plL E nw na i)]) S _
        refine am_i2l d_M_findSteps_179 ?_
        refine am_lcmp d_M_findSteps_180 ?_
        have hiff := sv_gs_iff (n := na) (E := E) (by omega) (hw.2.2.1 _ w1) w7 hpr w4 hlt
        rw [← sv_plL_congr (p2 := nw) hI] at hiff
        refine am_ifne (tgt := 188) d_M_findSteps_181 (by decide) (fun hy => ?_) (fun hy => ?_)
        · refine am_iconst 0 d_M_findSteps_188 (by decide) ?_
          refine am_istore (L' := [some (.ref (g.2.2.1 + 6)), some (.int (nI j)), some (.int (nI (T.vw j).it)), some (.int z3), some (.int 0), some (.int (nI i)), some (.long (((T.vw j).pl 0).toInt64 + sv_plL E nw na i)), none, some (.int z8), some (.int z9)]) d_M_findSteps_189 (by decide) rfl rfl ?_
          refine am_iinc (v := nI (i + 1)) (L' := [some (.ref (g.2.2.1 + 6)), some (.int (nI j)), some (.int (nI (T.vw j).it)), some (.int z3), some (.int 0), some (.int (nI (i + 1))), some (.long (((T.vw j).pl 0).toInt64 + sv_plL E nw na i)), none, some (.int z8), some (.int z9)]) d_M_findSteps_191 rfl (nI_1 i) (by decide) rfl rfl ?_
          refine am_goto (tgt := 89) d_M_findSteps_194 (by decide) ?_
          refine am_drop (L' := [some (.ref (g.2.2.1 + 6)), some (.int (nI j)), some (.int (nI (T.vw j).it)), some (.int z3), some (.int 0), some (.int (nI (i + 1))), none, none, none, none]) (by simp [am_le]) ?_
          have key := ih (c - 1) (by omega) (i + 1) (by omega)
          rw [sv_if_n (c := ∀ t, t < i + 1 → (T.vw j).sa + sv_pl E (sv_gs (T.vw j) na E) na t = (T.vw j).pl t) (fun q => hy (sv_lce.mpr (hiff.mpr (q i (by omega)))))] at key
          exact key
        · refine am_iconst 1 d_M_findSteps_184 (by decide) ?_
          refine am_goto (tgt := 189) d_M_findSteps_185 (by decide) ?_
          refine am_istore (L' := [some (.ref (g.2.2.1 + 6)), some (.int (nI j)), some (.int (nI (T.vw j).it)), some (.int z3), some (.int 1), some (.int (nI i)), some (.long (((T.vw j).pl 0).toInt64 + sv_plL E nw na i)), none, some (.int z8), some (.int z9)]) d_M_findSteps_189 (by decide) rfl rfl ?_
          refine am_iinc (v := nI (i + 1)) (L' := [some (.ref (g.2.2.1 + 6)), some (.int (nI j)), some (.int (nI (T.vw j).it)), some (.int z3), some (.int 1), some (.int (nI (i + 1))), some (.long (((T.vw j).pl 0).toInt64 + sv_plL E nw na i)), none, some (.int z8), some (.int z9)]) d_M_findSteps_191 rfl (nI_1 i) (by decide) rfl rfl ?_
          refine am_goto (tgt := 89) d_M_findSteps_194 (by decide) ?_
          refine am_drop (L' := [some (.ref (g.2.2.1 + 6)), some (.int (nI j)), some (.int (nI (T.vw j).it)), some (.int z3), some (.int 1), some (.int (nI (i + 1))), none, none, none, none]) (by simp [am_le]) ?_
          have key := ih (c - 1) (by omega) (i + 1) (by omega)
          rw [sv_if_y (c := ∀ t, t < i + 1 → (T.vw j).sa + sv_pl E (sv_gs (T.vw j) na E) na t = (T.vw j).pl t) (fun t ht => (Nat.lt_or_ge t i).elim (hso t) (fun z => by rw [show t = i by omega]; exact hiff.mp (sv_lce.mp hy)))] at key
          exact key
set_option maxHeartbeats 4000000 in
set_option maxRecDepth 100000 in
/-- M_findSteps -/
theorem m_find {g : am_G} {d : Nat} {S : am_S} {T : sv_T} {th : Int32} {na : Nat} {ne nw rd : Nat → Int64} {mt : Nat → Int32} (hM : sv_N g S.1 T th na ne nw rd mt) {j : Nat} (hj : j < T.nv) (E : Nat → Nat) (hE : ∀ k, k < na → ne k = lN (E k)) (hO : sv_ok E na) (hna : na ≤ 3) (hpr : sv_pr E na = (T.vw j).it) {P : am_O → am_S → Prop} (hz : (T.vw j).it = 0 → P (.inl (some (.int 1))) S) (hP : 0 < (T.vw j).it → ∀ (S1 : am_S) (Nw : Nat → Int64), sv_N g S1.1 T th na ne Nw rd mt → sv_MF g S S1 → (∀ i, i < na → Nw i = (sv_gs (T.vw j) na E i).toInt64) → P (.inl (some (.int (sv_if (∀ t, t < (T.vw j).it → (T.vw j).sa + sv_pl E (sv_gs (T.vw j) na E) na t = (T.vw j).pl t) 1 0)))) S1) : am_W g (d + 2) mm_M_findSteps (0, am_ent [.ref (g.2.2.1 + 6), .int (nI j)] 10, []) S (P) := by
  obtain ⟨fl, fz, fN, fS, fa, fx, fe, fs, ⟨m0, m1, m2, m3, m4, m5, m6, m7, m8, m9, m10, m11, m12⟩, ⟨t1, t2, t3⟩, hw⟩ := id hM
  have h80 := hw.2.1
  have h12 := hw.1
  obtain ⟨v1, v2, v3, v4⟩ := t3 j hj
  obtain ⟨w1, w2, w3, w4, w5, w6, w7⟩ := hw.2.2.2 j hj
  show am_W g (d + 2) mm_M_findSteps (0, [some (.ref (g.2.2.1 + 6)), some (.int (nI j)), none, none, none, none, none, none, none, none], []) S _
  refine am_aloadn d_M_findSteps_0 rfl ?_
  refine am_iloadn d_M_findSteps_1 rfl ?_
  refine am_cpsV [.int (nI j)] [] d_M_findSteps_2 cV_M_117 rfl m0 rfl rfl (Nat.le_of_ble_eq_true rfl) (Nat.le_of_ble_eq_true rfl) (m_items hM hj ?_)
  show am_W g (d + 2) mm_M_findSteps (5, [some (.ref (g.2.2.1 + 6)), some (.int (nI j)), none, none, none, none, none, none, none, none], [.int (nI (T.vw j).it)]) S _
  refine am_istoren (L' := [some (.ref (g.2.2.1 + 6)), some (.int (nI j)), some (.int (nI (T.vw j).it)), none, none, none, none, none, none, none]) d_M_findSteps_5 (by decide) rfl rfl ?_
  refine am_iloadn d_M_findSteps_6 rfl ?_
  refine am_ifne (tgt := 12) d_M_findSteps_7 (by decide) (fun hc => ?_) (fun hc => ?_)
  · have h0 : 0 < (T.vw j).it := Nat.pos_of_ne_zero (fun h => hc (by rw [h]; exact nI_0))
    refine am_iconst 1 d_M_findSteps_12 (by decide) ?_
    refine am_istoren (L' := [some (.ref (g.2.2.1 + 6)), some (.int (nI j)), some (.int (nI (T.vw j).it)), some (.int 1), none, none, none, none, none, none]) d_M_findSteps_13 (by decide) rfl rfl ?_
    refine am_aloadn d_M_findSteps_14 rfl ?_
    refine am_get d_M_findSteps_15 fl_M_59 m0 rfl ?_
    refine am_iconst 1 d_M_findSteps_18 (by decide) ?_
    refine am_isub d_M_findSteps_19 ?_
    refine am_ti (b := sv_dn na) rfl ?_
    refine am_istore (L' := [some (.ref (g.2.2.1 + 6)), some (.int (nI j)), some (.int (nI (T.vw j).it)), some (.int 1), some (.int (sv_dn na)), none, none, none, none, none]) d_M_findSteps_20 (by decide) rfl rfl ?_
    have h9 : (1 : Int32) = nI (sv_dp E na (na - na)) := by rw [Nat.sub_self, sv_dp_0]; rfl
    rw [h9]
    refine m_find_1 (S := S) hj E hE hO hna hpr h0 (fun S1 Nw hN1 hf1 hI1 z3 z4 => ?_) na (Nat.le_refl na) S nw hM sv_MF.rf (fun i hi h => absurd hi (by omega))
    refine am_iconst 1 d_M_findSteps_83 (by decide) ?_
    refine am_istore (L' := [some (.ref (g.2.2.1 + 6)), some (.int (nI j)), some (.int (nI (T.vw j).it)), some (.int z3), some (.int 1), none, none, none, none, none]) d_M_findSteps_84 (by decide) rfl rfl ?_
    refine am_iconst 0 d_M_findSteps_86 (by decide) ?_
    refine am_istore (L' := [some (.ref (g.2.2.1 + 6)), some (.int (nI j)), some (.int (nI (T.vw j).it)), some (.int z3), some (.int 1), some (.int 0), none, none, none, none]) d_M_findSteps_87 (by decide) rfl rfl ?_
    have key := m_find_2 hN1 hj E hE hO hna hpr h0 hI1 (d := d) (z3 := z3) (hP h0 S1 Nw hN1 hf1 hI1) (T.vw j).it 0 (Nat.zero_add _)
    rw [sv_if_y (fun t ht => absurd ht (Nat.not_lt_zero t))] at key
    exact key
  · have h00 : (T.vw j).it = 0 := (nI_eq (by omega) (by decide)).mp (hc.trans nI_0.symm)
    refine am_iconst 1 d_M_findSteps_10 (by decide) ?_
    exact am_zret d_M_findSteps_11 rfl rfl (hz h00)
