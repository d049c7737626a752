/-! the reference: fold -/
theorem sv_fold4 {t : Int32} (h : (0 ≤ t ∧ t ≤ 4) ∧ ¬ t = 1) (h0 : ¬ t = 0) (h2 : ¬ t = 2) (h3 : ¬ t = 3) : t = 4 := by
  obtain ⟨k, hk, rfl⟩ := nI_of (Int32.not_lt.mpr h.1.1)
  have := (nI_leI (b := 4) hk (by decide)).mp h.1.2
  have e0 : ¬ k = 0 := fun q => h0 (by rw [q]; rfl)
  have e1 : ¬ k = 1 := fun q => h.2 (by rw [q]; rfl)
  have e2 : ¬ k = 2 := fun q => h2 (by rw [q]; rfl)
  have e3 : ¬ k = 3 := fun q => h3 (by rw [q]; rfl)
  rw [show k = 4 by omega]
  rfl
theorem sv_f1a {t : Int32} (h0 : ¬ t = 0) (h1 : t ≤ 1) : ¬ ((0 ≤ t ∧ t ≤ 4) ∧ ¬ t = 1) := by
  intro q
  obtain ⟨k, hk, rfl⟩ := nI_of (Int32.not_lt.mpr q.1.1)
  have := (nI_leI (b := 1) hk (by decide)).mp h1
  have e0 : ¬ k = 0 := fun q => h0 (by rw [q]; rfl)
  have e1 : ¬ k = 1 := fun z => q.2 (by rw [z]; rfl)
  omega
theorem sv_f1b {t : Int32} (h1 : ¬ t ≤ 1) (h2 : ¬ 5 ≤ t) : (0 ≤ t ∧ t ≤ 4) ∧ ¬ t = 1 := by
  refine ⟨⟨?_, sv_le4.mpr h2⟩, fun q => h1 (by rw [q]; decide)⟩
  have h3 := Int32.not_le.mp h1
  exact Int32.le_of_lt (Int32.lt_trans (by decide) h3)
theorem sv_p300 {X : Nat} (h : ¬ (300 : Int64) < lN (min X 3001)) : X ≤ 300 := by
  have : ¬ 300 < min X 3001 := fun q => h ((pk_lLT (a := 300) (b := min X 3001) (by decide) (by omega)).mpr q)
  omega
theorem sv_p301 {X : Nat} (h : X ≤ 300) (h2 : (300 : Int64) < lN (min X 3001)) : False := by
  have := (pk_lLT (a := 300) (b := min X 3001) (by decide) (by omega)).mp h2
  omega
set_option maxHeartbeats 4000000 in
set_option maxRecDepth 100000 in
/-- fold, what is there at first -/
theorem e_fold_1 {g : am_G} {d : Nat} {S : am_S} {T : sv_T} {th : Int32} {na : Nat} {ne nw rd : Nat → Int64} {mt : Nat → Int32} {j k0 : Nat} (hj : j < T.nv) (hk : k0 < (T.vw j).ax) (hs0 : (T.vw j).st < T.ns) (h300 : (sv_pr (sv_rem (T.vw j).ex k0) ((T.vw j).ax - 1)) ≤ 300) {t0 z4 z5 z6 : Int32} (hR : (0 ≤ t0 ∧ t0 ≤ 4) ∧ ¬ t0 = 1) {P : am_O → am_S → Prop} (hK : ∀ S1 : am_S, sv_N g S1.1 (T.addS 3 (sv_pr (sv_rem (T.vw j).ex k0) ((T.vw j).ax - 1)) (fun t => if t < (sv_pr (sv_rem (T.vw j).ex k0) ((T.vw j).ax - 1)) then sv_neu t0 else 0)) th na ne nw rd mt → sv_MF g S S1 → ∀ z : Int32, am_W g d mm_M_fold (181, [some (.ref (g.2.2.1 + 6)), some (.int t0), some (.int (nI j)), some (.int (nI k0)), some (.int z4), some (.int z5), some (.int z6), some (.int (nI (sv_pr (sv_rem (T.vw j).ex k0) ((T.vw j).ax - 1)))), some (.int (nI T.ns)), some (.int z), none, none, none], []) S1 P) : ∀ (c i : Nat), i + c = (sv_pr (sv_rem (T.vw j).ex k0) ((T.vw j).ax - 1)) → ∀ S0 : am_S, sv_N g S0.1 (T.addS 3 (sv_pr (sv_rem (T.vw j).ex k0) ((T.vw j).ax - 1)) (fun t => if t < i then sv_neu t0 else 0)) th na ne nw rd mt → sv_MF g S S0 → am_W g d mm_M_fold (123, [some (.ref (g.2.2.1 + 6)), some (.int t0), some (.int (nI j)), some (.int (nI k0)), some (.int z4), some (.int z5), some (.int z6), some (.int (nI (sv_pr (sv_rem (T.vw j).ex k0) ((T.vw j).ax - 1)))), some (.int (nI T.ns)), some (.int (nI i)), none, none, none], []) S0 P := by
  intro c
  induction c using Nat.strongRecOn with
  | ind c ih =>
    intro i hi S0 hN hfr
    obtain ⟨fl, fz, fN, fS, fa, fx, fe, fs, ⟨m0, m1, m2, m3, m4, m5, m6, m7, m8, m9, m10, m11, m12⟩, hTI, hw⟩ := id hN
    have h80 : T.nv ≤ 80 := hw.2.1
    have h12 : T.ns + 1 ≤ 12 := hw.1
    have hst : (T.vw j).st < T.ns := hs0
    have w4 : (T.vw j).it ≤ 3000 := (hw.2.2.2 j hj).2.2.2.1
    refine am_iload d_M_fold_123 rfl ?_
    refine am_iload d_M_fold_125 rfl ?_
    refine am_icge (tgt := 181) d_M_fold_127 (by decide) (fun hc => ?_) (fun hc => ?_)
    · have hk0 : (sv_pr (sv_rem (T.vw j).ex k0) ((T.vw j).ax - 1)) ≤ i := (nI_leI (by omega) (by omega)).mp hc
      obtain rfl : i = (sv_pr (sv_rem (T.vw j).ex k0) ((T.vw j).ax - 1)) := by omega
      exact hK S0 hN hfr (nI (sv_pr (sv_rem (T.vw j).ex k0) ((T.vw j).ax - 1)))
    · have hlt : i < (sv_pr (sv_rem (T.vw j).ex k0) ((T.vw j).ax - 1)) := Nat.lt_of_not_le (fun q => hc (nI_le q (by omega)))
      refine am_aloadn d_M_fold_130 rfl ?_
      refine am_get d_M_fold_131 fl_M_16 m0 rfl ?_
      refine am_sipush 300 d_M_fold_134 (by decide) ?_
      refine am_iload d_M_fold_137 rfl ?_
      refine am_imul d_M_fold_139 ?_
      refine am_iload d_M_fold_140 rfl ?_
      refine am_iadd d_M_fold_142 ?_
      refine am_ti (b := nI (300 * T.ns + i)) (sv_300 _ _) ?_
      refine am_cut (F := (174, [some (.ref (g.2.2.1 + 6)), some (.int t0), some (.int (nI j)), some (.int (nI k0)), some (.int z4), some (.int z5), some (.int z6), some (.int (nI (sv_pr (sv_rem (T.vw j).ex k0) ((T.vw j).ax - 1)))), some (.int (nI T.ns)), some (.int (nI i)), none, none, none], [.long (sv_neu t0), .int (nI (300 * T.ns + i)), .ref (g.2.2.1 + 9)])) ?_ (fun key => ?_)
      · refine am_lastN (t := 1) d_M_fold_174 rfl m3 (by omega) (by omega) ?_
        obtain ⟨S_1, eS_1⟩ : ∃ z : am_S, z = (am_up S0.1 (g.2.2.1 + 9) (.inl (1, 3600, .inr (.inl (vp_updL fN (300 * T.ns + i) (sv_neu t0))))), S0.2) := ⟨_, rfl⟩
        change am_W _ _ _ _ (am_up S0.1 (g.2.2.1 + 9) (.inl (1, 3600, .inr (.inl (vp_updL fN (300 * T.ns + i) (sv_neu t0))))), S0.2) _
        rw [← eS_1]
        have h_2 : S_1.1 (g.2.2.1 + 6) = some (.inr (3, [.int th, .int (nI (T.ns + 1)), .ref (g.2.2.1 + 7), .ref (g.2.2.1 + 8), .ref (g.2.2.1 + 9), .int (nI T.nv), .ref (g.2.2.1 + 10), .ref (g.2.2.1 + 11), .ref (g.2.2.1 + 12), .ref (g.2.2.1 + 13), .ref (g.2.2.1 + 14), .ref (g.2.2.1 + 15), .ref (g.2.2.1 + 16), .int (nI na), .ref (g.2.2.1 + 17), .ref (g.2.2.1 + 18)])) := by rw [eS_1]; exact (am_up_n (by omega)).trans m0
        have h_3 : S_1.1 (g.2.2.1 + 7) = some (.inl (0, 12, .inl fl)) := by rw [eS_1]; exact (am_up_n (by omega)).trans m1
        have h_4 : S_1.1 (g.2.2.1 + 8) = some (.inl (0, 12, .inl fz)) := by rw [eS_1]; exact (am_up_n (by omega)).trans m2
        have h_5 : S_1.1 (g.2.2.1 + 10) = some (.inl (0, 80, .inl fS)) := by rw [eS_1]; exact (am_up_n (by omega)).trans m4
        have h_6 : S_1.1 (g.2.2.1 + 11) = some (.inl (0, 80, .inl fa)) := by rw [eS_1]; exact (am_up_n (by omega)).trans m5
        have h_7 : S_1.1 (g.2.2.1 + 12) = some (.inl (0, 80, .inl fx)) := by rw [eS_1]; exact (am_up_n (by omega)).trans m6
        have h_8 : S_1.1 (g.2.2.1 + 13) = some (.inl (0, 320, .inl fe)) := by rw [eS_1]; exact (am_up_n (by omega)).trans m7
        have h_9 : S_1.1 (g.2.2.1 + 14) = some (.inl (0, 320, .inl fs)) := by rw [eS_1]; exact (am_up_n (by omega)).trans m8
        have h_10 : S_1.1 (g.2.2.1 + 15) = some (.inl (1, 5, .inr (.inl ne))) := by rw [eS_1]; exact (am_up_n (by omega)).trans m9
        have h_11 : S_1.1 (g.2.2.1 + 16) = some (.inl (1, 5, .inr (.inl nw))) := by rw [eS_1]; exact (am_up_n (by omega)).trans m10
        have h_12 : S_1.1 (g.2.2.1 + 17) = some (.inl (1, 3000, .inr (.inl rd))) := by rw [eS_1]; exact (am_up_n (by omega)).trans m11
        have h_13 : S_1.1 (g.2.2.1 + 18) = some (.inl (2, 300, .inl mt)) := by rw [eS_1]; exact (am_up_n (by omega)).trans m12
        have hf_14 : sv_MF g S S_1 := by rw [eS_1]; exact hfr.u (by omega) (by omega)
        have h_15 : S_1.1 (g.2.2.1 + 9) = some (.inl (1, 3600, .inr (.inl (vp_updL fN (300 * T.ns + i) (sv_neu t0))))) := by rw [eS_1]; exact am_up_s
        have hnS_1 : S_1.2.1 = S0.2.1 := by rw [eS_1]
        have hzS_1 : S_1.2.2 = S0.2.2 := by rw [eS_1]
        refine am_iinc (v := nI (i + 1)) (L' := [some (.ref (g.2.2.1 + 6)), some (.int t0), some (.int (nI j)), some (.int (nI k0)), some (.int z4), some (.int z5), some (.int z6), some (.int (nI (sv_pr (sv_rem (T.vw j).ex k0) ((T.vw j).ax - 1)))), some (.int (nI T.ns)), some (.int (nI (i + 1))), none, none, none]) d_M_fold_175 rfl (nI_1 i) (by decide) rfl rfl ?_
        refine am_goto (tgt := 123) d_M_fold_178 (by decide) ?_
        exact ih (c - 1) (by omega) (i + 1) (by omega) _ (sv_N.putS (T := T) hlt h300 hTI hw ⟨h_2, h_3, h_4, h_15, h_5, h_6, h_7, h_8, h_9, h_10, h_11, h_12, h_13⟩ (sv_upd_lt (f := fun _ => sv_neu t0) hlt)) hf_14
      · refine am_iloadn d_M_fold_143 rfl ?_
        refine am_ifne (tgt := 151) d_M_fold_144 (by decide) (fun h0 => ?_) (fun h0 => ?_)
        · refine am_iloadn d_M_fold_151 rfl ?_
          refine am_iconst 2 d_M_fold_152 (by decide) ?_
          refine am_icne (tgt := 160) d_M_fold_153 (by decide) (fun h2 => ?_) (fun h2 => ?_)
          · refine am_iloadn d_M_fold_160 rfl ?_
            refine am_iconst 3 d_M_fold_161 (by decide) ?_
            refine am_icne (tgt := 171) d_M_fold_162 (by decide) (fun h3 => ?_) (fun h3 => ?_)
            · refine am_ldc2 9223372036854775807 d_M_fold_171 (am_in 730 (by decide +kernel) rfl) ?_
              rw [show sv_neu t0 = 9223372036854775807 from by rw [sv_fold4 hR h0 h2 h3]; rfl] at key
              exact key
            · refine am_ldc2 (-9223372036854775808) d_M_fold_165 (am_in 729 (by decide +kernel) rfl) ?_
              refine am_goto (tgt := 174) d_M_fold_168 (by decide) ?_
              rw [show sv_neu t0 = (-9223372036854775808) from by rw [h3]; rfl] at key
              exact key
          · refine am_lconst 1 d_M_fold_156 (by decide) ?_
            refine am_goto (tgt := 174) d_M_fold_157 (by decide) ?_
            rw [show sv_neu t0 = 1 from by rw [h2]; rfl] at key
            exact key
        · refine am_lconst 0 d_M_fold_147 (by decide) ?_
          refine am_goto (tgt := 174) d_M_fold_148 (by decide) ?_
          rw [show sv_neu t0 = 0 from by rw [h0]; rfl] at key
          exact key
set_option maxHeartbeats 4000000 in
set_option maxRecDepth 100000 in
/-- fold, the place -/
theorem e_fold_k {g : am_G} {d : Nat} {S : am_S} {T : sv_T} {th : Int32} {na : Nat} {ne nw rd : Nat → Int64} {mt : Nat → Int32} {j k0 i : Nat} (hj : j < T.nv) (hk : k0 < (T.vw j).ax) {t0 z4 z5 z6 : Int32} (hi : i < (T.vw j).it) (hN : sv_N g S.1 (T.addS 3 (sv_pr (sv_rem (T.vw j).ex k0) ((T.vw j).ax - 1)) (sv_fo t0 (sv_wo (T.vw j).ex k0 (T.vw j).ax) (T.at (T.vw j)) (fun t => if t < (sv_pr (sv_rem (T.vw j).ex k0) ((T.vw j).ax - 1)) then sv_neu t0 else 0) i)) th na ne nw rd mt) {P : am_O → am_S → Prop} (hK : ∀ z : Int32, am_W g (d + 1) mm_M_fold (258, [some (.ref (g.2.2.1 + 6)), some (.int t0), some (.int (nI j)), some (.int (nI k0)), some (.int z4), some (.int z5), some (.int z6), some (.int (nI (sv_pr (sv_rem (T.vw j).ex k0) ((T.vw j).ax - 1)))), some (.int (nI T.ns)), some (.int (nI (T.vw j).it)), some (.int (nI i)), some (.int (nI (sv_wo (T.vw j).ex k0 (T.vw j).ax i))), some (.int z)], []) S P) : ∀ (m k : Nat), k + m = (T.vw j).ax → am_W g (d + 1) mm_M_fold (204, [some (.ref (g.2.2.1 + 6)), some (.int t0), some (.int (nI j)), some (.int (nI k0)), some (.int z4), some (.int z5), some (.int z6), some (.int (nI (sv_pr (sv_rem (T.vw j).ex k0) ((T.vw j).ax - 1)))), some (.int (nI T.ns)), some (.int (nI (T.vw j).it)), some (.int (nI i)), some (.int (nI (sv_hm (T.vw j).ex (fun l => sv_ix (T.vw j).ex (T.vw j).ax l i) k0 k))), some (.int (nI k))], []) S P := by
  obtain ⟨fl, fz, fN, fS, fa, fx, fe, fs, ⟨m0, m1, m2, m3, m4, m5, m6, m7, m8, m9, m10, m11, m12⟩, ⟨t1, t2, t3⟩, hw⟩ := id hN
  have h80 : T.nv ≤ 80 := hw.2.1
  have w4 : (T.vw j).it ≤ 3000 := (hw.2.2.2 j hj).2.2.2.1
  have w2 : (T.vw j).ax ≤ 4 := (hw.2.2.2 j hj).2.1
  obtain ⟨v1, v2, v3, v4⟩ := t3 j hj
  have v3 : fx j = nI (T.vw j).ax := v3
  have v4 : ∀ k, k < (T.vw j).ax → fe (4 * j + k) = nI ((T.vw j).ex k) ∧ fs (4 * j + k) = (T.vw j).sp k := v4
  have hZ : ∀ t, t < (T.vw j).ax → 0 < (T.vw j).ex t := sv_pr_pos (Nat.lt_of_le_of_lt (Nat.zero_le i) hi)
  intro m
  induction m using Nat.strongRecOn with
  | ind m ih =>
    intro k hkm
    refine am_iload d_M_fold_204 rfl ?_
    refine am_aloadn d_M_fold_206 rfl ?_
    refine am_get d_M_fold_207 fl_M_26 m0 rfl ?_
    refine am_iloadn d_M_fold_210 rfl ?_
    refine am_ialdN (t := 0) (k := j) d_M_fold_211 rfl m6 (by omega) (by omega) ?_
    refine am_ti (b := nI (T.vw j).ax) v3 ?_
    refine am_icge (tgt := 258) d_M_fold_212 (by decide) (fun hc => ?_) (fun hc => ?_)
    · have hk9 : (T.vw j).ax ≤ k := (nI_leI (by omega) (by omega)).mp hc
      obtain rfl : k = (T.vw j).ax := by omega
      rw [sv_hm_wo hk]
      exact hK (nI (T.vw j).ax)
    · have hlt : k < (T.vw j).ax := Nat.lt_of_not_le (fun q => hc (nI_le q (by omega)))
      refine am_iload d_M_fold_215 rfl ?_
      refine am_iloadn d_M_fold_217 rfl ?_
      refine am_icne (tgt := 226) d_M_fold_218 (by decide) (fun hz => ?_) (fun hz => ?_)
      · have hne : ¬ k = k0 := fun q => hz (by rw [q])
        refine am_iload d_M_fold_226 rfl ?_
        refine am_aloadn d_M_fold_228 rfl ?_
        refine am_get d_M_fold_229 fl_M_29 m0 rfl ?_
        refine am_iconst 4 d_M_fold_232 (by decide) ?_
        refine am_iloadn d_M_fold_233 rfl ?_
        refine am_imul d_M_fold_234 ?_
        refine am_iload d_M_fold_235 rfl ?_
        refine am_iadd d_M_fold_237 ?_
        refine am_ti (b := nI (4 * j + k)) (sv_4 j k) ?_
        refine am_ialdN (t := 0) (k := 4 * j + k) d_M_fold_238 rfl m7 (by omega) (by omega) ?_
        refine am_ti (b := nI ((T.vw j).ex k)) ((v4 k hlt).1) ?_
        refine am_imul d_M_fold_239 ?_
        refine am_aloadn d_M_fold_240 rfl ?_
        refine am_iloadn d_M_fold_241 rfl ?_
        refine am_iload d_M_fold_242 rfl ?_
        refine am_iload d_M_fold_244 rfl ?_
        refine am_cpsV [.int (nI j), .int (nI k), .int (nI i)] [.int ((nI (sv_hm (T.vw j).ex (fun l => sv_ix (T.vw j).ex (T.vw j).ax l i) k0 k)) * (nI ((T.vw j).ex k)))] d_M_fold_246 cV_M_66 rfl m0 rfl rfl (Nat.le_of_ble_eq_true rfl) (Nat.le_of_ble_eq_true rfl) (m_indexOf (T := (T.addS 3 (sv_pr (sv_rem (T.vw j).ex k0) ((T.vw j).ax - 1)) (sv_fo t0 (sv_wo (T.vw j).ex k0 (T.vw j).ax) (T.at (T.vw j)) (fun t => if t < (sv_pr (sv_rem (T.vw j).ex k0) ((T.vw j).ax - 1)) then sv_neu t0 else 0) i))) (j := j) hN hj hZ (k := k) (i := i) hlt (by omega) ?_)
        show am_W g (d + 1) mm_M_fold (249, [some (.ref (g.2.2.1 + 6)), some (.int t0), some (.int (nI j)), some (.int (nI k0)), some (.int z4), some (.int z5), some (.int z6), some (.int (nI (sv_pr (sv_rem (T.vw j).ex k0) ((T.vw j).ax - 1)))), some (.int (nI T.ns)), some (.int (nI (T.vw j).it)), some (.int (nI i)), some (.int (nI (sv_hm (T.vw j).ex (fun l => sv_ix (T.vw j).ex (T.vw j).ax l i) k0 k))), some (.int (nI k))], [.int (nI (sv_ix (T.vw j).ex (T.vw j).ax k i)), .int ((nI (sv_hm (T.vw j).ex (fun l => sv_ix (T.vw j).ex (T.vw j).ax l i) k0 k)) * (nI ((T.vw j).ex k)))]) S _
        refine am_iadd d_M_fold_249 ?_
        refine am_ti (b := nI (sv_hm (T.vw j).ex (fun l => sv_ix (T.vw j).ex (T.vw j).ax l i) k0 (k + 1))) (by rw [pk_mul, nI_add, show (sv_hm (T.vw j).ex (fun l => sv_ix (T.vw j).ex (T.vw j).ax l i) k0 (k + 1)) = (sv_hm (T.vw j).ex (fun l => sv_ix (T.vw j).ex (T.vw j).ax l i) k0 k) * (T.vw j).ex k + sv_ix (T.vw j).ex (T.vw j).ax k i from if_neg hne]) ?_
        refine am_istore (L' := [some (.ref (g.2.2.1 + 6)), some (.int t0), some (.int (nI j)), some (.int (nI k0)), some (.int z4), some (.int z5), some (.int z6), some (.int (nI (sv_pr (sv_rem (T.vw j).ex k0) ((T.vw j).ax - 1)))), some (.int (nI T.ns)), some (.int (nI (T.vw j).it)), some (.int (nI i)), some (.int (nI (sv_hm (T.vw j).ex (fun l => sv_ix (T.vw j).ex (T.vw j).ax l i) k0 (k + 1)))), some (.int (nI k))]) d_M_fold_250 (by decide) rfl rfl ?_
        refine am_iinc (v := nI (k + 1)) (L' := [some (.ref (g.2.2.1 + 6)), some (.int t0), some (.int (nI j)), some (.int (nI k0)), some (.int z4), some (.int z5), some (.int z6), some (.int (nI (sv_pr (sv_rem (T.vw j).ex k0) ((T.vw j).ax - 1)))), some (.int (nI T.ns)), some (.int (nI (T.vw j).it)), some (.int (nI i)), some (.int (nI (sv_hm (T.vw j).ex (fun l => sv_ix (T.vw j).ex (T.vw j).ax l i) k0 (k + 1)))), some (.int (nI (k + 1)))]) d_M_fold_252 rfl (nI_1 k) (by decide) rfl rfl ?_
        refine am_goto (tgt := 204) d_M_fold_255 (by decide) ?_
        exact ih (m - 1) (by omega) (k + 1) (by omega)
      · have hne : k = k0 := (nI_eq (by omega) (by omega)).mp hz
        refine am_iload d_M_fold_221 rfl ?_
        refine am_goto (tgt := 250) d_M_fold_223 (by decide) ?_
        refine am_ti (b := nI (sv_hm (T.vw j).ex (fun l => sv_ix (T.vw j).ex (T.vw j).ax l i) k0 (k + 1))) (by rw [show (sv_hm (T.vw j).ex (fun l => sv_ix (T.vw j).ex (T.vw j).ax l i) k0 (k + 1)) = (sv_hm (T.vw j).ex (fun l => sv_ix (T.vw j).ex (T.vw j).ax l i) k0 k) from if_pos hne]) ?_
        refine am_istore (L' := [some (.ref (g.2.2.1 + 6)), some (.int t0), some (.int (nI j)), some (.int (nI k0)), some (.int z4), some (.int z5), some (.int z6), some (.int (nI (sv_pr (sv_rem (T.vw j).ex k0) ((T.vw j).ax - 1)))), some (.int (nI T.ns)), some (.int (nI (T.vw j).it)), some (.int (nI i)), some (.int (nI (sv_hm (T.vw j).ex (fun l => sv_ix (T.vw j).ex (T.vw j).ax l i) k0 (k + 1)))), some (.int (nI k))]) d_M_fold_250 (by decide) rfl rfl ?_
        refine am_iinc (v := nI (k + 1)) (L' := [some (.ref (g.2.2.1 + 6)), some (.int t0), some (.int (nI j)), some (.int (nI k0)), some (.int z4), some (.int z5), some (.int z6), some (.int (nI (sv_pr (sv_rem (T.vw j).ex k0) ((T.vw j).ax - 1)))), some (.int (nI T.ns)), some (.int (nI (T.vw j).it)), some (.int (nI i)), some (.int (nI (sv_hm (T.vw j).ex (fun l => sv_ix (T.vw j).ex (T.vw j).ax l i) k0 (k + 1)))), some (.int (nI (k + 1)))]) d_M_fold_252 rfl (nI_1 k) (by decide) rfl rfl ?_
        refine am_goto (tgt := 204) d_M_fold_255 (by decide) ?_
        exact ih (m - 1) (by omega) (k + 1) (by omega)
set_option maxHeartbeats 4000000 in
set_option maxRecDepth 100000 in
/-- fold, item after item -/
theorem e_fold_2 {g : am_G} {d : Nat} {S : am_S} {T : sv_T} {th : Int32} {na : Nat} {ne nw rd : Nat → Int64} {mt : Nat → Int32} {j k0 : Nat} (hj : j < T.nv) (hk : k0 < (T.vw j).ax) (hs0 : (T.vw j).st < T.ns) (h300 : (sv_pr (sv_rem (T.vw j).ex k0) ((T.vw j).ax - 1)) ≤ 300) {t0 z4 z5 z6 : Int32} (hR : (0 ≤ t0 ∧ t0 ≤ 4) ∧ ¬ t0 = 1) {P : am_O → am_S → Prop} (hK : ∀ S1 : am_S, sv_N g S1.1 (T.addS 3 (sv_pr (sv_rem (T.vw j).ex k0) ((T.vw j).ax - 1)) (sv_fo t0 (sv_wo (T.vw j).ex k0 (T.vw j).ax) (T.at (T.vw j)) (fun t => if t < (sv_pr (sv_rem (T.vw j).ex k0) ((T.vw j).ax - 1)) then sv_neu t0 else 0) (T.vw j).it)) th na ne nw rd mt → sv_MF g S S1 → ∀ z : Int32, am_W g (d + 3) mm_M_fold (303, [some (.ref (g.2.2.1 + 6)), some (.int t0), some (.int (nI j)), some (.int (nI k0)), some (.int z4), some (.int z5), some (.int z6), some (.int (nI (sv_pr (sv_rem (T.vw j).ex k0) ((T.vw j).ax - 1)))), some (.int (nI T.ns)), some (.int (nI (T.vw j).it)), some (.int z), none, none], []) S1 P) : ∀ (c i : Nat), i + c = (T.vw j).it → ∀ S0 : am_S, sv_N g S0.1 (T.addS 3 (sv_pr (sv_rem (T.vw j).ex k0) ((T.vw j).ax - 1)) (sv_fo t0 (sv_wo (T.vw j).ex k0 (T.vw j).ax) (T.at (T.vw j)) (fun t => if t < (sv_pr (sv_rem (T.vw j).ex k0) ((T.vw j).ax - 1)) then sv_neu t0 else 0) i)) th na ne nw rd mt → sv_MF g S S0 → am_W g (d + 3) mm_M_fold (191, [some (.ref (g.2.2.1 + 6)), some (.int t0), some (.int (nI j)), some (.int (nI k0)), some (.int z4), some (.int z5), some (.int z6), some (.int (nI (sv_pr (sv_rem (T.vw j).ex k0) ((T.vw j).ax - 1)))), some (.int (nI T.ns)), some (.int (nI (T.vw j).it)), some (.int (nI i)), none, none], []) S0 P := by
  intro c
  induction c using Nat.strongRecOn with
  | ind c ih =>
    intro i hi S0 hN hfr
    obtain ⟨fl, fz, fN, fS, fa, fx, fe, fs, ⟨m0, m1, m2, m3, m4, m5, m6, m7, m8, m9, m10, m11, m12⟩, hTI, hw⟩ := id hN
    have h80 : T.nv ≤ 80 := hw.2.1
    have h12 : T.ns + 1 ≤ 12 := hw.1
    have hst : (T.vw j).st < T.ns := hs0
    have w4 : (T.vw j).it ≤ 3000 := (hw.2.2.2 j hj).2.2.2.1
    refine am_iload d_M_fold_191 rfl ?_
    refine am_iload d_M_fold_193 rfl ?_
    refine am_icge (tgt := 303) d_M_fold_195 (by decide) (fun hc => ?_) (fun hc => ?_)
    · have hk9 : (T.vw j).it ≤ i := (nI_leI (by omega) (by omega)).mp hc
      obtain rfl : i = (T.vw j).it := by omega
      exact hK S0 hN hfr (nI (T.vw j).it)
    · have hlt : i < (T.vw j).it := Nat.lt_of_not_le (fun q => hc (nI_le q (by omega)))
      refine am_iconst 0 d_M_fold_198 (by decide) ?_
      refine am_istore (L' := [some (.ref (g.2.2.1 + 6)), some (.int t0), some (.int (nI j)), some (.int (nI k0)), some (.int z4), some (.int z5), some (.int z6), some (.int (nI (sv_pr (sv_rem (T.vw j).ex k0) ((T.vw j).ax - 1)))), some (.int (nI T.ns)), some (.int (nI (T.vw j).it)), some (.int (nI i)), some (.int 0), none]) d_M_fold_199 (by decide) rfl rfl ?_
      refine am_iconst 0 d_M_fold_201 (by decide) ?_
      refine am_istore (L' := [some (.ref (g.2.2.1 + 6)), some (.int t0), some (.int (nI j)), some (.int (nI k0)), some (.int z4), some (.int z5), some (.int z6), some (.int (nI (sv_pr (sv_rem (T.vw j).ex k0) ((T.vw j).ax - 1)))), some (.int (nI T.ns)), some (.int (nI (T.vw j).it)), some (.int (nI i)), some (.int 0), some (.int 0)]) d_M_fold_202 (by decide) rfl rfl ?_
      refine e_fold_k (d := d + 2) hj hk hlt hN (fun z => ?_) (T.vw j).ax 0 (Nat.zero_add _)
      have hwo : (sv_wo (T.vw j).ex k0 (T.vw j).ax i) < (sv_pr (sv_rem (T.vw j).ex k0) ((T.vw j).ax - 1)) := sv_wo_lt hk hlt
      refine am_aloadn d_M_fold_258 rfl ?_
      refine am_get d_M_fold_259 fl_M_16 m0 rfl ?_
      refine am_sipush 300 d_M_fold_262 (by decide) ?_
      refine am_iload d_M_fold_265 rfl ?_
      refine am_imul d_M_fold_267 ?_
      refine am_iload d_M_fold_268 rfl ?_
      refine am_iadd d_M_fold_270 ?_
      refine am_ti (b := nI (300 * T.ns + (sv_wo (T.vw j).ex k0 (T.vw j).ax i))) (sv_300 _ _) ?_
      refine am_iloadn d_M_fold_271 rfl ?_
      refine am_aloadn d_M_fold_272 rfl ?_
      refine am_get d_M_fold_273 fl_M_16 m0 rfl ?_
      refine am_sipush 300 d_M_fold_276 (by decide) ?_
      refine am_iload d_M_fold_279 rfl ?_
      refine am_imul d_M_fold_281 ?_
      refine am_iload d_M_fold_282 rfl ?_
      refine am_iadd d_M_fold_284 ?_
      refine am_ti (b := nI (300 * T.ns + (sv_wo (T.vw j).ex k0 (T.vw j).ax i))) (sv_300 _ _) ?_
      refine am_laldN (t := 1) (k := 300 * T.ns + (sv_wo (T.vw j).ex k0 (T.vw j).ax i)) d_M_fold_285 rfl m3 (by omega) (by omega) ?_
      refine am_tl (b := (sv_fo t0 (sv_wo (T.vw j).ex k0 (T.vw j).ax) (T.at (T.vw j)) (fun t => if t < (sv_pr (sv_rem (T.vw j).ex k0) ((T.vw j).ax - 1)) then sv_neu t0 else 0) i) (sv_wo (T.vw j).ex k0 (T.vw j).ax i)) ((hTI.1 T.ns (show T.ns < T.ns + 1 by omega)).2.2 (sv_wo (T.vw j).ex k0 (T.vw j).ax i) (by show _ < (if T.ns = T.ns then (sv_pr (sv_rem (T.vw j).ex k0) ((T.vw j).ax - 1)) else _); rw [if_pos rfl]; exact hwo) |>.trans (by show (if T.ns = T.ns then (sv_fo t0 (sv_wo (T.vw j).ex k0 (T.vw j).ax) (T.at (T.vw j)) (fun t => if t < (sv_pr (sv_rem (T.vw j).ex k0) ((T.vw j).ax - 1)) then sv_neu t0 else 0) i) else T.nu T.ns) _ = _; rw [if_pos rfl])) ?_
      refine am_aloadn d_M_fold_286 rfl ?_
      refine am_iloadn d_M_fold_287 rfl ?_
      refine am_iload d_M_fold_288 rfl ?_
      refine am_cpsV [.int (nI j), .int (nI i)] [.long ((sv_fo t0 (sv_wo (T.vw j).ex k0 (T.vw j).ax) (T.at (T.vw j)) (fun t => if t < (sv_pr (sv_rem (T.vw j).ex k0) ((T.vw j).ax - 1)) then sv_neu t0 else 0) i) (sv_wo (T.vw j).ex k0 (T.vw j).ax i)), .int t0, .int (nI (300 * T.ns + (sv_wo (T.vw j).ex k0 (T.vw j).ax i))), .ref (g.2.2.1 + 9)] d_M_fold_290 cV_M_128 rfl m0 rfl rfl (Nat.le_of_ble_eq_true rfl) (Nat.le_of_ble_eq_true rfl) (m_item (T := (T.addS 3 (sv_pr (sv_rem (T.vw j).ex k0) ((T.vw j).ax - 1)) (sv_fo t0 (sv_wo (T.vw j).ex k0 (T.vw j).ax) (T.at (T.vw j)) (fun t => if t < (sv_pr (sv_rem (T.vw j).ex k0) ((T.vw j).ax - 1)) then sv_neu t0 else 0) i))) (j := j) hN hj (i := i) hlt ?_)
      show am_W g (d + 3) mm_M_fold (293, [some (.ref (g.2.2.1 + 6)), some (.int t0), some (.int (nI j)), some (.int (nI k0)), some (.int z4), some (.int z5), some (.int z6), some (.int (nI (sv_pr (sv_rem (T.vw j).ex k0) ((T.vw j).ax - 1)))), some (.int (nI T.ns)), some (.int (nI (T.vw j).it)), some (.int (nI i)), some (.int (nI (sv_wo (T.vw j).ex k0 (T.vw j).ax i))), some (.int z)], [.long ((T.addS 3 (sv_pr (sv_rem (T.vw j).ex k0) ((T.vw j).ax - 1)) (sv_fo t0 (sv_wo (T.vw j).ex k0 (T.vw j).ax) (T.at (T.vw j)) (fun t => if t < (sv_pr (sv_rem (T.vw j).ex k0) ((T.vw j).ax - 1)) then sv_neu t0 else 0) i)).at (T.vw j) i), .long ((sv_fo t0 (sv_wo (T.vw j).ex k0 (T.vw j).ax) (T.at (T.vw j)) (fun t => if t < (sv_pr (sv_rem (T.vw j).ex k0) ((T.vw j).ax - 1)) then sv_neu t0 else 0) i) (sv_wo (T.vw j).ex k0 (T.vw j).ax i)), .int t0, .int (nI (300 * T.ns + (sv_wo (T.vw j).ex k0 (T.vw j).ax i))), .ref (g.2.2.1 + 9)]) S0 _
      rw [sv_addS_at hst]
      show am_W g (d + 3) mm_M_fold (293, [some (.ref (g.2.2.1 + 6)), some (.int t0), some (.int (nI j)), some (.int (nI k0)), some (.int z4), some (.int z5), some (.int z6), some (.int (nI (sv_pr (sv_rem (T.vw j).ex k0) ((T.vw j).ax - 1)))), some (.int (nI T.ns)), some (.int (nI (T.vw j).it)), some (.int (nI i)), some (.int (nI (sv_wo (T.vw j).ex k0 (T.vw j).ax i))), some (.int z)], [.long (T.at (T.vw j) i), .long ((sv_fo t0 (sv_wo (T.vw j).ex k0 (T.vw j).ax) (T.at (T.vw j)) (fun t => if t < (sv_pr (sv_rem (T.vw j).ex k0) ((T.vw j).ax - 1)) then sv_neu t0 else 0) i) (sv_wo (T.vw j).ex k0 (T.vw j).ax i)), .int t0, .int (nI (300 * T.ns + (sv_wo (T.vw j).ex k0 (T.vw j).ax i))), .ref (g.2.2.1 + 9)]) S0 _
      refine am_cpsS [.int t0, .long ((sv_fo t0 (sv_wo (T.vw j).ex k0 (T.vw j).ax) (T.at (T.vw j)) (fun t => if t < (sv_pr (sv_rem (T.vw j).ex k0) ((T.vw j).ax - 1)) then sv_neu t0 else 0) i) (sv_wo (T.vw j).ex k0 (T.vw j).ax i)), .long (T.at (T.vw j) i)] [.int (nI (300 * T.ns + (sv_wo (T.vw j).ex k0 (T.vw j).ax i))), .ref (g.2.2.1 + 9)] d_M_fold_293 cS_M_152 rfl rfl rfl (Nat.le_of_ble_eq_true rfl) (Nat.le_of_ble_eq_true rfl) (m_acted t0 ((sv_fo t0 (sv_wo (T.vw j).ex k0 (T.vw j).ax) (T.at (T.vw j)) (fun t => if t < (sv_pr (sv_rem (T.vw j).ex k0) ((T.vw j).ax - 1)) then sv_neu t0 else 0) i) (sv_wo (T.vw j).ex k0 (T.vw j).ax i)) (T.at (T.vw j) i) ?_)
      show am_W g (d + 3) mm_M_fold (296, [some (.ref (g.2.2.1 + 6)), some (.int t0), some (.int (nI j)), some (.int (nI k0)), some (.int z4), some (.int z5), some (.int z6), some (.int (nI (sv_pr (sv_rem (T.vw j).ex k0) ((T.vw j).ax - 1)))), some (.int (nI T.ns)), some (.int (nI (T.vw j).it)), some (.int (nI i)), some (.int (nI (sv_wo (T.vw j).ex k0 (T.vw j).ax i))), some (.int z)], [.long (sv_act t0 ((sv_fo t0 (sv_wo (T.vw j).ex k0 (T.vw j).ax) (T.at (T.vw j)) (fun t => if t < (sv_pr (sv_rem (T.vw j).ex k0) ((T.vw j).ax - 1)) then sv_neu t0 else 0) i) (sv_wo (T.vw j).ex k0 (T.vw j).ax i)) (T.at (T.vw j) i)), .int (nI (300 * T.ns + (sv_wo (T.vw j).ex k0 (T.vw j).ax i))), .ref (g.2.2.1 + 9)]) S0 _
      refine am_lastN (t := 1) d_M_fold_296 rfl m3 (by omega) (by omega) ?_
      obtain ⟨S_1, eS_1⟩ : ∃ z : am_S, z = (am_up S0.1 (g.2.2.1 + 9) (.inl (1, 3600, .inr (.inl (vp_updL fN (300 * T.ns + (sv_wo (T.vw j).ex k0 (T.vw j).ax i)) (sv_act t0 ((sv_fo t0 (sv_wo (T.vw j).ex k0 (T.vw j).ax) (T.at (T.vw j)) (fun t => if t < (sv_pr (sv_rem (T.vw j).ex k0) ((T.vw j).ax - 1)) then sv_neu t0 else 0) i) (sv_wo (T.vw j).ex k0 (T.vw j).ax i)) (T.at (T.vw j) i)))))), S0.2) := ⟨_, rfl⟩
      change am_W _ _ _ _ (am_up S0.1 (g.2.2.1 + 9) (.inl (1, 3600, .inr (.inl (vp_updL fN (300 * T.ns + (sv_wo (T.vw j).ex k0 (T.vw j).ax i)) (sv_act t0 ((sv_fo t0 (sv_wo (T.vw j).ex k0 (T.vw j).ax) (T.at (T.vw j)) (fun t => if t < (sv_pr (sv_rem (T.vw j).ex k0) ((T.vw j).ax - 1)) then sv_neu t0 else 0) i) (sv_wo (T.vw j).ex k0 (T.vw j).ax i)) (T.at (T.vw j) i)))))), S0.2) _
      rw [← eS_1]
      have h_2 : S_1.1 (g.2.2.1 + 6) = some (.inr (3, [.int th, .int (nI (T.ns + 1)), .ref (g.2.2.1 + 7), .ref (g.2.2.1 + 8), .ref (g.2.2.1 + 9), .int (nI T.nv), .ref (g.2.2.1 + 10), .ref (g.2.2.1 + 11), .ref (g.2.2.1 + 12), .ref (g.2.2.1 + 13), .ref (g.2.2.1 + 14), .ref (g.2.2.1 + 15), .ref (g.2.2.1 + 16), .int (nI na), .ref (g.2.2.1 + 17), .ref (g.2.2.1 + 18)])) := by rw [eS_1]; exact (am_up_n (by omega)).trans m0
      have h_3 : S_1.1 (g.2.2.1 + 7) = some (.inl (0, 12, .inl fl)) := by rw [eS_1]; exact (am_up_n (by omega)).trans m1
      have h_4 : S_1.1 (g.2.2.1 + 8) = some (.inl (0, 12, .inl fz)) := by rw [eS_1]; exact (am_up_n (by omega)).trans m2
      have h_5 : S_1.1 (g.2.2.1 + 10) = some (.inl (0, 80, .inl fS)) := by rw [eS_1]; exact (am_up_n (by omega)).trans m4
      have h_6 : S_1.1 (g.2.2.1 + 11) = some (.inl (0, 80, .inl fa)) := by rw [eS_1]; exact (am_up_n (by omega)).trans m5
      have h_7 : S_1.1 (g.2.2.1 + 12) = some (.inl (0, 80, .inl fx)) := by rw [eS_1]; exact (am_up_n (by omega)).trans m6
      have h_8 : S_1.1 (g.2.2.1 + 13) = some (.inl (0, 320, .inl fe)) := by rw [eS_1]; exact (am_up_n (by omega)).trans m7
      have h_9 : S_1.1 (g.2.2.1 + 14) = some (.inl (0, 320, .inl fs)) := by rw [eS_1]; exact (am_up_n (by omega)).trans m8
      have h_10 : S_1.1 (g.2.2.1 + 15) = some (.inl (1, 5, .inr (.inl ne))) := by rw [eS_1]; exact (am_up_n (by omega)).trans m9
      have h_11 : S_1.1 (g.2.2.1 + 16) = some (.inl (1, 5, .inr (.inl nw))) := by rw [eS_1]; exact (am_up_n (by omega)).trans m10
      have h_12 : S_1.1 (g.2.2.1 + 17) = some (.inl (1, 3000, .inr (.inl rd))) := by rw [eS_1]; exact (am_up_n (by omega)).trans m11
      have h_13 : S_1.1 (g.2.2.1 + 18) = some (.inl (2, 300, .inl mt)) := by rw [eS_1]; exact (am_up_n (by omega)).trans m12
      have hf_14 : sv_MF g S S_1 := by rw [eS_1]; exact hfr.u (by omega) (by omega)
      have h_15 : S_1.1 (g.2.2.1 + 9) = some (.inl (1, 3600, .inr (.inl (vp_updL fN (300 * T.ns + (sv_wo (T.vw j).ex k0 (T.vw j).ax i)) (sv_act t0 ((sv_fo t0 (sv_wo (T.vw j).ex k0 (T.vw j).ax) (T.at (T.vw j)) (fun t => if t < (sv_pr (sv_rem (T.vw j).ex k0) ((T.vw j).ax - 1)) then sv_neu t0 else 0) i) (sv_wo (T.vw j).ex k0 (T.vw j).ax i)) (T.at (T.vw j) i)))))) := by rw [eS_1]; exact am_up_s
      have hnS_1 : S_1.2.1 = S0.2.1 := by rw [eS_1]
      have hzS_1 : S_1.2.2 = S0.2.2 := by rw [eS_1]
      refine am_iinc (v := nI (i + 1)) (L' := [some (.ref (g.2.2.1 + 6)), some (.int t0), some (.int (nI j)), some (.int (nI k0)), some (.int z4), some (.int z5), some (.int z6), some (.int (nI (sv_pr (sv_rem (T.vw j).ex k0) ((T.vw j).ax - 1)))), some (.int (nI T.ns)), some (.int (nI (T.vw j).it)), some (.int (nI (i + 1))), some (.int (nI (sv_wo (T.vw j).ex k0 (T.vw j).ax i))), some (.int z)]) d_M_fold_297 rfl (nI_1 i) (by decide) rfl rfl ?_
      refine am_goto (tgt := 191) d_M_fold_300 (by decide) ?_
      refine am_drop (L' := [some (.ref (g.2.2.1 + 6)), some (.int t0), some (.int (nI j)), some (.int (nI k0)), some (.int z4), some (.int z5), some (.int z6), some (.int (nI (sv_pr (sv_rem (T.vw j).ex k0) ((T.vw j).ax - 1)))), some (.int (nI T.ns)), some (.int (nI (T.vw j).it)), some (.int (nI (i + 1))), none, none]) (by simp [am_le]) ?_
      exact ih (c - 1) (by omega) (i + 1) (by omega) _ (sv_N.putS (T := T) hwo h300 hTI hw ⟨h_2, h_3, h_4, h_15, h_5, h_6, h_7, h_8, h_9, h_10, h_11, h_12, h_13⟩ rfl) hf_14
set_option maxHeartbeats 4000000 in
set_option maxRecDepth 100000 in
/-- M_fold -/
theorem e_fold {g : am_G} {d : Nat} {S : am_S} {T : sv_T} {th : Int32} {na : Nat} {ne nw rd : Nat → Int64} {mt : Nat → Int32} (hM : sv_N g S.1 T th na ne nw rd mt) {t0 v x : Int32} : am_W g (d + 3) mm_M_fold (0, am_ent [.ref (g.2.2.1 + 6), .int t0, .int v, .int x] 13, []) S (sv_E g S (q_fold T t0 v x) (sv_cd 4 5 6)) := by
  obtain ⟨fl, fz, fN, fS, fa, fx, fe, fs, ⟨m0, m1, m2, m3, m4, m5, m6, m7, m8, m9, m10, m11, m12⟩, ⟨t1, t2, t3⟩, hw⟩ := id hM
  have h80 := hw.2.1
  have h12 := hw.1
  show am_W g (d + 3) mm_M_fold (0, [some (.ref (g.2.2.1 + 6)), some (.int t0), some (.int v), some (.int x), none, none, none, none, none, none, none, none, none], []) S _
  refine am_aloadn d_M_fold_0 rfl ?_
  refine am_iloadn d_M_fold_1 rfl ?_
  refine am_iloadn d_M_fold_2 rfl ?_
  refine am_cpsV [.int v, .int x] [] d_M_fold_3 cV_M_105 rfl m0 rfl rfl (Nat.le_of_ble_eq_true rfl) (Nat.le_of_ble_eq_true rfl) (m_isAxis hM ?_)
  show am_W g (d + 3) mm_M_fold (6, [some (.ref (g.2.2.1 + 6)), some (.int t0), some (.int v), some (.int x), none, none, none, none, none, none, none, none, none], [.int (sv_if (sv_ia T v x) 1 0)]) S _
  refine am_istore (L' := [some (.ref (g.2.2.1 + 6)), some (.int t0), some (.int v), some (.int x), some (.int (sv_if (sv_ia T v x) 1 0)), none, none, none, none, none, none, none, none]) d_M_fold_6 (by decide) rfl rfl ?_
  refine am_cut (F := (27, [some (.ref (g.2.2.1 + 6)), some (.int t0), some (.int v), some (.int x), some (.int (sv_if (sv_ia T v x) 1 0)), none, none, none, none, none, none, none, none], [.int (sv_if ((0 ≤ t0 ∧ t0 ≤ 4) ∧ ¬ t0 = 1) 1 0)])) ?_ (fun key => ?_)
  · skip
    refine am_istore (L' := [some (.ref (g.2.2.1 + 6)), some (.int t0), some (.int v), some (.int x), some (.int (sv_if (sv_ia T v x) 1 0)), some (.int (sv_if ((0 ≤ t0 ∧ t0 ≤ 4) ∧ ¬ t0 = 1) 1 0)), none, none, none, none, none, none, none]) d_M_fold_27 (by decide) rfl rfl ?_
    refine am_cut (F := (52, [some (.ref (g.2.2.1 + 6)), some (.int t0), some (.int v), some (.int x), some (.int (sv_if (sv_ia T v x) 1 0)), some (.int (sv_if ((0 ≤ t0 ∧ t0 ≤ 4) ∧ ¬ t0 = 1) 1 0)), none, none, none, none, none, none, none], [.int (sv_if (T.ns < 12 ∧ T.nv < 80) 1 0)])) ?_ (fun key => ?_)
    · skip
      refine am_istore (L' := [some (.ref (g.2.2.1 + 6)), some (.int t0), some (.int v), some (.int x), some (.int (sv_if (sv_ia T v x) 1 0)), some (.int (sv_if ((0 ≤ t0 ∧ t0 ≤ 4) ∧ ¬ t0 = 1) 1 0)), some (.int (sv_if (T.ns < 12 ∧ T.nv < 80) 1 0)), none, none, none, none, none, none]) d_M_fold_52 (by decide) rfl rfl ?_
      by_cases hia : sv_ia T v x
      · obtain ⟨j, k0, hj, rfl, hk, rfl⟩ := sv_ia_of hia hw
        obtain ⟨w1, w2, w3, w4, w5, w6, w7⟩ := hw.2.2.2 j hj
        rw [q_fold, sv_qv_j hj h80, sv_qa_j hk w2]
        refine am_iload d_M_fold_54 rfl ?_
        refine am_ifeq (tgt := 89) d_M_fold_56 (by decide) (fun hz => ?_) (fun hz => ?_)
        · exact absurd hia (sv_b0 hz)
        · refine am_aloadn d_M_fold_59 rfl ?_
          refine am_iloadn d_M_fold_60 rfl ?_
          refine am_iloadn d_M_fold_61 rfl ?_
          refine am_iconst (-1) d_M_fold_62 (by decide) ?_
          refine am_cpsV [.int (nI j), .int (nI k0), .int (-1)] [] d_M_fold_63 cV_M_113 rfl m0 rfl rfl (Nat.le_of_ble_eq_true rfl) (Nat.le_of_ble_eq_true rfl) (m_take hM hj (b1 := nI k0) (b2 := -1) (fun S2 Ne Nw hN2 hf2 hI2 => ?_))
          show am_W g (d + 3) mm_M_fold (66, [some (.ref (g.2.2.1 + 6)), some (.int t0), some (.int (nI j)), some (.int (nI k0)), some (.int (sv_if (sv_ia T (nI j) (nI k0)) 1 0)), some (.int (sv_if ((0 ≤ t0 ∧ t0 ≤ 4) ∧ ¬ t0 = 1) 1 0)), some (.int (sv_if (T.ns < 12 ∧ T.nv < 80) 1 0)), none, none, none, none, none, none], []) S2 _
          have hI3 := sv_tk_one hk w2 hI2
          have hc2 : sv_c2 (nI k0) (-1) (T.vw j).ax = (T.vw j).ax - 1 := by rw [sv_c2_one (by omega) (by omega), if_pos hk]
          rw [hc2] at hN2
          obtain ⟨flc, fzc, fNc, fSc, fac, fxc, fec, fsc, ⟨m0c, m1c, m2c, m3c, m4c, m5c, m6c, m7c, m8c, m9c, m10c, m11c, m12c⟩, ⟨t1c, t2c, t3c⟩, hwc⟩ := id hN2
          have hOn : sv_ok (sv_rem (T.vw j).ex k0) ((T.vw j).ax - 1) := fun t ht => by simp only [sv_rem]; split <;> exact w3 _ (by omega)
          refine am_cut (F := (87, [some (.ref (g.2.2.1 + 6)), some (.int t0), some (.int (nI j)), some (.int (nI k0)), some (.int (sv_if (sv_ia T (nI j) (nI k0)) 1 0)), some (.int (sv_if ((0 ≤ t0 ∧ t0 ≤ 4) ∧ ¬ t0 = 1) 1 0)), some (.int (sv_if (T.ns < 12 ∧ T.nv < 80) 1 0)), none, none, none, none, none, none], [.int (sv_if ((T.ns < 12 ∧ T.nv < 80) ∧ (sv_pr (sv_rem (T.vw j).ex k0) ((T.vw j).ax - 1)) ≤ 300) 1 0)])) ?_ (fun key => ?_)
          · skip
            refine am_istore (L' := [some (.ref (g.2.2.1 + 6)), some (.int t0), some (.int (nI j)), some (.int (nI k0)), some (.int (sv_if (sv_ia T (nI j) (nI k0)) 1 0)), some (.int (sv_if ((0 ≤ t0 ∧ t0 ≤ 4) ∧ ¬ t0 = 1) 1 0)), some (.int (sv_if ((T.ns < 12 ∧ T.nv < 80) ∧ (sv_pr (sv_rem (T.vw j).ex k0) ((T.vw j).ax - 1)) ≤ 300) 1 0)), none, none, none, none, none, none]) d_M_fold_87 (by decide) rfl rfl ?_
            refine am_aloadn d_M_fold_89 rfl ?_
            refine am_iload d_M_fold_90 rfl ?_
            refine am_iload d_M_fold_92 rfl ?_
            refine am_iload d_M_fold_94 rfl ?_
            refine am_cpsV [.int (sv_if (sv_ia T (nI j) (nI k0)) 1 0), .int (sv_if ((0 ≤ t0 ∧ t0 ≤ 4) ∧ ¬ t0 = 1) 1 0), .int (sv_if ((T.ns < 12 ∧ T.nv < 80) ∧ (sv_pr (sv_rem (T.vw j).ex k0) ((T.vw j).ax - 1)) ≤ 300) 1 0)] [] d_M_fold_96 cV_M_109 rfl m0c rfl rfl (Nat.le_of_ble_eq_true rfl) (Nat.le_of_ble_eq_true rfl) (m_goes hN2 (fun b1 S3 hN1 hf1 => ?_) (fun b1 b2 S3 hN1 hf1 => ?_) (fun b1 b2 b3 S3 hN1 hf1 => ?_) (fun b1 b2 b3 S3 hN1 hf1 => ?_))
            · show am_W g (d + 3) mm_M_fold (99, [some (.ref (g.2.2.1 + 6)), some (.int t0), some (.int (nI j)), some (.int (nI k0)), some (.int (sv_if (sv_ia T (nI j) (nI k0)) 1 0)), some (.int (sv_if ((0 ≤ t0 ∧ t0 ≤ 4) ∧ ¬ t0 = 1) 1 0)), some (.int (sv_if ((T.ns < 12 ∧ T.nv < 80) ∧ (sv_pr (sv_rem (T.vw j).ex k0) ((T.vw j).ax - 1)) ≤ 300) 1 0)), none, none, none, none, none, none], [.int 0]) S3 _
              refine am_ifne (tgt := 104) d_M_fold_99 (by decide) (fun hz => ?_) (fun hz => ?_)
              · exact absurd rfl hz
              · exact absurd hia (sv_b0 b1)
            · show am_W g (d + 3) mm_M_fold (99, [some (.ref (g.2.2.1 + 6)), some (.int t0), some (.int (nI j)), some (.int (nI k0)), some (.int (sv_if (sv_ia T (nI j) (nI k0)) 1 0)), some (.int (sv_if ((0 ≤ t0 ∧ t0 ≤ 4) ∧ ¬ t0 = 1) 1 0)), some (.int (sv_if ((T.ns < 12 ∧ T.nv < 80) ∧ (sv_pr (sv_rem (T.vw j).ex k0) ((T.vw j).ax - 1)) ≤ 300) 1 0)), none, none, none, none, none, none], [.int 0]) S3 _
              refine am_ifne (tgt := 104) d_M_fold_99 (by decide) (fun hz => ?_) (fun hz => ?_)
              · exact absurd rfl hz
              · refine am_iconst 0 d_M_fold_102 (by decide) ?_
                rw [if_neg (sv_b0 b2)]
                exact am_iret d_M_fold_103 rfl (sv_E.no hN1 (hf2.tr hf1) (by decide))
            · show am_W g (d + 3) mm_M_fold (99, [some (.ref (g.2.2.1 + 6)), some (.int t0), some (.int (nI j)), some (.int (nI k0)), some (.int (sv_if (sv_ia T (nI j) (nI k0)) 1 0)), some (.int (sv_if ((0 ≤ t0 ∧ t0 ≤ 4) ∧ ¬ t0 = 1) 1 0)), some (.int (sv_if ((T.ns < 12 ∧ T.nv < 80) ∧ (sv_pr (sv_rem (T.vw j).ex k0) ((T.vw j).ax - 1)) ≤ 300) 1 0)), none, none, none, none, none, none], [.int 0]) S3 _
              refine am_ifne (tgt := 104) d_M_fold_99 (by decide) (fun hz => ?_) (fun hz => ?_)
              · exact absurd rfl hz
              · refine am_iconst 0 d_M_fold_102 (by decide) ?_
                rw [if_pos (sv_b1 b2), if_neg (fun q => sv_b0 b3 ⟨q.2, q.1⟩)]
                exact am_iret d_M_fold_103 rfl (sv_E.no hN1 (hf2.tr hf1) (by decide))
            · skip
              show am_W g (d + 3) mm_M_fold (99, [some (.ref (g.2.2.1 + 6)), some (.int t0), some (.int (nI j)), some (.int (nI k0)), some (.int (sv_if (sv_ia T (nI j) (nI k0)) 1 0)), some (.int (sv_if ((0 ≤ t0 ∧ t0 ≤ 4) ∧ ¬ t0 = 1) 1 0)), some (.int (sv_if ((T.ns < 12 ∧ T.nv < 80) ∧ (sv_pr (sv_rem (T.vw j).ex k0) ((T.vw j).ax - 1)) ≤ 300) 1 0)), none, none, none, none, none, none], [.int 1]) S3 _
              refine am_ifne (tgt := 104) d_M_fold_99 (by decide) (fun hz => ?_) (fun hz => ?_)
              · skip
                have hR := sv_b1 b2
                have hD := sv_b1 b3
                rw [if_pos hR, if_pos ⟨hD.2, hD.1⟩]
                obtain ⟨fld, fzd, fNd, fSd, fad, fxd, fed, fsd, ⟨m0d, m1d, m2d, m3d, m4d, m5d, m6d, m7d, m8d, m9d, m10d, m11d, m12d⟩, ⟨t1d, t2d, t3d⟩, hwd⟩ := id hN1
                refine am_aloadn d_M_fold_104 rfl ?_
                refine am_cpsV [] [] d_M_fold_105 cV_M_78 rfl m0d rfl rfl (Nat.le_of_ble_eq_true rfl) (Nat.le_of_ble_eq_true rfl) (m_product hN1 (sv_rem (T.vw j).ex k0) (fun t ht => (hI3 t ht).1) hOn (by omega) ?_)
                show am_W g (d + 3) mm_M_fold (108, [some (.ref (g.2.2.1 + 6)), some (.int t0), some (.int (nI j)), some (.int (nI k0)), some (.int (sv_if (sv_ia T (nI j) (nI k0)) 1 0)), some (.int (sv_if ((0 ≤ t0 ∧ t0 ≤ 4) ∧ ¬ t0 = 1) 1 0)), some (.int (sv_if ((T.ns < 12 ∧ T.nv < 80) ∧ (sv_pr (sv_rem (T.vw j).ex k0) ((T.vw j).ax - 1)) ≤ 300) 1 0)), none, none, none, none, none, none], [.long (lN (min (sv_pr (sv_rem (T.vw j).ex k0) ((T.vw j).ax - 1)) 3001))]) S3 _
                refine am_l2i d_M_fold_108 ?_
                refine am_ti (b := nI (sv_pr (sv_rem (T.vw j).ex k0) ((T.vw j).ax - 1))) (by rw [lN_i, Nat.min_eq_left (by omega)]) ?_
                refine am_istore (L' := [some (.ref (g.2.2.1 + 6)), some (.int t0), some (.int (nI j)), some (.int (nI k0)), some (.int (sv_if (sv_ia T (nI j) (nI k0)) 1 0)), some (.int (sv_if ((0 ≤ t0 ∧ t0 ≤ 4) ∧ ¬ t0 = 1) 1 0)), some (.int (sv_if ((T.ns < 12 ∧ T.nv < 80) ∧ (sv_pr (sv_rem (T.vw j).ex k0) ((T.vw j).ax - 1)) ≤ 300) 1 0)), some (.int (nI (sv_pr (sv_rem (T.vw j).ex k0) ((T.vw j).ax - 1)))), none, none, none, none, none]) d_M_fold_109 (by decide) rfl rfl ?_
                refine am_aloadn d_M_fold_111 rfl ?_
                refine am_iconst 3 d_M_fold_112 (by decide) ?_
                refine am_iload d_M_fold_113 rfl ?_
                refine am_cpsV [.int 3, .int (nI (sv_pr (sv_rem (T.vw j).ex k0) ((T.vw j).ax - 1)))] [] d_M_fold_115 cV_M_98 rfl m0d rfl rfl (Nat.le_of_ble_eq_true rfl) (Nat.le_of_ble_eq_true rfl) (m_addStore hN1 (ln := 3) (sz := (sv_pr (sv_rem (T.vw j).ex k0) ((T.vw j).ax - 1))) hD.1.1 hD.2 (fun S4 hN4 hf4 => ?_))
                show am_W g (d + 3) mm_M_fold (118, [some (.ref (g.2.2.1 + 6)), some (.int t0), some (.int (nI j)), some (.int (nI k0)), some (.int (sv_if (sv_ia T (nI j) (nI k0)) 1 0)), some (.int (sv_if ((0 ≤ t0 ∧ t0 ≤ 4) ∧ ¬ t0 = 1) 1 0)), some (.int (sv_if ((T.ns < 12 ∧ T.nv < 80) ∧ (sv_pr (sv_rem (T.vw j).ex k0) ((T.vw j).ax - 1)) ≤ 300) 1 0)), some (.int (nI (sv_pr (sv_rem (T.vw j).ex k0) ((T.vw j).ax - 1)))), none, none, none, none, none], [.int (nI T.ns)]) S4 _
                refine am_istore (L' := [some (.ref (g.2.2.1 + 6)), some (.int t0), some (.int (nI j)), some (.int (nI k0)), some (.int (sv_if (sv_ia T (nI j) (nI k0)) 1 0)), some (.int (sv_if ((0 ≤ t0 ∧ t0 ≤ 4) ∧ ¬ t0 = 1) 1 0)), some (.int (sv_if ((T.ns < 12 ∧ T.nv < 80) ∧ (sv_pr (sv_rem (T.vw j).ex k0) ((T.vw j).ax - 1)) ≤ 300) 1 0)), some (.int (nI (sv_pr (sv_rem (T.vw j).ex k0) ((T.vw j).ax - 1)))), some (.int (nI T.ns)), none, none, none, none]) d_M_fold_118 (by decide) rfl rfl ?_
                refine am_iconst 0 d_M_fold_120 (by decide) ?_
                refine am_istore (L' := [some (.ref (g.2.2.1 + 6)), some (.int t0), some (.int (nI j)), some (.int (nI k0)), some (.int (sv_if (sv_ia T (nI j) (nI k0)) 1 0)), some (.int (sv_if ((0 ≤ t0 ∧ t0 ≤ 4) ∧ ¬ t0 = 1) 1 0)), some (.int (sv_if ((T.ns < 12 ∧ T.nv < 80) ∧ (sv_pr (sv_rem (T.vw j).ex k0) ((T.vw j).ax - 1)) ≤ 300) 1 0)), some (.int (nI (sv_pr (sv_rem (T.vw j).ex k0) ((T.vw j).ax - 1)))), some (.int (nI T.ns)), some (.int 0), none, none, none]) d_M_fold_121 (by decide) rfl rfl ?_
                have e0 : (fun _ => 0 : Nat → Int64) = (fun t => if t < 0 then sv_neu t0 else 0) := by funext t; rw [if_neg (Nat.not_lt_zero t)]
                rw [e0] at hN4
                refine e_fold_1 (S := S4) (d := d + 3) hj hk w1 hD.2 hR (fun S5 hN5 hf5 z => ?_) (sv_pr (sv_rem (T.vw j).ex k0) ((T.vw j).ax - 1)) 0 (Nat.zero_add _) S4 hN4 sv_MF.rf
                obtain ⟨fle, fze, fNe, fSe, fae, fxe, fee, fse, ⟨m0e, m1e, m2e, m3e, m4e, m5e, m6e, m7e, m8e, m9e, m10e, m11e, m12e⟩, ⟨t1e, t2e, t3e⟩, hwe⟩ := id hN5
                refine am_aloadn d_M_fold_181 rfl ?_
                refine am_iloadn d_M_fold_182 rfl ?_
                refine am_cpsV [.int (nI j)] [] d_M_fold_183 cV_M_117 rfl m0e rfl rfl (Nat.le_of_ble_eq_true rfl) (Nat.le_of_ble_eq_true rfl) (m_items (T := (T.addS 3 (sv_pr (sv_rem (T.vw j).ex k0) ((T.vw j).ax - 1)) (fun t => if t < (sv_pr (sv_rem (T.vw j).ex k0) ((T.vw j).ax - 1)) then sv_neu t0 else 0))) (j := j) hN5 hj ?_)
                show am_W g (d + 3) mm_M_fold (186, [some (.ref (g.2.2.1 + 6)), some (.int t0), some (.int (nI j)), some (.int (nI k0)), some (.int (sv_if (sv_ia T (nI j) (nI k0)) 1 0)), some (.int (sv_if ((0 ≤ t0 ∧ t0 ≤ 4) ∧ ¬ t0 = 1) 1 0)), some (.int (sv_if ((T.ns < 12 ∧ T.nv < 80) ∧ (sv_pr (sv_rem (T.vw j).ex k0) ((T.vw j).ax - 1)) ≤ 300) 1 0)), some (.int (nI (sv_pr (sv_rem (T.vw j).ex k0) ((T.vw j).ax - 1)))), some (.int (nI T.ns)), some (.int z), none, none, none], [.int (nI (T.vw j).it)]) S5 _
                refine am_istore (L' := [some (.ref (g.2.2.1 + 6)), some (.int t0), some (.int (nI j)), some (.int (nI k0)), some (.int (sv_if (sv_ia T (nI j) (nI k0)) 1 0)), some (.int (sv_if ((0 ≤ t0 ∧ t0 ≤ 4) ∧ ¬ t0 = 1) 1 0)), some (.int (sv_if ((T.ns < 12 ∧ T.nv < 80) ∧ (sv_pr (sv_rem (T.vw j).ex k0) ((T.vw j).ax - 1)) ≤ 300) 1 0)), some (.int (nI (sv_pr (sv_rem (T.vw j).ex k0) ((T.vw j).ax - 1)))), some (.int (nI T.ns)), some (.int (nI (T.vw j).it)), none, none, none]) d_M_fold_186 (by decide) rfl rfl ?_
                refine am_iconst 0 d_M_fold_188 (by decide) ?_
                refine am_istore (L' := [some (.ref (g.2.2.1 + 6)), some (.int t0), some (.int (nI j)), some (.int (nI k0)), some (.int (sv_if (sv_ia T (nI j) (nI k0)) 1 0)), some (.int (sv_if ((0 ≤ t0 ∧ t0 ≤ 4) ∧ ¬ t0 = 1) 1 0)), some (.int (sv_if ((T.ns < 12 ∧ T.nv < 80) ∧ (sv_pr (sv_rem (T.vw j).ex k0) ((T.vw j).ax - 1)) ≤ 300) 1 0)), some (.int (nI (sv_pr (sv_rem (T.vw j).ex k0) ((T.vw j).ax - 1)))), some (.int (nI T.ns)), some (.int (nI (T.vw j).it)), some (.int 0), none, none]) d_M_fold_189 (by decide) rfl rfl ?_
                refine e_fold_2 (S := S5) hj hk w1 hD.2 hR (fun S6 hN6 hf6 z2 => ?_) (T.vw j).it 0 (Nat.zero_add _) S5 hN5 sv_MF.rf
                obtain ⟨flf, fzf, fNf, fSf, faf, fxf, fef, fsf, ⟨m0f, m1f, m2f, m3f, m4f, m5f, m6f, m7f, m8f, m9f, m10f, m11f, m12f⟩, ⟨t1f, t2f, t3f⟩, hwf⟩ := id hN6
                refine am_aloadn d_M_fold_303 rfl ?_
                refine am_cpsV [] [] d_M_fold_304 cV_M_132 rfl m0f rfl rfl (Nat.le_of_ble_eq_true rfl) (Nat.le_of_ble_eq_true rfl) (m_inOrder hN6 (sv_rem (T.vw j).ex k0) (fun t ht => (hI3 t ht).1) hOn (by omega) (fun S7 Nw2 hN7 hf7 hI7 => ?_))
                show am_W g (d + 3) mm_M_fold (307, [some (.ref (g.2.2.1 + 6)), some (.int t0), some (.int (nI j)), some (.int (nI k0)), some (.int (sv_if (sv_ia T (nI j) (nI k0)) 1 0)), some (.int (sv_if ((0 ≤ t0 ∧ t0 ≤ 4) ∧ ¬ t0 = 1) 1 0)), some (.int (sv_if ((T.ns < 12 ∧ T.nv < 80) ∧ (sv_pr (sv_rem (T.vw j).ex k0) ((T.vw j).ax - 1)) ≤ 300) 1 0)), some (.int (nI (sv_pr (sv_rem (T.vw j).ex k0) ((T.vw j).ax - 1)))), some (.int (nI T.ns)), some (.int (nI (T.vw j).it)), some (.int z2), none, none], []) S7 _
                obtain ⟨flh, fzh, fNh, fSh, fah, fxh, feh, fsh, ⟨m0h, m1h, m2h, m3h, m4h, m5h, m6h, m7h, m8h, m9h, m10h, m11h, m12h⟩, ⟨t1h, t2h, t3h⟩, hwh⟩ := id hN7
                refine am_aloadn d_M_fold_307 rfl ?_
                refine am_iload d_M_fold_308 rfl ?_
                refine am_lconst 0 d_M_fold_310 (by decide) ?_
                have hinn : sv_in ((T.ns, 0, (T.vw j).ax - 1, sv_rem (T.vw j).ex k0, sv_rs (sv_rem (T.vw j).ex k0) ((T.vw j).ax - 1)) : sv_A) ((T.addS 3 (sv_pr (sv_rem (T.vw j).ex k0) ((T.vw j).ax - 1)) (sv_fo t0 (sv_wo (T.vw j).ex k0 (T.vw j).ax) (T.at (T.vw j)) (fun t => if t < (sv_pr (sv_rem (T.vw j).ex k0) ((T.vw j).ax - 1)) then sv_neu t0 else 0) (T.vw j).it)).sz T.ns) := by show sv_in _ (if T.ns = T.ns then (sv_pr (sv_rem (T.vw j).ex k0) ((T.vw j).ax - 1)) else _); rw [if_pos rfl]; exact sv_in_row hD.2
                refine am_cpsV [.int (nI T.ns), .long 0] [] d_M_fold_311 cV_M_101 rfl m0h rfl rfl (Nat.le_of_ble_eq_true rfl) (Nat.le_of_ble_eq_true rfl) (m_add (T := (T.addS 3 (sv_pr (sv_rem (T.vw j).ex k0) ((T.vw j).ax - 1)) (sv_fo t0 (sv_wo (T.vw j).ex k0 (T.vw j).ax) (T.at (T.vw j)) (fun t => if t < (sv_pr (sv_rem (T.vw j).ex k0) ((T.vw j).ax - 1)) then sv_neu t0 else 0) (T.vw j).it))) hN7 (a := (T.ns, 0, (T.vw j).ax - 1, sv_rem (T.vw j).ex k0, sv_rs (sv_rem (T.vw j).ex k0) ((T.vw j).ax - 1))) rfl (show (T.vw j).ax - 1 ≤ 4 by omega) (fun t ht => (hI3 t ht).1) (fun t ht => by rw [hI7 t ht]; exact lN_i _) hOn (show (sv_pr (sv_rem (T.vw j).ex k0) ((T.vw j).ax - 1)) ≤ 3000 by omega) (show T.ns < T.ns + 1 by omega) hinn (show T.nv < 80 from hD.1.2) rfl (fun S9 hN9 hf9 => ?_))
                show am_W g (d + 3) mm_M_fold (314, [some (.ref (g.2.2.1 + 6)), some (.int t0), some (.int (nI j)), some (.int (nI k0)), some (.int (sv_if (sv_ia T (nI j) (nI k0)) 1 0)), some (.int (sv_if ((0 ≤ t0 ∧ t0 ≤ 4) ∧ ¬ t0 = 1) 1 0)), some (.int (sv_if ((T.ns < 12 ∧ T.nv < 80) ∧ (sv_pr (sv_rem (T.vw j).ex k0) ((T.vw j).ax - 1)) ≤ 300) 1 0)), some (.int (nI (sv_pr (sv_rem (T.vw j).ex k0) ((T.vw j).ax - 1)))), some (.int (nI T.ns)), some (.int (nI (T.vw j).it)), some (.int z2), none, none], [.int (nI T.nv)]) S9 _
                rw [sv_kp, if_pos ⟨(show T.nv < 80 from hD.1.2), (show (sv_pr (sv_rem (T.vw j).ex k0) ((T.vw j).ax - 1)) ≤ 3000 by omega)⟩]
                exact am_iret d_M_fold_314 rfl (sv_E.ok hN9 (hf2.tr (hf1.tr (hf4.tr (hf5.tr (hf6.tr (hf7.tr hf9)))))))
              · exact absurd hz (by decide)
          · refine am_iload d_M_fold_66 rfl ?_
            refine am_ifeq (tgt := 86) d_M_fold_68 (by decide) (fun hb_3 => ?_) (fun hb_3 => ?_)
            · refine am_iconst 0 d_M_fold_86 (by decide) ?_
              rw [sv_if_n (c := (T.ns < 12 ∧ T.nv < 80) ∧ (sv_pr (sv_rem (T.vw j).ex k0) ((T.vw j).ax - 1)) ≤ 300) (fun q => sv_b0 hb_3 q.1)] at key
              exact key
            · refine am_aloadn d_M_fold_71 rfl ?_
              refine am_cpsV [] [] d_M_fold_72 cV_M_78 rfl m0c rfl rfl (Nat.le_of_ble_eq_true rfl) (Nat.le_of_ble_eq_true rfl) (m_product hN2 (sv_rem (T.vw j).ex k0) (fun t ht => (hI3 t ht).1) hOn (by omega) ?_)
              show am_W g (d + 3) mm_M_fold (75, [some (.ref (g.2.2.1 + 6)), some (.int t0), some (.int (nI j)), some (.int (nI k0)), some (.int (sv_if (sv_ia T (nI j) (nI k0)) 1 0)), some (.int (sv_if ((0 ≤ t0 ∧ t0 ≤ 4) ∧ ¬ t0 = 1) 1 0)), some (.int (sv_if (T.ns < 12 ∧ T.nv < 80) 1 0)), none, none, none, none, none, none], [.long (lN (min (sv_pr (sv_rem (T.vw j).ex k0) ((T.vw j).ax - 1)) 3001))]) S2 _
              refine am_ldc2 300 d_M_fold_75 (am_in 728 (by decide +kernel) rfl) ?_
              refine am_lcmp d_M_fold_78 ?_
              refine am_ifgt (tgt := 86) d_M_fold_79 (by decide) (fun hb_4 => ?_) (fun hb_4 => ?_)
              · refine am_iconst 0 d_M_fold_86 (by decide) ?_
                rw [sv_if_n (c := (T.ns < 12 ∧ T.nv < 80) ∧ (sv_pr (sv_rem (T.vw j).ex k0) ((T.vw j).ax - 1)) ≤ 300) (fun q => sv_p301 q.2 (sv_lcgt.mp hb_4))] at key
                exact key
              · refine am_iconst 1 d_M_fold_82 (by decide) ?_
                refine am_goto (tgt := 87) d_M_fold_83 (by decide) ?_
                rw [sv_if_y (c := (T.ns < 12 ∧ T.nv < 80) ∧ (sv_pr (sv_rem (T.vw j).ex k0) ((T.vw j).ax - 1)) ≤ 300) ⟨sv_b1 hb_3, (sv_p300 (fun z => hb_4 (sv_lcgt.mpr z)))⟩] at key
                exact key
      · refine am_iload d_M_fold_54 rfl ?_
        refine am_ifeq (tgt := 89) d_M_fold_56 (by decide) (fun hz => ?_) (fun hz => ?_)
        · refine am_aloadn d_M_fold_89 rfl ?_
          refine am_iload d_M_fold_90 rfl ?_
          refine am_iload d_M_fold_92 rfl ?_
          refine am_iload d_M_fold_94 rfl ?_
          refine am_cpsV [.int (sv_if (sv_ia T v x) 1 0), .int (sv_if ((0 ≤ t0 ∧ t0 ≤ 4) ∧ ¬ t0 = 1) 1 0), .int (sv_if (T.ns < 12 ∧ T.nv < 80) 1 0)] [] d_M_fold_96 cV_M_109 rfl m0 rfl rfl (Nat.le_of_ble_eq_true rfl) (Nat.le_of_ble_eq_true rfl) (m_goes hM (fun b1 S1 hN1 hf1 => ?_) (fun b1 b2 S1 hN1 hf1 => ?_) (fun b1 b2 b3 S1 hN1 hf1 => ?_) (fun b1 b2 b3 S1 hN1 hf1 => ?_))
          · show am_W g (d + 3) mm_M_fold (99, [some (.ref (g.2.2.1 + 6)), some (.int t0), some (.int v), some (.int x), some (.int (sv_if (sv_ia T v x) 1 0)), some (.int (sv_if ((0 ≤ t0 ∧ t0 ≤ 4) ∧ ¬ t0 = 1) 1 0)), some (.int (sv_if (T.ns < 12 ∧ T.nv < 80) 1 0)), none, none, none, none, none, none], [.int 0]) S1 _
            refine am_ifne (tgt := 104) d_M_fold_99 (by decide) (fun hz => ?_) (fun hz => ?_)
            · exact absurd rfl hz
            · refine am_iconst 0 d_M_fold_102 (by decide) ?_
              rw [q_fold, sv_qva_no hia]
              exact am_iret d_M_fold_103 rfl (sv_E.no hN1 hf1 (by decide))
          · show am_W g (d + 3) mm_M_fold (99, [some (.ref (g.2.2.1 + 6)), some (.int t0), some (.int v), some (.int x), some (.int (sv_if (sv_ia T v x) 1 0)), some (.int (sv_if ((0 ≤ t0 ∧ t0 ≤ 4) ∧ ¬ t0 = 1) 1 0)), some (.int (sv_if (T.ns < 12 ∧ T.nv < 80) 1 0)), none, none, none, none, none, none], [.int 0]) S1 _
            refine am_ifne (tgt := 104) d_M_fold_99 (by decide) (fun hz => ?_) (fun hz => ?_)
            · exact absurd rfl hz
            · exact absurd (sv_b1 b1) hia
          · show am_W g (d + 3) mm_M_fold (99, [some (.ref (g.2.2.1 + 6)), some (.int t0), some (.int v), some (.int x), some (.int (sv_if (sv_ia T v x) 1 0)), some (.int (sv_if ((0 ≤ t0 ∧ t0 ≤ 4) ∧ ¬ t0 = 1) 1 0)), some (.int (sv_if (T.ns < 12 ∧ T.nv < 80) 1 0)), none, none, none, none, none, none], [.int 0]) S1 _
            refine am_ifne (tgt := 104) d_M_fold_99 (by decide) (fun hz => ?_) (fun hz => ?_)
            · exact absurd rfl hz
            · exact absurd (sv_b1 b1) hia
          · skip
            show am_W g (d + 3) mm_M_fold (99, [some (.ref (g.2.2.1 + 6)), some (.int t0), some (.int v), some (.int x), some (.int (sv_if (sv_ia T v x) 1 0)), some (.int (sv_if ((0 ≤ t0 ∧ t0 ≤ 4) ∧ ¬ t0 = 1) 1 0)), some (.int (sv_if (T.ns < 12 ∧ T.nv < 80) 1 0)), none, none, none, none, none, none], [.int 1]) S1 _
            refine am_ifne (tgt := 104) d_M_fold_99 (by decide) (fun hz => ?_) (fun hz => ?_)
            · skip
              exact absurd (sv_b1 b1) hia
            · exact absurd hz (by decide)
        · exact absurd (sv_b1 hz) hia
    · refine am_aloadn d_M_fold_29 rfl ?_
      refine am_get d_M_fold_30 fl_M_84 m0 rfl ?_
      refine am_bipush 12 d_M_fold_33 (by decide) ?_
      refine am_icge (tgt := 51) d_M_fold_35 (by decide) (fun hb_1 => ?_) (fun hb_1 => ?_)
      · refine am_iconst 0 d_M_fold_51 (by decide) ?_
        rw [sv_if_n (c := T.ns < 12 ∧ T.nv < 80) (fun q => nI_ge (b := 12) q.1 (by decide) hb_1)] at key
        exact key
      · refine am_aloadn d_M_fold_38 rfl ?_
        refine am_get d_M_fold_39 fl_M_52 m0 rfl ?_
        refine am_bipush 80 d_M_fold_42 (by decide) ?_
        refine am_icge (tgt := 51) d_M_fold_44 (by decide) (fun hb_2 => ?_) (fun hb_2 => ?_)
        · refine am_iconst 0 d_M_fold_51 (by decide) ?_
          rw [sv_if_n (c := T.ns < 12 ∧ T.nv < 80) (fun q => nI_ge (b := 80) q.2 (by decide) hb_2)] at key
          exact key
        · refine am_iconst 1 d_M_fold_47 (by decide) ?_
          refine am_goto (tgt := 52) d_M_fold_48 (by decide) ?_
          rw [sv_if_y (c := T.ns < 12 ∧ T.nv < 80) ⟨Nat.lt_of_not_le (fun z => hb_1 (nI_le (a := 12) z (by omega))), Nat.lt_of_not_le (fun z => hb_2 (nI_le (a := 80) z (by omega)))⟩] at key
          exact key
  · refine am_iloadn d_M_fold_8 rfl ?_
    refine am_ifeq (tgt := 22) d_M_fold_9 (by decide) (fun h0 => ?_) (fun h0 => ?_)
    · refine am_iconst 1 d_M_fold_22 (by decide) ?_
      refine am_goto (tgt := 27) d_M_fold_23 (by decide) ?_
      rw [sv_if_y (c := (0 ≤ t0 ∧ t0 ≤ 4) ∧ ¬ t0 = 1) (by rw [h0]; decide)] at key
      exact key
    · refine am_iloadn d_M_fold_12 rfl ?_
      refine am_iconst 1 d_M_fold_13 (by decide) ?_
      refine am_icle (tgt := 26) d_M_fold_14 (by decide) (fun h1 => ?_) (fun h1 => ?_)
      · refine am_iconst 0 d_M_fold_26 (by decide) ?_
        rw [sv_if_n (c := (0 ≤ t0 ∧ t0 ≤ 4) ∧ ¬ t0 = 1) (sv_f1a h0 h1)] at key
        exact key
      · refine am_iloadn d_M_fold_17 rfl ?_
        refine am_iconst 5 d_M_fold_18 (by decide) ?_
        refine am_icge (tgt := 26) d_M_fold_19 (by decide) (fun h2 => ?_) (fun h2 => ?_)
        · refine am_iconst 0 d_M_fold_26 (by decide) ?_
          rw [sv_if_n (c := (0 ≤ t0 ∧ t0 ≤ 4) ∧ ¬ t0 = 1) (fun q => sv_le4.mp q.1.2 h2)] at key
          exact key
        · refine am_iconst 1 d_M_fold_22 (by decide) ?_
          refine am_goto (tgt := 27) d_M_fold_23 (by decide) ?_
          rw [sv_if_y (c := (0 ≤ t0 ∧ t0 ≤ 4) ∧ ¬ t0 = 1) (sv_f1b h1 h2)] at key
          exact key
