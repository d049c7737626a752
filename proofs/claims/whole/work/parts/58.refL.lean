/-! the reference: compact, fold -/
theorem sv_addS_set {T : sv_T} {ln : Int32} {sz : Nat} {f f2 : Nat → Int64} : (T.addS ln sz f).setS T.ns f2 = T.addS ln sz f2 := by
  have e : (fun i => if i = T.ns then f2 else (if i = T.ns then f else T.nu i)) = (fun i => if i = T.ns then f2 else T.nu i) := by
    funext i
    split
    · rfl
    · rfl
  show (T.ns + 1, _, _, (fun i => if i = T.ns then f2 else (if i = T.ns then f else T.nu i)), T.nv, _) = _
  rw [e]
  rfl
theorem sv_addS_at {T : sv_T} {ln : Int32} {sz : Nat} {f : Nat → Int64} {a : sv_A} {i : Nat} (h : a.st < T.ns) : (T.addS ln sz f).at a i = T.at a i := by
  show (if a.st = T.ns then f else T.nu a.st) _ = _
  rw [if_neg (by omega)]
  rfl
/-- numbers of a new store are put, one after another -/
theorem sv_N.putS {g : am_G} {M2 : am_M} {T : sv_T} {ln th : Int32} {sz na p : Nat} {f f2 : Nat → Int64} {ne nw rd : Nat → Int64} {mt : Nat → Int32} {x : Int64} {fl fz : Nat → Int32} {fN : Nat → Int64} {fS fa fx fe fs : Nat → Int32} (hp : p < sz) (hsz : sz ≤ 300) (hT : sv_TI (T.addS ln sz f) fl fz fN fS fa fx fe fs) (hw : sv_wf (T.addS ln sz f)) (hM : sv_MM g M2 th (T.ns + 1) T.nv na fl fz (vp_updL fN (300 * T.ns + p) x) fS fa fx fe fs ne nw rd mt) (hf : vp_updL f p x = f2) : sv_N g M2 (T.addS ln sz f2) th na ne nw rd mt := by
  have e : (T.addS ln sz f).nu T.ns = f := if_pos rfl
  have e2 : (T.addS ln sz f).sz T.ns = sz := if_pos rfl
  have h1 := hT.setN hw (s := T.ns) (p := p) (show T.ns < T.ns + 1 by omega) (by rw [e2]; exact hp) x
  rw [e, sv_addS_set, hf] at h1
  refine ⟨fl, fz, _, fS, fa, fx, fe, fs, hM, h1, ?_⟩
  have h2 : sv_wf ((T.addS ln sz f).setS T.ns f2) := hw
  rw [sv_addS_set] at h2
  exact h2
def sv_hm (E x : Nat → Nat) (k0 : Nat) : Nat → Nat
  | 0 => 0
  | k + 1 => if k = k0 then sv_hm E x k0 k else sv_hm E x k0 k * E k + x k
theorem sv_hm_lo (E x : Nat → Nat) (k0 : Nat) : ∀ {n : Nat}, n ≤ k0 → sv_hm E x k0 n = sv_mr E x n := by
  intro n
  induction n with
  | zero => intro _; rfl
  | succ n ih => intro h; simp only [sv_hm, sv_mr]; rw [if_neg (by omega), ih (by omega)]
theorem sv_hm_mr (E x : Nat → Nat) (k0 : Nat) : ∀ {n : Nat}, k0 < n → sv_hm E x k0 n = sv_mr (sv_rem E k0) (sv_rem x k0) (n - 1) := by
  intro n
  induction n with
  | zero => intro h; omega
  | succ n ih =>
    intro h
    simp only [sv_hm]
    by_cases e : n = k0
    · rw [if_pos e, sv_hm_lo E x k0 (by omega), Nat.add_sub_cancel]
      exact sv_mr_congr (fun l hl => by simp only [sv_rem]; rw [if_pos (by omega)]) (fun l hl => by simp only [sv_rem]; rw [if_pos (by omega)]) |>.symm
    · rw [if_neg e, ih (by omega), Nat.add_sub_cancel]
      obtain ⟨m, rfl⟩ : ∃ m, n = m + 1 := ⟨n - 1, by omega⟩
      rw [Nat.add_sub_cancel]
      show _ = sv_mr (sv_rem E k0) (sv_rem x k0) m * sv_rem E k0 m + sv_rem x k0 m
      have h1 : sv_rem E k0 m = E (m + 1) := by simp only [sv_rem]; rw [if_neg (by omega)]
      have h2 : sv_rem x k0 m = x (m + 1) := by simp only [sv_rem]; rw [if_neg (by omega)]
      rw [h1, h2]
theorem sv_hm_wo {E : Nat → Nat} {k0 n i : Nat} (h : k0 < n) : sv_hm E (fun l => sv_ix E n l i) k0 n = sv_wo E k0 n i := by rw [sv_hm_mr _ _ _ h, sv_wo_mr _ _ h]
theorem sv_upd_lt {n i : Nat} {f : Nat → Int64} (hi : i < n) : vp_updL (fun t => if t < i then f t else 0) i (f i) = fun t => if t < i + 1 then f t else 0 := by
  funext t
  by_cases e : t = i
  · subst e; rw [pk_uLs, if_pos (by omega)]
  · rw [pk_uLn e]; exact sv_ifc (by omega)
theorem sv_i300 {T : sv_T} {v : Int32} (hw : sv_wf T) (hv : sv_iv T v) (h : ¬ (300 : Int32) < nI (T.va v).it) : (T.va v).it ≤ 300 := by
  obtain ⟨j, hj, rfl⟩ := sv_iv_of hv hw.2.1
  rw [sv_va_j hj hw.2.1] at *
  have := (hw.2.2.2 j hj).2.2.2.1
  exact Nat.le_of_not_lt (fun q => h (nI_lt (a := 300) q (by omega)))
theorem sv_j300 {T : sv_T} {v : Int32} (hw : sv_wf T) (hv : sv_iv T v) (h : (T.va v).it ≤ 300) (h2 : (300 : Int32) < nI (T.va v).it) : False := nI_nlt (b := (T.va v).it) (a := 300) h (by decide) h2
theorem q_compact_5 {T : sv_T} {v ln : Int32} (h : sv_iv T v) (h2 : ¬ (0 ≤ ln ∧ ln ≤ 3)) : q_compact T v ln = (5, .null, T) := by
  unfold q_compact sv_qv
  rw [if_pos h]
  exact if_neg h2
theorem q_compact_6 {T : sv_T} {v ln : Int32} (h : sv_iv T v) (h2 : 0 ≤ ln ∧ ln ≤ 3) (h3 : ¬ (sv_iv T v ∧ (T.va v).it ≤ 300 ∧ T.ns < 12 ∧ T.nv < 80)) : q_compact T v ln = (6, .null, T) := by
  unfold q_compact sv_qv
  rw [if_pos h]
  dsimp only
  rw [if_pos h2]
  exact if_neg (fun q => h3 ⟨h, q⟩)
set_option maxHeartbeats 4000000 in
set_option maxRecDepth 100000 in
/-- compact, the loop -/
theorem e_compact_l {g : am_G} {d : Nat} {S : am_S} {T : sv_T} {th : Int32} {na : Nat} {ne nw rd : Nat → Int64} {mt : Nat → Int32} {j : Nat} (hj : j < T.nv) (hs0 : (T.vw j).st < T.ns) (h300 : (T.vw j).it ≤ 300) {ln z3 z4 : Int32} {P : am_O → am_S → Prop} (hK : ∀ S1 : am_S, sv_N g S1.1 (T.addS ln (T.vw j).it (fun t => if t < (T.vw j).it then sv_low ln (T.at (T.vw j) t) else 0)) th na ne nw rd mt → sv_MF g S S1 → ∀ z : Int32, am_W g (d + 3) mm_M_compact (119, [some (.ref (g.2.2.1 + 6)), some (.int (nI j)), some (.int ln), some (.int z3), some (.int z4), some (.int (nI (T.vw j).it)), some (.int (nI T.ns)), some (.int z)], []) S1 P) : ∀ (c i : Nat), i + c = (T.vw j).it → ∀ S0 : am_S, sv_N g S0.1 (T.addS ln (T.vw j).it (fun t => if t < i then sv_low ln (T.at (T.vw j) t) else 0)) th na ne nw rd mt → sv_MF g S S0 → am_W g (d + 3) mm_M_compact (81, [some (.ref (g.2.2.1 + 6)), some (.int (nI j)), some (.int ln), some (.int z3), some (.int z4), some (.int (nI (T.vw j).it)), some (.int (nI T.ns)), some (.int (nI i))], []) S0 P := by
  intro c
  induction c using Nat.strongRecOn with
  | ind c ih =>
    intro i hi S0 hN hfr
    obtain ⟨fl, fz, fN, fS, fa, fx, fe, fs, ⟨m0, m1, m2, m3, m4, m5, m6, m7, m8, m9, m10, m11, m12⟩, hTI, hw⟩ := id hN
    have h80 : T.nv ≤ 80 := hw.2.1
    have h12 : T.ns + 1 ≤ 12 := hw.1
    have hst : (T.vw j).st < T.ns := hs0
    have w4 : (T.vw j).it ≤ 3000 := (hw.2.2.2 j hj).2.2.2.1
    refine am_iload d_M_compact_81 rfl ?_
    refine am_iload d_M_compact_83 rfl ?_
    refine am_icge (tgt := 119) d_M_compact_85 (by decide) (fun hc => ?_) (fun hc => ?_)
    · have hk0 : (T.vw j).it ≤ i := (nI_leI (by omega) (by omega)).mp hc
      obtain rfl : i = (T.vw j).it := by omega
      exact hK S0 hN hfr (nI (T.vw j).it)
    · have hlt : i < (T.vw j).it := Nat.lt_of_not_le (fun q => hc (nI_le q (by omega)))
      refine am_aloadn d_M_compact_88 rfl ?_
      refine am_get d_M_compact_89 fl_M_16 m0 rfl ?_
      refine am_sipush 300 d_M_compact_92 (by decide) ?_
      refine am_iload d_M_compact_95 rfl ?_
      refine am_imul d_M_compact_97 ?_
      refine am_iload d_M_compact_98 rfl ?_
      refine am_iadd d_M_compact_100 ?_
      refine am_ti (b := nI (300 * T.ns + i)) (sv_300 _ _) ?_
      refine am_iloadn d_M_compact_101 rfl ?_
      refine am_aloadn d_M_compact_102 rfl ?_
      refine am_iloadn d_M_compact_103 rfl ?_
      refine am_iload d_M_compact_104 rfl ?_
      refine am_cpsV [.int (nI j), .int (nI i)] [.int ln, .int (nI (300 * T.ns + i)), .ref (g.2.2.1 + 9)] d_M_compact_106 cV_M_128 rfl m0 rfl rfl (Nat.le_of_ble_eq_true rfl) (Nat.le_of_ble_eq_true rfl) (m_item (T := (T.addS ln (T.vw j).it (fun t => if t < i then sv_low ln (T.at (T.vw j) t) else 0))) (j := j) hN hj (i := i) hlt ?_)
      show am_W g (d + 3) mm_M_compact (109, [some (.ref (g.2.2.1 + 6)), some (.int (nI j)), some (.int ln), some (.int z3), some (.int z4), some (.int (nI (T.vw j).it)), some (.int (nI T.ns)), some (.int (nI i))], [.long ((T.addS ln (T.vw j).it (fun t => if t < i then sv_low ln (T.at (T.vw j) t) else 0)).at (T.vw j) i), .int ln, .int (nI (300 * T.ns + i)), .ref (g.2.2.1 + 9)]) S0 _
      rw [sv_addS_at hst]
      show am_W g (d + 3) mm_M_compact (109, [some (.ref (g.2.2.1 + 6)), some (.int (nI j)), some (.int ln), some (.int z3), some (.int z4), some (.int (nI (T.vw j).it)), some (.int (nI T.ns)), some (.int (nI i))], [.long (T.at (T.vw j) i), .int ln, .int (nI (300 * T.ns + i)), .ref (g.2.2.1 + 9)]) S0 _
      refine am_cpsS [.int ln, .long (T.at (T.vw j) i)] [.int (nI (300 * T.ns + i)), .ref (g.2.2.1 + 9)] d_M_compact_109 cS_M_74 rfl rfl rfl (Nat.le_of_ble_eq_true rfl) (Nat.le_of_ble_eq_true rfl) (m_kept ?_)
      show am_W g (d + 3) mm_M_compact (112, [some (.ref (g.2.2.1 + 6)), some (.int (nI j)), some (.int ln), some (.int z3), some (.int z4), some (.int (nI (T.vw j).it)), some (.int (nI T.ns)), some (.int (nI i))], [.long (sv_low ln (T.at (T.vw j) i)), .int (nI (300 * T.ns + i)), .ref (g.2.2.1 + 9)]) S0 _
      refine am_lastN (t := 1) d_M_compact_112 rfl m3 (by omega) (by omega) ?_
      obtain ⟨S_1, eS_1⟩ : ∃ z : am_S, z = (am_up S0.1 (g.2.2.1 + 9) (.inl (1, 3600, .inr (.inl (vp_updL fN (300 * T.ns + i) (sv_low ln (T.at (T.vw j) i)))))), S0.2) := ⟨_, rfl⟩
      change am_W _ _ _ _ (am_up S0.1 (g.2.2.1 + 9) (.inl (1, 3600, .inr (.inl (vp_updL fN (300 * T.ns + i) (sv_low ln (T.at (T.vw j) i)))))), S0.2) _
      rw [← eS_1]
      have h_2 : S_1.1 (g.2.2.1 + 6) = some (.inr (3, [.int th, .int (nI (T.ns + 1)), .ref (g.2.2.1 + 7), .ref (g.2.2.1 + 8), .ref (g.2.2.1 + 9), .int (nI T.nv), .ref (g.2.2.1 + 10), .ref (g.2.2.1 + 11), .ref (g.2.2.1 + 12), .ref (g.2.2.1 + 13), .ref (g.2.2.1 + 14), .ref (g.2.2.1 + 15), .ref (g.2.2.1 + 16), .int (nI na), .ref (g.2.2.1 + 17), .ref (g.2.2.1 + 18)])) := by rw [eS_1]; exact (am_up_n (by omega)).trans m0
      have h_3 : S_1.1 (g.2.2.1 + 7) = some (.inl (0, 12, .inl fl)) := by rw [eS_1]; exact (am_up_n (by omega)).trans m1
      have h_4 : S_1.1 (g.2.2.1 + 8) = some (.inl (0, 12, .inl fz)) := by rw [eS_1]; exact (am_up_n (by omega)).trans m2
      have h_5 : S_1.1 (g.2.2.1 + 10) = some (.inl (0, 80, .inl fS)) := by rw [eS_1]; exact (am_up_n (by omega)).trans m4
      have h_6 : S_1.1 (g.2.2.1 + 11) = some (.inl (0, 80, .inl fa)) := by rw [eS_1]; exact (am_up_n (by omega)).trans m5
      have h_7 : S_1.1 (g.2.2.1 + 12) = some (.inl (0, 80, .inl fx)) := by rw [eS_1]; exact (am_up_n (by omega)).trans m6
      have h_8 : S_1.1 (g.2.2.1 + 13) = some (.inl (0, 320, .inl fe)) := by rw [eS_1]; exact (am_up_n (by omega)).trans m7
      have h_9 : S_1.1 (g.2.2.1 + 14) = some (.inl (0, 320, .inl fs)) := by rw [eS_1]; exact (am_up_n (by omega)).trans m8
      have h_10 : S_1.1 (g.2.2.1 + 15) = some (.inl (1, 5, .inr (.inl ne))) := by rw [eS_1]; exact (am_up_n (by omega)).trans m9
      have h_11 : S_1.1 (g.2.2.1 + 16) = some (.inl (1, 5, .inr (.inl nw))) := by rw [eS_1]; exact (am_up_n (by omega)).trans m10
      have h_12 : S_1.1 (g.2.2.1 + 17) = some (.inl (1, 3000, .inr (.inl rd))) := by rw [eS_1]; exact (am_up_n (by omega)).trans m11
      have h_13 : S_1.1 (g.2.2.1 + 18) = some (.inl (2, 300, .inl mt)) := by rw [eS_1]; exact (am_up_n (by omega)).trans m12
      have hf_14 : sv_MF g S S_1 := by rw [eS_1]; exact hfr.u (by omega) (by omega)
      have h_15 : S_1.1 (g.2.2.1 + 9) = some (.inl (1, 3600, .inr (.inl (vp_updL fN (300 * T.ns + i) (sv_low ln (T.at (T.vw j) i)))))) := by rw [eS_1]; exact am_up_s
      have hnS_1 : S_1.2.1 = S0.2.1 := by rw [eS_1]
      have hzS_1 : S_1.2.2 = S0.2.2 := by rw [eS_1]
      refine am_iinc (v := nI (i + 1)) (L' := [some (.ref (g.2.2.1 + 6)), some (.int (nI j)), some (.int ln), some (.int z3), some (.int z4), some (.int (nI (T.vw j).it)), some (.int (nI T.ns)), some (.int (nI (i + 1)))]) d_M_compact_113 rfl (nI_1 i) (by decide) rfl rfl ?_
      refine am_goto (tgt := 81) d_M_compact_116 (by decide) ?_
      exact ih (c - 1) (by omega) (i + 1) (by omega) _ (sv_N.putS (T := T) hlt h300 hTI hw ⟨h_2, h_3, h_4, h_15, h_5, h_6, h_7, h_8, h_9, h_10, h_11, h_12, h_13⟩ (sv_upd_lt (f := fun t => sv_low ln (T.at (T.vw j) t)) hlt)) hf_14
set_option maxHeartbeats 4000000 in
set_option maxRecDepth 100000 in
/-- M_compact -/
theorem e_compact {g : am_G} {d : Nat} {S : am_S} {T : sv_T} {th : Int32} {na : Nat} {ne nw rd : Nat → Int64} {mt : Nat → Int32} (hM : sv_N g S.1 T th na ne nw rd mt) {v ln : Int32} : am_W g (d + 3) mm_M_compact (0, am_ent [.ref (g.2.2.1 + 6), .int v, .int ln] 8, []) S (sv_E g S (q_compact T v ln) (sv_cd 4 5 6)) := by
  obtain ⟨fl, fz, fN, fS, fa, fx, fe, fs, ⟨m0, m1, m2, m3, m4, m5, m6, m7, m8, m9, m10, m11, m12⟩, ⟨t1, t2, t3⟩, hw⟩ := id hM
  have h80 := hw.2.1
  have h12 := hw.1
  show am_W g (d + 3) mm_M_compact (0, [some (.ref (g.2.2.1 + 6)), some (.int v), some (.int ln), none, none, none, none, none], []) S _
  refine am_aloadn d_M_compact_0 rfl ?_
  refine am_iloadn d_M_compact_1 rfl ?_
  refine am_cpsV [.int v] [] d_M_compact_2 cV_M_55 rfl m0 rfl rfl (Nat.le_of_ble_eq_true rfl) (Nat.le_of_ble_eq_true rfl) (m_isView hM ?_)
  show am_W g (d + 3) mm_M_compact (5, [some (.ref (g.2.2.1 + 6)), some (.int v), some (.int ln), none, none, none, none, none], [.int (sv_if (sv_iv T v) 1 0)]) S _
  refine am_istoren (L' := [some (.ref (g.2.2.1 + 6)), some (.int v), some (.int ln), some (.int (sv_if (sv_iv T v) 1 0)), none, none, none, none]) d_M_compact_5 (by decide) rfl rfl ?_
  refine am_cut (F := (44, [some (.ref (g.2.2.1 + 6)), some (.int v), some (.int ln), some (.int (sv_if (sv_iv T v) 1 0)), none, none, none, none], [.int (sv_if (sv_iv T v ∧ (T.va v).it ≤ 300 ∧ T.ns < 12 ∧ T.nv < 80) 1 0)])) ?_ (fun key => ?_)
  · skip
    refine am_istore (L' := [some (.ref (g.2.2.1 + 6)), some (.int v), some (.int ln), some (.int (sv_if (sv_iv T v) 1 0)), some (.int (sv_if (sv_iv T v ∧ (T.va v).it ≤ 300 ∧ T.ns < 12 ∧ T.nv < 80) 1 0)), none, none, none]) d_M_compact_44 (by decide) rfl rfl ?_
    refine am_aloadn d_M_compact_46 rfl ?_
    refine am_iloadn d_M_compact_47 rfl ?_
    refine am_iloadn d_M_compact_48 rfl ?_
    refine am_cpsS [.int ln] [.int (sv_if (sv_iv T v) 1 0), .ref (g.2.2.1 + 6)] d_M_compact_49 cS_M_87 rfl rfl rfl (Nat.le_of_ble_eq_true rfl) (Nat.le_of_ble_eq_true rfl) (m_isLane ?_)
    show am_W g (d + 3) mm_M_compact (52, [some (.ref (g.2.2.1 + 6)), some (.int v), some (.int ln), some (.int (sv_if (sv_iv T v) 1 0)), some (.int (sv_if (sv_iv T v ∧ (T.va v).it ≤ 300 ∧ T.ns < 12 ∧ T.nv < 80) 1 0)), none, none, none], [.int (sv_if (0 ≤ ln ∧ ln ≤ 3) 1 0), .int (sv_if (sv_iv T v) 1 0), .ref (g.2.2.1 + 6)]) S _
    refine am_iload d_M_compact_52 rfl ?_
    refine am_cpsV [.int (sv_if (sv_iv T v) 1 0), .int (sv_if (0 ≤ ln ∧ ln ≤ 3) 1 0), .int (sv_if (sv_iv T v ∧ (T.va v).it ≤ 300 ∧ T.ns < 12 ∧ T.nv < 80) 1 0)] [] d_M_compact_54 cV_M_109 rfl m0 rfl rfl (Nat.le_of_ble_eq_true rfl) (Nat.le_of_ble_eq_true rfl) (m_goes hM (fun b1 S1 hN1 hf1 => ?_) (fun b1 b2 S1 hN1 hf1 => ?_) (fun b1 b2 b3 S1 hN1 hf1 => ?_) (fun b1 b2 b3 S1 hN1 hf1 => ?_))
    · show am_W g (d + 3) mm_M_compact (57, [some (.ref (g.2.2.1 + 6)), some (.int v), some (.int ln), some (.int (sv_if (sv_iv T v) 1 0)), some (.int (sv_if (sv_iv T v ∧ (T.va v).it ≤ 300 ∧ T.ns < 12 ∧ T.nv < 80) 1 0)), none, none, none], [.int 0]) S1 _
      refine am_ifne (tgt := 62) d_M_compact_57 (by decide) (fun hz => ?_) (fun hz => ?_)
      · exact absurd rfl hz
      · refine am_iconst 0 d_M_compact_60 (by decide) ?_
        rw [q_compact, sv_qv_no (sv_b0 b1)]
        exact am_iret d_M_compact_61 rfl (sv_E.no hN1 hf1 (by decide))
    · show am_W g (d + 3) mm_M_compact (57, [some (.ref (g.2.2.1 + 6)), some (.int v), some (.int ln), some (.int (sv_if (sv_iv T v) 1 0)), some (.int (sv_if (sv_iv T v ∧ (T.va v).it ≤ 300 ∧ T.ns < 12 ∧ T.nv < 80) 1 0)), none, none, none], [.int 0]) S1 _
      refine am_ifne (tgt := 62) d_M_compact_57 (by decide) (fun hz => ?_) (fun hz => ?_)
      · exact absurd rfl hz
      · refine am_iconst 0 d_M_compact_60 (by decide) ?_
        rw [q_compact_5 (sv_b1 b1) (sv_b0 b2)]
        exact am_iret d_M_compact_61 rfl (sv_E.no hN1 hf1 (by decide))
    · show am_W g (d + 3) mm_M_compact (57, [some (.ref (g.2.2.1 + 6)), some (.int v), some (.int ln), some (.int (sv_if (sv_iv T v) 1 0)), some (.int (sv_if (sv_iv T v ∧ (T.va v).it ≤ 300 ∧ T.ns < 12 ∧ T.nv < 80) 1 0)), none, none, none], [.int 0]) S1 _
      refine am_ifne (tgt := 62) d_M_compact_57 (by decide) (fun hz => ?_) (fun hz => ?_)
      · exact absurd rfl hz
      · refine am_iconst 0 d_M_compact_60 (by decide) ?_
        rw [q_compact_6 (sv_b1 b1) (sv_b1 b2) (sv_b0 b3)]
        exact am_iret d_M_compact_61 rfl (sv_E.no hN1 hf1 (by decide))
    · skip
      show am_W g (d + 3) mm_M_compact (57, [some (.ref (g.2.2.1 + 6)), some (.int v), some (.int ln), some (.int (sv_if (sv_iv T v) 1 0)), some (.int (sv_if (sv_iv T v ∧ (T.va v).it ≤ 300 ∧ T.ns < 12 ∧ T.nv < 80) 1 0)), none, none, none], [.int 1]) S1 _
      refine am_ifne (tgt := 62) d_M_compact_57 (by decide) (fun hz => ?_) (fun hz => ?_)
      · skip
        have hR := (sv_b1 b3).2
        obtain ⟨j, hj, rfl⟩ := sv_iv_of (sv_b1 b1) h80
        rw [sv_va_j hj h80] at hR
        obtain ⟨w1, w2, w3, w4, w5, w6, w7⟩ := hw.2.2.2 j hj
        rw [q_compact, sv_qv_j hj h80, if_pos (sv_b1 b2), if_pos hR]
        obtain ⟨flb, fzb, fNb, fSb, fab, fxb, feb, fsb, ⟨m0b, m1b, m2b, m3b, m4b, m5b, m6b, m7b, m8b, m9b, m10b, m11b, m12b⟩, ⟨t1b, t2b, t3b⟩, hwb⟩ := id hN1
        refine am_aloadn d_M_compact_62 rfl ?_
        refine am_iloadn d_M_compact_63 rfl ?_
        refine am_cpsV [.int (nI j)] [] d_M_compact_64 cV_M_117 rfl m0b rfl rfl (Nat.le_of_ble_eq_true rfl) (Nat.le_of_ble_eq_true rfl) (m_items hN1 hj ?_)
        show am_W g (d + 3) mm_M_compact (67, [some (.ref (g.2.2.1 + 6)), some (.int (nI j)), some (.int ln), some (.int (sv_if (sv_iv T (nI j)) 1 0)), some (.int (sv_if (sv_iv T (nI j) ∧ (T.va (nI j)).it ≤ 300 ∧ T.ns < 12 ∧ T.nv < 80) 1 0)), none, none, none], [.int (nI (T.vw j).it)]) S1 _
        refine am_istore (L' := [some (.ref (g.2.2.1 + 6)), some (.int (nI j)), some (.int ln), some (.int (sv_if (sv_iv T (nI j)) 1 0)), some (.int (sv_if (sv_iv T (nI j) ∧ (T.va (nI j)).it ≤ 300 ∧ T.ns < 12 ∧ T.nv < 80) 1 0)), some (.int (nI (T.vw j).it)), none, none]) d_M_compact_67 (by decide) rfl rfl ?_
        refine am_aloadn d_M_compact_69 rfl ?_
        refine am_iloadn d_M_compact_70 rfl ?_
        refine am_iload d_M_compact_71 rfl ?_
        refine am_cpsV [.int ln, .int (nI (T.vw j).it)] [] d_M_compact_73 cV_M_98 rfl m0b rfl rfl (Nat.le_of_ble_eq_true rfl) (Nat.le_of_ble_eq_true rfl) (m_addStore hN1 (ln := ln) (sz := (T.vw j).it) hR.2.1 hR.1 (fun S2 hN2 hf2 => ?_))
        show am_W g (d + 3) mm_M_compact (76, [some (.ref (g.2.2.1 + 6)), some (.int (nI j)), some (.int ln), some (.int (sv_if (sv_iv T (nI j)) 1 0)), some (.int (sv_if (sv_iv T (nI j) ∧ (T.va (nI j)).it ≤ 300 ∧ T.ns < 12 ∧ T.nv < 80) 1 0)), some (.int (nI (T.vw j).it)), none, none], [.int (nI T.ns)]) S2 _
        refine am_istore (L' := [some (.ref (g.2.2.1 + 6)), some (.int (nI j)), some (.int ln), some (.int (sv_if (sv_iv T (nI j)) 1 0)), some (.int (sv_if (sv_iv T (nI j) ∧ (T.va (nI j)).it ≤ 300 ∧ T.ns < 12 ∧ T.nv < 80) 1 0)), some (.int (nI (T.vw j).it)), some (.int (nI T.ns)), none]) d_M_compact_76 (by decide) rfl rfl ?_
        refine am_iconst 0 d_M_compact_78 (by decide) ?_
        refine am_istore (L' := [some (.ref (g.2.2.1 + 6)), some (.int (nI j)), some (.int ln), some (.int (sv_if (sv_iv T (nI j)) 1 0)), some (.int (sv_if (sv_iv T (nI j) ∧ (T.va (nI j)).it ≤ 300 ∧ T.ns < 12 ∧ T.nv < 80) 1 0)), some (.int (nI (T.vw j).it)), some (.int (nI T.ns)), some (.int 0)]) d_M_compact_79 (by decide) rfl rfl ?_
        have e0 : (fun _ => 0 : Nat → Int64) = (fun t => if t < 0 then sv_low ln (T.at (T.vw j) t) else 0) := by funext t; rw [if_neg (Nat.not_lt_zero t)]
        rw [e0] at hN2
        refine e_compact_l (S := S2) hj w1 hR.1 (fun S3 hN3 hf3 z => ?_) (T.vw j).it 0 (Nat.zero_add _) S2 hN2 sv_MF.rf
        obtain ⟨flc, fzc, fNc, fSc, fac, fxc, fec, fsc, ⟨m0c, m1c, m2c, m3c, m4c, m5c, m6c, m7c, m8c, m9c, m10c, m11c, m12c⟩, ⟨t1c, t2c, t3c⟩, hwc⟩ := id hN3
        refine am_aloadn d_M_compact_119 rfl ?_
        refine am_iloadn d_M_compact_120 rfl ?_
        refine am_iconst (-1) d_M_compact_121 (by decide) ?_
        refine am_iconst (-1) d_M_compact_122 (by decide) ?_
        refine am_cpsV [.int (nI j), .int (-1), .int (-1)] [] d_M_compact_123 cV_M_113 rfl m0c rfl rfl (Nat.le_of_ble_eq_true rfl) (Nat.le_of_ble_eq_true rfl) (m_take (T := (T.addS ln (T.vw j).it (fun t => if t < (T.vw j).it then sv_low ln (T.at (T.vw j) t) else 0))) (j := j) hN3 hj (b1 := -1) (b2 := -1) (fun S4 Ne Nw hN4 hf4 hI4 => ?_))
        show am_W g (d + 3) mm_M_compact (126, [some (.ref (g.2.2.1 + 6)), some (.int (nI j)), some (.int ln), some (.int (sv_if (sv_iv T (nI j)) 1 0)), some (.int (sv_if (sv_iv T (nI j) ∧ (T.va (nI j)).it ≤ 300 ∧ T.ns < 12 ∧ T.nv < 80) 1 0)), some (.int (nI (T.vw j).it)), some (.int (nI T.ns)), some (.int z)], []) S4 _
        have hI5 := sv_tk_none (a := (T.vw j)) w2 hI4
        have hN4 : sv_N g S4.1 (T.addS ln (T.vw j).it (fun t => if t < (T.vw j).it then sv_low ln (T.at (T.vw j) t) else 0)) 0 (T.vw j).ax Ne Nw rd mt := by have h := hN4; rw [show (T.addS ln (T.vw j).it (fun t => if t < (T.vw j).it then sv_low ln (T.at (T.vw j) t) else 0)).vw j = (T.vw j) from rfl, sv_c2_none (by omega)] at h; exact h
        obtain ⟨fld, fzd, fNd, fSd, fad, fxd, fed, fsd, ⟨m0d, m1d, m2d, m3d, m4d, m5d, m6d, m7d, m8d, m9d, m10d, m11d, m12d⟩, ⟨t1d, t2d, t3d⟩, hwd⟩ := id hN4
        refine am_aloadn d_M_compact_126 rfl ?_
        refine am_cpsV [] [] d_M_compact_127 cV_M_132 rfl m0d rfl rfl (Nat.le_of_ble_eq_true rfl) (Nat.le_of_ble_eq_true rfl) (m_inOrder hN4 (T.vw j).ex (fun t ht => (hI5 t ht).1) w3 (by omega) (fun S5 Nw2 hN5 hf5 hI6 => ?_))
        show am_W g (d + 3) mm_M_compact (130, [some (.ref (g.2.2.1 + 6)), some (.int (nI j)), some (.int ln), some (.int (sv_if (sv_iv T (nI j)) 1 0)), some (.int (sv_if (sv_iv T (nI j) ∧ (T.va (nI j)).it ≤ 300 ∧ T.ns < 12 ∧ T.nv < 80) 1 0)), some (.int (nI (T.vw j).it)), some (.int (nI T.ns)), some (.int z)], []) S5 _
        obtain ⟨fle, fze, fNe, fSe, fae, fxe, fee, fse, ⟨m0e, m1e, m2e, m3e, m4e, m5e, m6e, m7e, m8e, m9e, m10e, m11e, m12e⟩, ⟨t1e, t2e, t3e⟩, hwe⟩ := id hN5
        refine am_aloadn d_M_compact_130 rfl ?_
        refine am_iload d_M_compact_131 rfl ?_
        refine am_lconst 0 d_M_compact_133 (by decide) ?_
        have hinn : sv_in ((T.ns, 0, (T.vw j).ax, (T.vw j).ex, sv_rs (T.vw j).ex (T.vw j).ax) : sv_A) ((T.addS ln (T.vw j).it (fun t => if t < (T.vw j).it then sv_low ln (T.at (T.vw j) t) else 0)).sz T.ns) := by show sv_in _ (if T.ns = T.ns then (T.vw j).it else _); rw [if_pos rfl]; exact sv_in_row hR.1
        refine am_cpsV [.int (nI T.ns), .long 0] [] d_M_compact_134 cV_M_101 rfl m0e rfl rfl (Nat.le_of_ble_eq_true rfl) (Nat.le_of_ble_eq_true rfl) (m_add (T := (T.addS ln (T.vw j).it (fun t => if t < (T.vw j).it then sv_low ln (T.at (T.vw j) t) else 0))) hN5 (a := (T.ns, 0, (T.vw j).ax, (T.vw j).ex, sv_rs (T.vw j).ex (T.vw j).ax)) rfl w2 (fun t ht => (hI5 t ht).1) (fun t ht => by rw [hI6 t ht]; exact lN_i _) w3 w4 (show T.ns < T.ns + 1 by omega) hinn (show T.nv < 80 from hR.2.2) rfl (fun S9 hN9 hf9 => ?_))
        show am_W g (d + 3) mm_M_compact (137, [some (.ref (g.2.2.1 + 6)), some (.int (nI j)), some (.int ln), some (.int (sv_if (sv_iv T (nI j)) 1 0)), some (.int (sv_if (sv_iv T (nI j) ∧ (T.va (nI j)).it ≤ 300 ∧ T.ns < 12 ∧ T.nv < 80) 1 0)), some (.int (nI (T.vw j).it)), some (.int (nI T.ns)), some (.int z)], [.int (nI T.nv)]) S9 _
        rw [sv_kp, if_pos ⟨(show T.nv < 80 from hR.2.2), w4⟩]
        exact am_iret d_M_compact_137 rfl (sv_E.ok hN9 (hf1.tr (hf2.tr (hf3.tr (hf4.tr (hf5.tr hf9))))))
      · exact absurd hz (by decide)
  · refine am_iloadn d_M_compact_6 rfl ?_
    refine am_ifeq (tgt := 43) d_M_compact_7 (by decide) (fun hb_1 => ?_) (fun hb_1 => ?_)
    · refine am_iconst 0 d_M_compact_43 (by decide) ?_
      rw [sv_if_n (c := sv_iv T v ∧ (T.va v).it ≤ 300 ∧ T.ns < 12 ∧ T.nv < 80) (fun q => sv_b0 hb_1 q.1)] at key
      exact key
    · have hV := sv_b1 hb_1
      refine am_aloadn d_M_compact_10 rfl ?_
      refine am_iloadn d_M_compact_11 rfl ?_
      refine am_cpsV [.int v] [] d_M_compact_12 cV_M_117 rfl m0 rfl rfl (Nat.le_of_ble_eq_true rfl) (Nat.le_of_ble_eq_true rfl) (m_itemsV hM hV ?_)
      show am_W g (d + 3) mm_M_compact (15, [some (.ref (g.2.2.1 + 6)), some (.int v), some (.int ln), some (.int (sv_if (sv_iv T v) 1 0)), none, none, none, none], [.int (nI (T.va v).it)]) S _
      refine am_sipush 300 d_M_compact_15 (by decide) ?_
      refine am_icgt (tgt := 43) d_M_compact_18 (by decide) (fun hb_2 => ?_) (fun hb_2 => ?_)
      · refine am_iconst 0 d_M_compact_43 (by decide) ?_
        rw [sv_if_n (c := sv_iv T v ∧ (T.va v).it ≤ 300 ∧ T.ns < 12 ∧ T.nv < 80) (fun q => sv_j300 (hw := hw) hV q.2.1 hb_2)] at key
        exact key
      · refine am_aloadn d_M_compact_21 rfl ?_
        refine am_get d_M_compact_22 fl_M_84 m0 rfl ?_
        refine am_bipush 12 d_M_compact_25 (by decide) ?_
        refine am_icge (tgt := 43) d_M_compact_27 (by decide) (fun hb_3 => ?_) (fun hb_3 => ?_)
        · refine am_iconst 0 d_M_compact_43 (by decide) ?_
          rw [sv_if_n (c := sv_iv T v ∧ (T.va v).it ≤ 300 ∧ T.ns < 12 ∧ T.nv < 80) (fun q => nI_ge (b := 12) q.2.2.1 (by decide) hb_3)] at key
          exact key
        · refine am_aloadn d_M_compact_30 rfl ?_
          refine am_get d_M_compact_31 fl_M_52 m0 rfl ?_
          refine am_bipush 80 d_M_compact_34 (by decide) ?_
          refine am_icge (tgt := 43) d_M_compact_36 (by decide) (fun hb_4 => ?_) (fun hb_4 => ?_)
          · refine am_iconst 0 d_M_compact_43 (by decide) ?_
            rw [sv_if_n (c := sv_iv T v ∧ (T.va v).it ≤ 300 ∧ T.ns < 12 ∧ T.nv < 80) (fun q => nI_ge (b := 80) q.2.2.2 (by decide) hb_4)] at key
            exact key
          · refine am_iconst 1 d_M_compact_39 (by decide) ?_
            refine am_goto (tgt := 44) d_M_compact_40 (by decide) ?_
            rw [sv_if_y (c := sv_iv T v ∧ (T.va v).it ≤ 300 ∧ T.ns < 12 ∧ T.nv < 80) ⟨sv_b1 hb_1, sv_i300 (hw := hw) hV hb_2, Nat.lt_of_not_le (fun z => hb_3 (nI_le (a := 12) z (by omega))), Nat.lt_of_not_le (fun z => hb_4 (nI_le (a := 80) z (by omega)))⟩] at key
            exact key
