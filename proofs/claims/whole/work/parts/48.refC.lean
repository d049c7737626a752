/-! the reference: numbers kept, what goes to what -/
theorem sv_sx {s m : Nat} (hs : s + m = 64) (hm : 0 < m) (x : BitVec 64) : (x <<< s).sshiftRight s = (x.setWidth m).signExtend 64 := by
  apply BitVec.eq_of_getLsbD_eq
  intro i hi
  rw [BitVec.getLsbD_sshiftRight, BitVec.getLsbD_signExtend]
  simp only [hi, decide_true, Bool.true_and]
  have hi64 : ¬ 64 ≤ i := by omega
  simp only [hi64, decide_false, Bool.not_false, Bool.true_and]
  by_cases h : i < m
  · rw [if_pos (show s + i < 64 by omega), if_pos h, BitVec.getLsbD_shiftLeft, BitVec.getLsbD_setWidth]
    simp [h, show s + i < 64 by omega]
  · rw [if_neg (show ¬ s + i < 64 by omega), if_neg h, BitVec.msb_eq_getLsbD_last, BitVec.msb_eq_getLsbD_last, BitVec.getLsbD_shiftLeft, BitVec.getLsbD_setWidth]
    simp [show m - 1 < m by omega, show ¬ 64 - 1 < s by omega, show 64 - 1 - s = m - 1 by omega]
theorem sv_kept8 (x : Int64) : x <<< ((56 : Int32).toInt64 &&& 63) >>> ((56 : Int32).toInt64 &&& 63) = x.toInt32.toInt8.toInt32.toInt64 := by
  apply Int64.toBitVec_inj.mp
  rw [Int64.toBitVec_shiftRight, Int64.toBitVec_shiftLeft]
  have e : (((56 : Int32).toInt64 &&& 63 : Int64).toBitVec.smod 64) = 56 := by decide
  rw [e]
  show (x.toBitVec <<< (56 : BitVec 64)).sshiftRight' (56 : BitVec 64) = _
  rw [BitVec.sshiftRight_eq', BitVec.shiftLeft_eq']
  show (x.toBitVec <<< 56).sshiftRight 56 = (((x.toBitVec.signExtend 32).signExtend 8).signExtend 32).signExtend 64
  rw [sv_sx (s := 56) (m := 8) rfl (by decide), BitVec.signExtend_eq_setWidth_of_le x.toBitVec (by decide), BitVec.signExtend_eq_setWidth_of_le _ (by decide : 8 ≤ 32), BitVec.setWidth_setWidth_of_le _ (by decide)]
  apply BitVec.eq_of_toInt_eq
  rw [BitVec.toInt_signExtend_of_le (by decide), BitVec.toInt_signExtend_of_le (by decide), BitVec.toInt_signExtend_of_le (by decide)]
theorem sv_kept16 (x : Int64) : x <<< ((48 : Int32).toInt64 &&& 63) >>> ((48 : Int32).toInt64 &&& 63) = x.toInt32.toInt16.toInt32.toInt64 := by
  apply Int64.toBitVec_inj.mp
  rw [Int64.toBitVec_shiftRight, Int64.toBitVec_shiftLeft]
  have e : (((48 : Int32).toInt64 &&& 63 : Int64).toBitVec.smod 64) = 48 := by decide
  rw [e]
  show (x.toBitVec <<< (48 : BitVec 64)).sshiftRight' (48 : BitVec 64) = _
  rw [BitVec.sshiftRight_eq', BitVec.shiftLeft_eq']
  show (x.toBitVec <<< 48).sshiftRight 48 = (((x.toBitVec.signExtend 32).signExtend 16).signExtend 32).signExtend 64
  rw [sv_sx (s := 48) (m := 16) rfl (by decide), BitVec.signExtend_eq_setWidth_of_le x.toBitVec (by decide), BitVec.signExtend_eq_setWidth_of_le _ (by decide : 16 ≤ 32), BitVec.setWidth_setWidth_of_le _ (by decide)]
  apply BitVec.eq_of_toInt_eq
  rw [BitVec.toInt_signExtend_of_le (by decide), BitVec.toInt_signExtend_of_le (by decide), BitVec.toInt_signExtend_of_le (by decide)]
theorem sv_kept32 (x : Int64) : x <<< ((32 : Int32).toInt64 &&& 63) >>> ((32 : Int32).toInt64 &&& 63) = x.toInt32.toInt64 := by
  apply Int64.toBitVec_inj.mp
  rw [Int64.toBitVec_shiftRight, Int64.toBitVec_shiftLeft]
  have e : (((32 : Int32).toInt64 &&& 63 : Int64).toBitVec.smod 64) = 32 := by decide
  rw [e]
  show (x.toBitVec <<< (32 : BitVec 64)).sshiftRight' (32 : BitVec 64) = _
  rw [BitVec.sshiftRight_eq', BitVec.shiftLeft_eq']
  show (x.toBitVec <<< 32).sshiftRight 32 = (x.toBitVec.signExtend 32).signExtend 64
  rw [sv_sx (s := 32) (m := 32) rfl (by decide), BitVec.signExtend_eq_setWidth_of_le x.toBitVec (by decide)]
theorem sv_kept64 (x : Int64) : x <<< ((0 : Int32).toInt64 &&& 63) >>> ((0 : Int32).toInt64 &&& 63) = x := by
  have e : ((0 : Int32).toInt64 &&& 63 : Int64) = 0 := by decide
  rw [e]
  simp
theorem sv_TI.setN {T : sv_T} {fl fz : Nat → Int32} {fN : Nat → Int64} {fS fa fx fe fs : Nat → Int32} (h : sv_TI T fl fz fN fS fa fx fe fs) (hw : sv_wf T) {s p : Nat} (hs : s < T.ns) (hp : p < T.sz s) (x : Int64) : sv_TI (T.setS s (vp_updL (T.nu s) p x)) fl fz (vp_updL fN (300 * s + p) x) fS fa fx fe fs := by
  obtain ⟨h1, h2, h3⟩ := h
  have hz := hw.2.2.1 s hs
  refine ⟨fun i hi => ⟨(h1 i hi).1, (h1 i hi).2.1, fun q hq => ?_⟩, fun q hq => ?_, h3⟩
  · have hq : q < T.sz i := hq
    have hz2 := hw.2.2.1 i hi
    show vp_updL fN (300 * s + p) x (300 * i + q) = (if i = s then vp_updL (T.nu s) p x else T.nu i) q
    by_cases e : i = s
    · subst e
      rw [if_pos rfl]
      by_cases e2 : q = p
      · subst e2
        rw [pk_uLs, pk_uLs]
      · rw [pk_uLn e2, pk_uLn (by omega)]
        exact (h1 i hi).2.2 q hq
    · rw [if_neg e, pk_uLn (by omega)]
      exact (h1 i hi).2.2 q hq
  · have hq : 300 * T.ns ≤ q := hq
    rw [pk_uLn (by omega)]
    exact h2 q hq
theorem sv_wf.setS {T : sv_T} {s : Nat} {f : Nat → Int64} (h : sv_wf T) : sv_wf (T.setS s f) := h
theorem sv_gn_mr {T : sv_T} {a b : sv_A} {i : Nat} {y : Nat → Nat} (h1 : ∀ k, k < a.ax → y k < a.ex k) (h2 : sv_pl b.ex (sv_sh (b.ax - a.ax) a.sp) b.ax i = sv_sm a.sp y a.ax) : T.at a (sv_mr a.ex y a.ax) = T.gn a b i := by
  unfold sv_T.at sv_T.gn
  rw [h2]
  show T.nu a.st (a.sa + sv_pl a.ex a.sp a.ax (sv_mr a.ex y a.ax)).toNatClampNeg = _
  rw [sv_pl_sm, sv_sm_congr (p := a.sp) (x := y) (fun _ _ => rfl) (sv_ix_mr h1)]
theorem sv_if_eq {α : Type} {c d : Prop} {a b : α} (h : c ↔ d) : sv_if c a b = sv_if d a b := by
  by_cases e : c
  · rw [sv_if_y e, sv_if_y (h.mp e)]
  · rw [sv_if_n e, sv_if_n (fun q => e (h.mpr q))]
theorem sv_go_rev (a b : sv_A) : (a.ax ≤ b.ax ∧ ∀ t, t < a.ax → a.ex (a.ax - 1 - t) = 1 ∨ a.ex (a.ax - 1 - t) = b.ex (b.ax - 1 - t)) ↔ a.go b := by
  constructor
  · rintro ⟨h1, h2⟩
    refine ⟨h1, fun k hk => ?_⟩
    have := h2 (a.ax - 1 - k) (by omega)
    rw [show a.ax - 1 - (a.ax - 1 - k) = k by omega, show b.ax - 1 - (a.ax - 1 - k) = k + (b.ax - a.ax) by omega] at this
    exact this
  · rintro ⟨h1, h2⟩
    refine ⟨h1, fun t ht => ?_⟩
    have := h2 (a.ax - 1 - t) (by omega)
    rw [show a.ax - 1 - t + (b.ax - a.ax) = b.ax - 1 - t by omega] at this
    exact this
set_option maxHeartbeats 4000000 in
set_option maxRecDepth 100000 in
/-- M_kept -/
theorem m_kept {g : am_G} {d : Nat} {S : am_S} {ln : Int32} {x : Int64} {P : am_O → am_S → Prop} (hP : P (.inl (some (.long (sv_low ln x)))) S) : am_W g d mm_M_kept (0, am_ent [.int ln, .long x] 4, []) S (P) := by
  show am_W g d mm_M_kept (0, [some (.int ln), some (.long x), none, none], []) S _
  refine am_iloadn d_M_kept_0 rfl ?_
  refine am_ifne (tgt := 9) d_M_kept_1 (by decide) (fun h0 => ?_) (fun h0 => ?_)
  · refine am_iloadn d_M_kept_9 rfl ?_
    refine am_iconst 1 d_M_kept_10 (by decide) ?_
    refine am_icne (tgt := 19) d_M_kept_11 (by decide) (fun h1 => ?_) (fun h1 => ?_)
    · refine am_iloadn d_M_kept_19 rfl ?_
      refine am_iconst 2 d_M_kept_20 (by decide) ?_
      refine am_icne (tgt := 29) d_M_kept_21 (by decide) (fun h2 => ?_) (fun h2 => ?_)
      · refine am_iconst 0 d_M_kept_29 (by decide) ?_
        refine am_istoren (L' := [some (.int ln), some (.long x), none, some (.int 0)]) d_M_kept_30 (by decide) rfl rfl ?_
        refine am_lloadn d_M_kept_31 rfl ?_
        refine am_iloadn d_M_kept_32 rfl ?_
        refine am_lshl d_M_kept_33 ?_
        refine am_iloadn d_M_kept_34 rfl ?_
        refine am_lshr d_M_kept_35 ?_
        rw [sv_kept64]
        exact am_lret d_M_kept_36 rfl (by rw [sv_low, if_neg h0, if_neg h1, if_neg h2] at hP; exact hP)
      · refine am_bipush 32 d_M_kept_24 (by decide) ?_
        refine am_goto (tgt := 30) d_M_kept_26 (by decide) ?_
        refine am_istoren (L' := [some (.int ln), some (.long x), none, some (.int 32)]) d_M_kept_30 (by decide) rfl rfl ?_
        refine am_lloadn d_M_kept_31 rfl ?_
        refine am_iloadn d_M_kept_32 rfl ?_
        refine am_lshl d_M_kept_33 ?_
        refine am_iloadn d_M_kept_34 rfl ?_
        refine am_lshr d_M_kept_35 ?_
        rw [sv_kept32]
        exact am_lret d_M_kept_36 rfl (by rw [sv_low, if_neg h0, if_neg h1, if_pos h2] at hP; exact hP)
    · refine am_bipush 48 d_M_kept_14 (by decide) ?_
      refine am_goto (tgt := 30) d_M_kept_16 (by decide) ?_
      refine am_istoren (L' := [some (.int ln), some (.long x), none, some (.int 48)]) d_M_kept_30 (by decide) rfl rfl ?_
      refine am_lloadn d_M_kept_31 rfl ?_
      refine am_iloadn d_M_kept_32 rfl ?_
      refine am_lshl d_M_kept_33 ?_
      refine am_iloadn d_M_kept_34 rfl ?_
      refine am_lshr d_M_kept_35 ?_
      rw [sv_kept16]
      exact am_lret d_M_kept_36 rfl (by rw [sv_low, if_neg h0, if_pos h1] at hP; exact hP)
  · refine am_bipush 56 d_M_kept_4 (by decide) ?_
    refine am_goto (tgt := 30) d_M_kept_6 (by decide) ?_
    refine am_istoren (L' := [some (.int ln), some (.long x), none, some (.int 56)]) d_M_kept_30 (by decide) rfl rfl ?_
    refine am_lloadn d_M_kept_31 rfl ?_
    refine am_iloadn d_M_kept_32 rfl ?_
    refine am_lshl d_M_kept_33 ?_
    refine am_iloadn d_M_kept_34 rfl ?_
    refine am_lshr d_M_kept_35 ?_
    rw [sv_kept8]
    exact am_lret d_M_kept_36 rfl (by rw [sv_low, if_pos h0] at hP; exact hP)
set_option maxHeartbeats 4000000 in
set_option maxRecDepth 100000 in
/-- M_setItem -/
theorem m_setItem {g : am_G} {d : Nat} {S : am_S} {T : sv_T} {th : Int32} {na : Nat} {ne nw rd : Nat → Int64} {mt : Nat → Int32} (hM : sv_N g S.1 T th na ne nw rd mt) {j : Nat} (hj : j < T.nv) {i : Nat} (hi : i < (T.vw j).it) {x : Int64} {P : am_O → am_S → Prop} (hP : ∀ S1 : am_S, sv_N g S1.1 (T.setS (T.vw j).st (vp_updL (T.nu (T.vw j).st) ((T.vw j).pl i).toNatClampNeg (sv_low (T.ln (T.vw j).st) x))) th na ne nw rd mt → sv_MF g S S1 → P (.inl none) S1) : am_W g (d + 2) mm_M_setItem (0, am_ent [.ref (g.2.2.1 + 6), .int (nI j), .int (nI i), .long x] 5, []) S (P) := by
  obtain ⟨fl, fz, fN, fS, fa, fx, fe, fs, ⟨m0, m1, m2, m3, m4, m5, m6, m7, m8, m9, m10, m11, m12⟩, ⟨t1, t2, t3⟩, hw⟩ := id hM
  have h80 := hw.2.1
  have h12 := hw.1
  obtain ⟨v1, v2, v3, v4⟩ := t3 j hj
  obtain ⟨w1, w2, w3, w4, w5, w6, w7⟩ := hw.2.2.2 j hj
  show am_W g (d + 2) mm_M_setItem (0, [some (.ref (g.2.2.1 + 6)), some (.int (nI j)), some (.int (nI i)), some (.long x), none], []) S _
  refine am_aloadn d_M_setItem_0 rfl ?_
  refine am_get d_M_setItem_1 fl_M_16 m0 rfl ?_
  refine am_sipush 300 d_M_setItem_4 (by decide) ?_
  refine am_aloadn d_M_setItem_7 rfl ?_
  refine am_get d_M_setItem_8 fl_M_20 m0 rfl ?_
  refine am_iloadn d_M_setItem_11 rfl ?_
  refine am_ialdN (t := 0) (k := j) d_M_setItem_12 rfl m4 (by omega) (by omega) ?_
  refine am_ti (b := nI (T.vw j).st) v1 ?_
  refine am_imul d_M_setItem_13 ?_
  refine am_aloadn d_M_setItem_14 rfl ?_
  refine am_iloadn d_M_setItem_15 rfl ?_
  refine am_iloadn d_M_setItem_16 rfl ?_
  refine am_cpsV [.int (nI j), .int (nI i)] [.int (300 * (nI (T.vw j).st)), .ref (g.2.2.1 + 9)] d_M_setItem_17 cV_M_70 rfl m0 rfl rfl (Nat.le_of_ble_eq_true rfl) (Nat.le_of_ble_eq_true rfl) (m_place hM hj hi ?_)
  show am_W g (d + 2) mm_M_setItem (20, [some (.ref (g.2.2.1 + 6)), some (.int (nI j)), some (.int (nI i)), some (.long x), none], [.int ((T.vw j).pl i), .int (300 * (nI (T.vw j).st)), .ref (g.2.2.1 + 9)]) S _
  have hsz := hw.2.2.1 _ w1
  obtain ⟨p0, hp0, hpe⟩ := vp_in_of (w7 i hi) (by omega)
  rw [hpe]
  refine am_iadd d_M_setItem_20 ?_
  refine am_ti (b := nI (300 * (T.vw j).st + p0)) (sv_300 _ _) ?_
  refine am_aloadn d_M_setItem_21 rfl ?_
  refine am_get d_M_setItem_22 fl_M_7 m0 rfl ?_
  refine am_aloadn d_M_setItem_25 rfl ?_
  refine am_get d_M_setItem_26 fl_M_20 m0 rfl ?_
  refine am_iloadn d_M_setItem_29 rfl ?_
  refine am_ialdN (t := 0) (k := j) d_M_setItem_30 rfl m4 (by omega) (by omega) ?_
  refine am_ti (b := nI (T.vw j).st) v1 ?_
  refine am_ialdN (t := 0) (k := (T.vw j).st) d_M_setItem_31 rfl m1 (by omega) (by omega) ?_
  refine am_ti (b := T.ln (T.vw j).st) ((t1 _ w1).1) ?_
  refine am_lloadn d_M_setItem_32 rfl ?_
  refine am_cpsS [.int (T.ln (T.vw j).st), .long x] [.int (nI (300 * (T.vw j).st + p0)), .ref (g.2.2.1 + 9)] d_M_setItem_33 cS_M_74 rfl rfl rfl (Nat.le_of_ble_eq_true rfl) (Nat.le_of_ble_eq_true rfl) (m_kept ?_)
  show am_W g (d + 2) mm_M_setItem (36, [some (.ref (g.2.2.1 + 6)), some (.int (nI j)), some (.int (nI i)), some (.long x), none], [.long (sv_low (T.ln (T.vw j).st) x), .int (nI (300 * (T.vw j).st + p0)), .ref (g.2.2.1 + 9)]) S _
  refine am_lastN (t := 1) d_M_setItem_36 rfl m3 (by omega) (by omega) ?_
  obtain ⟨S_1, eS_1⟩ : ∃ z : am_S, z = (am_up S.1 (g.2.2.1 + 9) (.inl (1, 3600, .inr (.inl (vp_updL fN (300 * (T.vw j).st + p0) (sv_low (T.ln (T.vw j).st) x))))), S.2) := ⟨_, rfl⟩
  change am_W _ _ _ _ (am_up S.1 (g.2.2.1 + 9) (.inl (1, 3600, .inr (.inl (vp_updL fN (300 * (T.vw j).st + p0) (sv_low (T.ln (T.vw j).st) x))))), S.2) _
  rw [← eS_1]
  have h_2 : S_1.1 (g.2.2.1 + 6) = some (.inr (3, [.int th, .int (nI T.ns), .ref (g.2.2.1 + 7), .ref (g.2.2.1 + 8), .ref (g.2.2.1 + 9), .int (nI T.nv), .ref (g.2.2.1 + 10), .ref (g.2.2.1 + 11), .ref (g.2.2.1 + 12), .ref (g.2.2.1 + 13), .ref (g.2.2.1 + 14), .ref (g.2.2.1 + 15), .ref (g.2.2.1 + 16), .int (nI na), .ref (g.2.2.1 + 17), .ref (g.2.2.1 + 18)])) := by rw [eS_1]; exact (am_up_n (by omega)).trans m0
  have h_3 : S_1.1 (g.2.2.1 + 7) = some (.inl (0, 12, .inl fl)) := by rw [eS_1]; exact (am_up_n (by omega)).trans m1
  have h_4 : S_1.1 (g.2.2.1 + 8) = some (.inl (0, 12, .inl fz)) := by rw [eS_1]; exact (am_up_n (by omega)).trans m2
  have h_5 : S_1.1 (g.2.2.1 + 10) = some (.inl (0, 80, .inl fS)) := by rw [eS_1]; exact (am_up_n (by omega)).trans m4
  have h_6 : S_1.1 (g.2.2.1 + 11) = some (.inl (0, 80, .inl fa)) := by rw [eS_1]; exact (am_up_n (by omega)).trans m5
  have h_7 : S_1.1 (g.2.2.1 + 12) = some (.inl (0, 80, .inl fx)) := by rw [eS_1]; exact (am_up_n (by omega)).trans m6
  have h_8 : S_1.1 (g.2.2.1 + 13) = some (.inl (0, 320, .inl fe)) := by rw [eS_1]; exact (am_up_n (by omega)).trans m7
  have h_9 : S_1.1 (g.2.2.1 + 14) = some (.inl (0, 320, .inl fs)) := by rw [eS_1]; exact (am_up_n (by omega)).trans m8
  have h_10 : S_1.1 (g.2.2.1 + 15) = some (.inl (1, 5, .inr (.inl ne))) := by rw [eS_1]; exact (am_up_n (by omega)).trans m9
  have h_11 : S_1.1 (g.2.2.1 + 16) = some (.inl (1, 5, .inr (.inl nw))) := by rw [eS_1]; exact (am_up_n (by omega)).trans m10
  have h_12 : S_1.1 (g.2.2.1 + 17) = some (.inl (1, 3000, .inr (.inl rd))) := by rw [eS_1]; exact (am_up_n (by omega)).trans m11
  have h_13 : S_1.1 (g.2.2.1 + 18) = some (.inl (2, 300, .inl mt)) := by rw [eS_1]; exact (am_up_n (by omega)).trans m12
  have hf_14 : sv_MF g S S_1 := by rw [eS_1]; exact sv_MF.rf.u (by omega) (by omega)
  have h_15 : S_1.1 (g.2.2.1 + 9) = some (.inl (1, 3600, .inr (.inl (vp_updL fN (300 * (T.vw j).st + p0) (sv_low (T.ln (T.vw j).st) x))))) := by rw [eS_1]; exact am_up_s
  have hnS_1 : S_1.2.1 = S.2.1 := by rw [eS_1]
  have hzS_1 : S_1.2.2 = S.2.2 := by rw [eS_1]
  have hcl : ((T.vw j).pl i).toNatClampNeg = p0 := by rw [hpe]; exact nI_clamp (by omega)
  exact am_vret d_M_setItem_37 rfl (hP S_1 (by rw [hcl]; exact ⟨fl, fz, _, fS, fa, fx, fe, fs, ⟨h_2, h_3, h_4, h_15, h_5, h_6, h_7, h_8, h_9, h_10, h_11, h_12, h_13⟩, sv_TI.setN ⟨t1, t2, t3⟩ hw w1 hp0 _, hw⟩) hf_14)
set_option maxHeartbeats 4000000 in
set_option maxRecDepth 100000 in
/-- goesTo, the loop -/
theorem m_goesTo_l {g : am_G} {d : Nat} {S : am_S} {T : sv_T} {th : Int32} {na : Nat} {ne nw rd : Nat → Int64} {mt : Nat → Int32} (hM : sv_N g S.1 T th na ne nw rd mt) {j l : Nat} (hj : j < T.nv) (hl : l < T.nv) {P : am_O → am_S → Prop} (hP : P (.inl (some (.int (sv_if ((T.vw j).go (T.vw l)) 1 0)))) S) : ∀ (m k : Nat), k + m = (T.vw j).ax → am_W g d mm_M_goesTo (24, [some (.ref (g.2.2.1 + 6)), some (.int (nI j)), some (.int (nI l)), some (.int (sv_if ((T.vw j).ax ≤ (T.vw l).ax ∧ ∀ t, t < k → (T.vw j).ex ((T.vw j).ax - 1 - t) = 1 ∨ (T.vw j).ex ((T.vw j).ax - 1 - t) = (T.vw l).ex ((T.vw l).ax - 1 - t)) 1 0)), some (.int (nI (k + 1))), none], []) S P := by
  obtain ⟨fl, fz, fN, fS, fa, fx, fe, fs, ⟨m0, m1, m2, m3, m4, m5, m6, m7, m8, m9, m10, m11, m12⟩, ⟨t1, t2, t3⟩, hw⟩ := id hM
  have h80 := hw.2.1
  have h12 := hw.1
  obtain ⟨v1, v2, v3, v4⟩ := t3 j hj
  obtain ⟨w1, w2, w3, w4, w5, w6, w7⟩ := hw.2.2.2 j hj
  obtain ⟨v1b, v2b, v3b, v4b⟩ := t3 l hl
  obtain ⟨w1b, w2b, w3b, w4b, w5b, w6b, w7b⟩ := hw.2.2.2 l hl
  intro m
  induction m using Nat.strongRecOn with
  | ind m ih =>
    intro k hk
    refine am_iload d_M_goesTo_24 rfl ?_
    refine am_aloadn d_M_goesTo_26 rfl ?_
    refine am_get d_M_goesTo_27 fl_M_26 m0 rfl ?_
    refine am_iloadn d_M_goesTo_30 rfl ?_
    refine am_ialdN (t := 0) (k := j) d_M_goesTo_31 rfl m6 (by omega) (by omega) ?_
    refine am_ti (b := nI (T.vw j).ax) v3 ?_
    refine am_icgt (tgt := 100) d_M_goesTo_32 (by decide) (fun hc => ?_) (fun hc => ?_)
    · have hk0 : (T.vw j).ax < k + 1 := (nI_ltI (by omega) (by omega)).mp hc
      obtain rfl : k = (T.vw j).ax := by omega
      rw [sv_if_eq (sv_go_rev ((T.vw j)) ((T.vw l)))]
      refine am_iloadn d_M_goesTo_100 rfl ?_
      exact am_zret d_M_goesTo_101 rfl sv_bo_n hP
    · have hlt : k < (T.vw j).ax := by have : ¬ (T.vw j).ax < k + 1 := fun q => hc (nI_lt q (by omega)); omega
      refine am_iloadn d_M_goesTo_35 rfl ?_
      refine am_ifeq (tgt := 100) d_M_goesTo_36 (by decide) (fun hz => ?_) (fun hz => ?_)
      · have hno : ¬ (T.vw j).go (T.vw l) := fun q => sv_b0 hz (⟨q.1, fun t ht => ((sv_go_rev ((T.vw j)) ((T.vw l))).mpr q).2 t (by omega)⟩)
        rw [sv_if_eq (show ((T.vw j).ax ≤ (T.vw l).ax ∧ ∀ t, t < k → (T.vw j).ex ((T.vw j).ax - 1 - t) = 1 ∨ (T.vw j).ex ((T.vw j).ax - 1 - t) = (T.vw l).ex ((T.vw l).ax - 1 - t)) ↔ (T.vw j).go (T.vw l) from ⟨fun q => absurd q (sv_b0 hz), fun q => absurd q hno⟩)]
        refine am_iloadn d_M_goesTo_100 rfl ?_
        exact am_zret d_M_goesTo_101 rfl sv_bo_n hP
      · have hso := sv_b1 hz
        have hle := hso.1
        have hO9 := w3 ((T.vw j).ax - 1 - k) (by omega)
        have hO8 := w3b ((T.vw l).ax - 1 - k) (by omega)
        refine am_aloadn d_M_goesTo_39 rfl ?_
        refine am_get d_M_goesTo_40 fl_M_29 m0 rfl ?_
        refine am_iconst 4 d_M_goesTo_43 (by decide) ?_
        refine am_iloadn d_M_goesTo_44 rfl ?_
        refine am_imul d_M_goesTo_45 ?_
        refine am_aloadn d_M_goesTo_46 rfl ?_
        refine am_get d_M_goesTo_47 fl_M_26 m0 rfl ?_
        refine am_iloadn d_M_goesTo_50 rfl ?_
        refine am_ialdN (t := 0) (k := j) d_M_goesTo_51 rfl m6 (by omega) (by omega) ?_
        refine am_ti (b := nI (T.vw j).ax) v3 ?_
        refine am_iadd d_M_goesTo_52 ?_
        refine am_ti (b := nI (4 * j + (T.vw j).ax)) (sv_4 _ _) ?_
        refine am_iload d_M_goesTo_53 rfl ?_
        refine am_isub d_M_goesTo_55 ?_
        refine am_ti (b := nI (4 * j + ((T.vw j).ax - 1 - k))) ((pk_sub (by omega)).trans (congrArg nI (by omega))) ?_
        refine am_ialdN (t := 0) (k := 4 * j + ((T.vw j).ax - 1 - k)) d_M_goesTo_56 rfl m7 (by omega) (by omega) ?_
        refine am_ti (b := nI ((T.vw j).ex ((T.vw j).ax - 1 - k))) ((v4 _ (by omega)).1) ?_
        refine am_istore (L' := [some (.ref (g.2.2.1 + 6)), some (.int (nI j)), some (.int (nI l)), some (.int (sv_if ((T.vw j).ax ≤ (T.vw l).ax ∧ ∀ t, t < k → (T.vw j).ex ((T.vw j).ax - 1 - t) = 1 ∨ (T.vw j).ex ((T.vw j).ax - 1 - t) = (T.vw l).ex ((T.vw l).ax - 1 - t)) 1 0)), some (.int (nI (k + 1))), some (.int (nI ((T.vw j).ex ((T.vw j).ax - 1 - k))))]) d_M_goesTo_57 (by decide) rfl rfl ?_
        refine am_iload d_M_goesTo_59 rfl ?_
        refine am_iconst 1 d_M_goesTo_61 (by decide) ?_
        refine am_iceq (tgt := 88) d_M_goesTo_62 (by decide) (fun hy => ?_) (fun hy => ?_)
        · have h1 : (T.vw j).ex ((T.vw j).ax - 1 - k) = 1 := (nI_eq hO9 (by decide)).mp hy
          refine am_iconst 1 d_M_goesTo_88 (by decide) ?_
          refine am_goto (tgt := 93) d_M_goesTo_89 (by decide) ?_
          refine am_istoren (L' := [some (.ref (g.2.2.1 + 6)), some (.int (nI j)), some (.int (nI l)), some (.int 1), some (.int (nI (k + 1))), some (.int (nI ((T.vw j).ex ((T.vw j).ax - 1 - k))))]) d_M_goesTo_93 (by decide) rfl rfl ?_
          refine am_iinc (v := nI (k + 1 + 1)) (L' := [some (.ref (g.2.2.1 + 6)), some (.int (nI j)), some (.int (nI l)), some (.int 1), some (.int (nI (k + 1 + 1))), some (.int (nI ((T.vw j).ex ((T.vw j).ax - 1 - k))))]) d_M_goesTo_94 rfl (nI_1 _) (by decide) rfl rfl ?_
          refine am_goto (tgt := 24) d_M_goesTo_97 (by decide) ?_
          refine am_drop (L' := [some (.ref (g.2.2.1 + 6)), some (.int (nI j)), some (.int (nI l)), some (.int 1), some (.int (nI (k + 1 + 1))), none]) (by simp [am_le]) ?_
          have key := ih (m - 1) (by omega) (k + 1) (by omega)
          rw [sv_if_y (⟨hle, fun t ht => (Nat.lt_or_ge t k).elim (hso.2 t) (fun z => by rw [show t = k by omega]; exact Or.inl h1)⟩)] at key
          exact key
        · have h1 : ¬ (T.vw j).ex ((T.vw j).ax - 1 - k) = 1 := fun q => hy (by rw [q]; rfl)
          refine am_iload d_M_goesTo_65 rfl ?_
          refine am_aloadn d_M_goesTo_67 rfl ?_
          refine am_get d_M_goesTo_68 fl_M_29 m0 rfl ?_
          refine am_iconst 4 d_M_goesTo_71 (by decide) ?_
          refine am_iloadn d_M_goesTo_72 rfl ?_
          refine am_imul d_M_goesTo_73 ?_
          refine am_aloadn d_M_goesTo_74 rfl ?_
          refine am_get d_M_goesTo_75 fl_M_26 m0 rfl ?_
          refine am_iloadn d_M_goesTo_78 rfl ?_
          refine am_ialdN (t := 0) (k := l) d_M_goesTo_79 rfl m6 (by omega) (by omega) ?_
          refine am_ti (b := nI (T.vw l).ax) v3b ?_
          refine am_iadd d_M_goesTo_80 ?_
          refine am_ti (b := nI (4 * l + (T.vw l).ax)) (sv_4 _ _) ?_
          refine am_iload d_M_goesTo_81 rfl ?_
          refine am_isub d_M_goesTo_83 ?_
          refine am_ti (b := nI (4 * l + ((T.vw l).ax - 1 - k))) ((pk_sub (by omega)).trans (congrArg nI (by omega))) ?_
          refine am_ialdN (t := 0) (k := 4 * l + ((T.vw l).ax - 1 - k)) d_M_goesTo_84 rfl m7 (by omega) (by omega) ?_
          refine am_ti (b := nI ((T.vw l).ex ((T.vw l).ax - 1 - k))) ((v4b _ (by omega)).1) ?_
          refine am_icne (tgt := 92) d_M_goesTo_85 (by decide) (fun hx => ?_) (fun hx => ?_)
          · refine am_iconst 0 d_M_goesTo_92 (by decide) ?_
            refine am_istoren (L' := [some (.ref (g.2.2.1 + 6)), some (.int (nI j)), some (.int (nI l)), some (.int 0), some (.int (nI (k + 1))), some (.int (nI ((T.vw j).ex ((T.vw j).ax - 1 - k))))]) d_M_goesTo_93 (by decide) rfl rfl ?_
            refine am_iinc (v := nI (k + 1 + 1)) (L' := [some (.ref (g.2.2.1 + 6)), some (.int (nI j)), some (.int (nI l)), some (.int 0), some (.int (nI (k + 1 + 1))), some (.int (nI ((T.vw j).ex ((T.vw j).ax - 1 - k))))]) d_M_goesTo_94 rfl (nI_1 _) (by decide) rfl rfl ?_
            refine am_goto (tgt := 24) d_M_goesTo_97 (by decide) ?_
            refine am_drop (L' := [some (.ref (g.2.2.1 + 6)), some (.int (nI j)), some (.int (nI l)), some (.int 0), some (.int (nI (k + 1 + 1))), none]) (by simp [am_le]) ?_
            have key := ih (m - 1) (by omega) (k + 1) (by omega)
            rw [sv_if_n (fun q => (q.2 k (by omega)).elim h1 (fun z => hx (by rw [z])))] at key
            exact key
          · have h2 := (nI_eq hO9 hO8).mp hx
            refine am_iconst 1 d_M_goesTo_88 (by decide) ?_
            refine am_goto (tgt := 93) d_M_goesTo_89 (by decide) ?_
            refine am_istoren (L' := [some (.ref (g.2.2.1 + 6)), some (.int (nI j)), some (.int (nI l)), some (.int 1), some (.int (nI (k + 1))), some (.int (nI ((T.vw j).ex ((T.vw j).ax - 1 - k))))]) d_M_goesTo_93 (by decide) rfl rfl ?_
            refine am_iinc (v := nI (k + 1 + 1)) (L' := [some (.ref (g.2.2.1 + 6)), some (.int (nI j)), some (.int (nI l)), some (.int 1), some (.int (nI (k + 1 + 1))), some (.int (nI ((T.vw j).ex ((T.vw j).ax - 1 - k))))]) d_M_goesTo_94 rfl (nI_1 _) (by decide) rfl rfl ?_
            refine am_goto (tgt := 24) d_M_goesTo_97 (by decide) ?_
            refine am_drop (L' := [some (.ref (g.2.2.1 + 6)), some (.int (nI j)), some (.int (nI l)), some (.int 1), some (.int (nI (k + 1 + 1))), none]) (by simp [am_le]) ?_
            have key := ih (m - 1) (by omega) (k + 1) (by omega)
            rw [sv_if_y (⟨hle, fun t ht => (Nat.lt_or_ge t k).elim (hso.2 t) (fun z => by rw [show t = k by omega]; exact Or.inr h2)⟩)] at key
            exact key
set_option maxHeartbeats 4000000 in
set_option maxRecDepth 100000 in
/-- M_goesTo -/
theorem m_goesTo {g : am_G} {d : Nat} {S : am_S} {T : sv_T} {th : Int32} {na : Nat} {ne nw rd : Nat → Int64} {mt : Nat → Int32} (hM : sv_N g S.1 T th na ne nw rd mt) {j l : Nat} (hj : j < T.nv) (hl : l < T.nv) {P : am_O → am_S → Prop} (hP : P (.inl (some (.int (sv_if ((T.vw j).go (T.vw l)) 1 0)))) S) : am_W g d mm_M_goesTo (0, am_ent [.ref (g.2.2.1 + 6), .int (nI j), .int (nI l)] 6, []) S (P) := by
  obtain ⟨fl, fz, fN, fS, fa, fx, fe, fs, ⟨m0, m1, m2, m3, m4, m5, m6, m7, m8, m9, m10, m11, m12⟩, ⟨t1, t2, t3⟩, hw⟩ := id hM
  have h80 := hw.2.1
  have h12 := hw.1
  obtain ⟨v1, v2, v3, v4⟩ := t3 j hj
  obtain ⟨w1, w2, w3, w4, w5, w6, w7⟩ := hw.2.2.2 j hj
  obtain ⟨v1b, v2b, v3b, v4b⟩ := t3 l hl
  obtain ⟨w1b, w2b, w3b, w4b, w5b, w6b, w7b⟩ := hw.2.2.2 l hl
  show am_W g d mm_M_goesTo (0, [some (.ref (g.2.2.1 + 6)), some (.int (nI j)), some (.int (nI l)), none, none, none], []) S _
  refine am_aloadn d_M_goesTo_0 rfl ?_
  refine am_get d_M_goesTo_1 fl_M_26 m0 rfl ?_
  refine am_iloadn d_M_goesTo_4 rfl ?_
  refine am_ialdN (t := 0) (k := j) d_M_goesTo_5 rfl m6 (by omega) (by omega) ?_
  refine am_ti (b := nI (T.vw j).ax) v3 ?_
  refine am_aloadn d_M_goesTo_6 rfl ?_
  refine am_get d_M_goesTo_7 fl_M_26 m0 rfl ?_
  refine am_iloadn d_M_goesTo_10 rfl ?_
  refine am_ialdN (t := 0) (k := l) d_M_goesTo_11 rfl m6 (by omega) (by omega) ?_
  refine am_ti (b := nI (T.vw l).ax) v3b ?_
  refine am_icgt (tgt := 19) d_M_goesTo_12 (by decide) (fun hc => ?_) (fun hc => ?_)
  · refine am_iconst 0 d_M_goesTo_19 (by decide) ?_
    refine am_istoren (L' := [some (.ref (g.2.2.1 + 6)), some (.int (nI j)), some (.int (nI l)), some (.int 0), none, none]) d_M_goesTo_20 (by decide) rfl rfl ?_
    refine am_iconst 1 d_M_goesTo_21 (by decide) ?_
    refine am_istore (L' := [some (.ref (g.2.2.1 + 6)), some (.int (nI j)), some (.int (nI l)), some (.int 0), some (.int 1), none]) d_M_goesTo_22 (by decide) rfl rfl ?_
    have key := m_goesTo_l hM hj hl (d := d) hP (T.vw j).ax 0 (Nat.zero_add _)
    rw [sv_if_n (fun q => Nat.not_lt.mpr q.1 ((nI_ltI (by omega) (by omega)).mp hc))] at key
    exact key
  · refine am_iconst 1 d_M_goesTo_15 (by decide) ?_
    refine am_goto (tgt := 20) d_M_goesTo_16 (by decide) ?_
    refine am_istoren (L' := [some (.ref (g.2.2.1 + 6)), some (.int (nI j)), some (.int (nI l)), some (.int 1), none, none]) d_M_goesTo_20 (by decide) rfl rfl ?_
    refine am_iconst 1 d_M_goesTo_21 (by decide) ?_
    refine am_istore (L' := [some (.ref (g.2.2.1 + 6)), some (.int (nI j)), some (.int (nI l)), some (.int 1), some (.int 1), none]) d_M_goesTo_22 (by decide) rfl rfl ?_
    have key := m_goesTo_l hM hj hl (d := d) hP (T.vw j).ax 0 (Nat.zero_add _)
    rw [sv_if_y ⟨Nat.le_of_not_lt (fun q => hc (nI_lt q (by omega))), fun t ht => absurd ht (Nat.not_lt_zero t)⟩] at key
    exact key
set_option maxHeartbeats 4000000 in
set_option maxRecDepth 100000 in
/-- M_goesTo -/
theorem m_goesToV {g : am_G} {d : Nat} {S : am_S} {T : sv_T} {th : Int32} {na : Nat} {ne nw rd : Nat → Int64} {mt : Nat → Int32} (hM : sv_N g S.1 T th na ne nw rd mt) {v w : Int32} (hv : sv_iv T v) (hv2 : sv_iv T w) {P : am_O → am_S → Prop} (hP : P (.inl (some (.int (sv_if ((T.va v).go (T.va w)) 1 0)))) S) : am_W g d mm_M_goesTo (0, am_ent [.ref (g.2.2.1 + 6), .int v, .int w] 6, []) S (P) := by
  have h80 := (sv_N.w hM).2.1
  obtain ⟨j, hj, rfl⟩ := sv_iv_of hv h80
  obtain ⟨l, hl, rfl⟩ := sv_iv_of hv2 h80
  rw [sv_va_j hj h80, sv_va_j hl h80] at hP
  exact m_goesTo hM hj hl hP
set_option maxHeartbeats 4000000 in
set_option maxRecDepth 100000 in
/-- gone, the loop -/
theorem m_gone_l {g : am_G} {d : Nat} {S : am_S} {T : sv_T} {th : Int32} {na : Nat} {ne nw rd : Nat → Int64} {mt : Nat → Int32} (hM : sv_N g S.1 T th na ne nw rd mt) {j l : Nat} (hj : j < T.nv) (hl : l < T.nv) {i : Nat} (hi : i < (T.vw l).it) (hgo : (T.vw j).go (T.vw l)) {y : Nat → Nat} (hy1 : ∀ k, k < (T.vw j).ax → y k < (T.vw j).ex k) (hy2 : ∀ k, k < (T.vw j).ax → y k = if (T.vw j).ex k = 1 then 0 else sv_ix (T.vw l).ex (T.vw l).ax (k + ((T.vw l).ax - (T.vw j).ax)) i) (hy3 : sv_pl (T.vw l).ex (sv_sh ((T.vw l).ax - (T.vw j).ax) (T.vw j).sp) (T.vw l).ax i = sv_sm (T.vw j).sp y (T.vw j).ax) {P : am_O → am_S → Prop} (hP : P (.inl (some (.long (T.gn (T.vw j) (T.vw l) i)))) S) : ∀ (m k : Nat), k + m = (T.vw j).ax → am_W g (d + 3) mm_M_gone (21, [some (.ref (g.2.2.1 + 6)), some (.int (nI j)), some (.int (nI l)), some (.int (nI i)), some (.int (nI (sv_mr (T.vw j).ex y k))), some (.int (nI ((T.vw l).ax - (T.vw j).ax))), some (.int (nI k)), none], []) S P := by
  obtain ⟨fl, fz, fN, fS, fa, fx, fe, fs, ⟨m0, m1, m2, m3, m4, m5, m6, m7, m8, m9, m10, m11, m12⟩, ⟨t1, t2, t3⟩, hw⟩ := id hM
  have h80 := hw.2.1
  have h12 := hw.1
  obtain ⟨v1, v2, v3, v4⟩ := t3 j hj
  obtain ⟨w1, w2, w3, w4, w5, w6, w7⟩ := hw.2.2.2 j hj
  obtain ⟨v1b, v2b, v3b, v4b⟩ := t3 l hl
  obtain ⟨w1b, w2b, w3b, w4b, w5b, w6b, w7b⟩ := hw.2.2.2 l hl
  have hZ : ∀ t, t < (T.vw l).ax → 0 < (T.vw l).ex t := sv_pr_pos (Nat.lt_of_le_of_lt (Nat.zero_le i) hi)
  have hle := hgo.1
  intro m
  induction m using Nat.strongRecOn with
  | ind m ih =>
    intro k hk
    refine am_iload d_M_gone_21 rfl ?_
    refine am_aloadn d_M_gone_23 rfl ?_
    refine am_get d_M_gone_24 fl_M_26 m0 rfl ?_
    refine am_iloadn d_M_gone_27 rfl ?_
    refine am_ialdN (t := 0) (k := j) d_M_gone_28 rfl m6 (by omega) (by omega) ?_
    refine am_ti (b := nI (T.vw j).ax) v3 ?_
    refine am_icge (tgt := 80) d_M_gone_29 (by decide) (fun hc => ?_) (fun hc => ?_)
    · have hk0 : (T.vw j).ax ≤ k := (nI_leI (by omega) (by omega)).mp hc
      obtain rfl : k = (T.vw j).ax := by omega
      refine am_aloadn d_M_gone_80 rfl ?_
      refine am_iloadn d_M_gone_81 rfl ?_
      refine am_iload d_M_gone_82 rfl ?_
      refine am_cpsV [.int (nI j), .int (nI (sv_mr (T.vw j).ex y (T.vw j).ax))] [] d_M_gone_84 cV_M_128 rfl m0 rfl rfl (Nat.le_of_ble_eq_true rfl) (Nat.le_of_ble_eq_true rfl) (m_item hM hj (sv_mr_lt hy1) ?_)
      show am_W g (d + 3) mm_M_gone (87, [some (.ref (g.2.2.1 + 6)), some (.int (nI j)), some (.int (nI l)), some (.int (nI i)), some (.int (nI (sv_mr (T.vw j).ex y (T.vw j).ax))), some (.int (nI ((T.vw l).ax - (T.vw j).ax))), some (.int (nI (T.vw j).ax)), none], [.long (T.at (T.vw j) (sv_mr (T.vw j).ex y (T.vw j).ax))]) S _
      rw [sv_gn_mr hy1 hy3]
      exact am_lret d_M_gone_87 rfl hP
    · have hlt : k < (T.vw j).ax := Nat.lt_of_not_le (fun q => hc (nI_le q (by omega)))
      have hO9 := w3 k hlt
      have hyk := hy2 k hlt
      refine am_aloadn d_M_gone_32 rfl ?_
      refine am_get d_M_gone_33 fl_M_29 m0 rfl ?_
      refine am_iconst 4 d_M_gone_36 (by decide) ?_
      refine am_iloadn d_M_gone_37 rfl ?_
      refine am_imul d_M_gone_38 ?_
      refine am_iload d_M_gone_39 rfl ?_
      refine am_iadd d_M_gone_41 ?_
      refine am_ti (b := nI (4 * j + k)) (sv_4 j k) ?_
      refine am_ialdN (t := 0) (k := 4 * j + k) d_M_gone_42 rfl m7 (by omega) (by omega) ?_
      refine am_ti (b := nI ((T.vw j).ex k)) ((v4 k hlt).1) ?_
      refine am_istore (L' := [some (.ref (g.2.2.1 + 6)), some (.int (nI j)), some (.int (nI l)), some (.int (nI i)), some (.int (nI (sv_mr (T.vw j).ex y k))), some (.int (nI ((T.vw l).ax - (T.vw j).ax))), some (.int (nI k)), some (.int (nI ((T.vw j).ex k)))]) d_M_gone_43 (by decide) rfl rfl ?_
      refine am_iload d_M_gone_45 rfl ?_
      refine am_iload d_M_gone_47 rfl ?_
      refine am_imul d_M_gone_49 ?_
      refine am_ti (b := nI (sv_mr (T.vw j).ex y k * (T.vw j).ex k)) (pk_mul _ _) ?_
      refine am_iload d_M_gone_50 rfl ?_
      refine am_iconst 1 d_M_gone_52 (by decide) ?_
      refine am_icne (tgt := 60) d_M_gone_53 (by decide) (fun hz => ?_) (fun hz => ?_)
      · have h1 : ¬ (T.vw j).ex k = 1 := fun q => hz (by rw [q]; rfl)
        rw [if_neg h1] at hyk
        refine am_aloadn d_M_gone_60 rfl ?_
        refine am_iloadn d_M_gone_61 rfl ?_
        refine am_iload d_M_gone_62 rfl ?_
        refine am_iload d_M_gone_64 rfl ?_
        refine am_iadd d_M_gone_66 ?_
        refine am_ti (b := nI (k + ((T.vw l).ax - (T.vw j).ax))) ((nI_add _ _).trans (congrArg nI (Nat.add_comm _ _))) ?_
        refine am_iloadn d_M_gone_67 rfl ?_
        refine am_cpsV [.int (nI l), .int (nI (k + ((T.vw l).ax - (T.vw j).ax))), .int (nI i)] [.int (nI (sv_mr (T.vw j).ex y k * (T.vw j).ex k))] d_M_gone_68 cV_M_66 rfl m0 rfl rfl (Nat.le_of_ble_eq_true rfl) (Nat.le_of_ble_eq_true rfl) (m_indexOf hM hl hZ (k := k + ((T.vw l).ax - (T.vw j).ax)) (i := i) (by omega) (by omega) ?_)
        show am_W g (d + 3) mm_M_gone (71, [some (.ref (g.2.2.1 + 6)), some (.int (nI j)), some (.int (nI l)), some (.int (nI i)), some (.int (nI (sv_mr (T.vw j).ex y k))), some (.int (nI ((T.vw l).ax - (T.vw j).ax))), some (.int (nI k)), some (.int (nI ((T.vw j).ex k)))], [.int (nI (sv_ix (T.vw l).ex (T.vw l).ax (k + ((T.vw l).ax - (T.vw j).ax)) i)), .int (nI (sv_mr (T.vw j).ex y k * (T.vw j).ex k))]) S _
        refine am_ti (b := nI (y k)) (by rw [hyk]) ?_
        refine am_iadd d_M_gone_71 ?_
        refine am_ti (b := nI (sv_mr (T.vw j).ex y (k + 1))) (nI_add _ _) ?_
        refine am_istore (L' := [some (.ref (g.2.2.1 + 6)), some (.int (nI j)), some (.int (nI l)), some (.int (nI i)), some (.int (nI (sv_mr (T.vw j).ex y (k + 1)))), some (.int (nI ((T.vw l).ax - (T.vw j).ax))), some (.int (nI k)), some (.int (nI ((T.vw j).ex k)))]) d_M_gone_72 (by decide) rfl rfl ?_
        refine am_iinc (v := nI (k + 1)) (L' := [some (.ref (g.2.2.1 + 6)), some (.int (nI j)), some (.int (nI l)), some (.int (nI i)), some (.int (nI (sv_mr (T.vw j).ex y (k + 1)))), some (.int (nI ((T.vw l).ax - (T.vw j).ax))), some (.int (nI (k + 1))), some (.int (nI ((T.vw j).ex k)))]) d_M_gone_74 rfl (nI_1 k) (by decide) rfl rfl ?_
        refine am_goto (tgt := 21) d_M_gone_77 (by decide) ?_
        refine am_drop (L' := [some (.ref (g.2.2.1 + 6)), some (.int (nI j)), some (.int (nI l)), some (.int (nI i)), some (.int (nI (sv_mr (T.vw j).ex y (k + 1)))), some (.int (nI ((T.vw l).ax - (T.vw j).ax))), some (.int (nI (k + 1))), none]) (by simp [am_le]) ?_
        exact ih (m - 1) (by omega) (k + 1) (by omega)
      · have h1 : (T.vw j).ex k = 1 := (nI_eq hO9 (by decide)).mp hz
        rw [if_pos h1] at hyk
        refine am_iconst 0 d_M_gone_56 (by decide) ?_
        refine am_goto (tgt := 71) d_M_gone_57 (by decide) ?_
        refine am_ti (b := nI (y k)) (by rw [hyk]; rfl) ?_
        refine am_iadd d_M_gone_71 ?_
        refine am_ti (b := nI (sv_mr (T.vw j).ex y (k + 1))) (nI_add _ _) ?_
        refine am_istore (L' := [some (.ref (g.2.2.1 + 6)), some (.int (nI j)), some (.int (nI l)), some (.int (nI i)), some (.int (nI (sv_mr (T.vw j).ex y (k + 1)))), some (.int (nI ((T.vw l).ax - (T.vw j).ax))), some (.int (nI k)), some (.int (nI ((T.vw j).ex k)))]) d_M_gone_72 (by decide) rfl rfl ?_
        refine am_iinc (v := nI (k + 1)) (L' := [some (.ref (g.2.2.1 + 6)), some (.int (nI j)), some (.int (nI l)), some (.int (nI i)), some (.int (nI (sv_mr (T.vw j).ex y (k + 1)))), some (.int (nI ((T.vw l).ax - (T.vw j).ax))), some (.int (nI (k + 1))), some (.int (nI ((T.vw j).ex k)))]) d_M_gone_74 rfl (nI_1 k) (by decide) rfl rfl ?_
        refine am_goto (tgt := 21) d_M_gone_77 (by decide) ?_
        refine am_drop (L' := [some (.ref (g.2.2.1 + 6)), some (.int (nI j)), some (.int (nI l)), some (.int (nI i)), some (.int (nI (sv_mr (T.vw j).ex y (k + 1)))), some (.int (nI ((T.vw l).ax - (T.vw j).ax))), some (.int (nI (k + 1))), none]) (by simp [am_le]) ?_
        exact ih (m - 1) (by omega) (k + 1) (by omega)
set_option maxHeartbeats 4000000 in
set_option maxRecDepth 100000 in
/-- M_gone -/
theorem m_gone {g : am_G} {d : Nat} {S : am_S} {T : sv_T} {th : Int32} {na : Nat} {ne nw rd : Nat → Int64} {mt : Nat → Int32} (hM : sv_N g S.1 T th na ne nw rd mt) {j l : Nat} (hj : j < T.nv) (hl : l < T.nv) {i : Nat} (hi : i < (T.vw l).it) (hgo : (T.vw j).go (T.vw l)) {P : am_O → am_S → Prop} (hP : P (.inl (some (.long (T.gn (T.vw j) (T.vw l) i)))) S) : am_W g (d + 3) mm_M_gone (0, am_ent [.ref (g.2.2.1 + 6), .int (nI j), .int (nI l), .int (nI i)] 8, []) S (P) := by
  obtain ⟨fl, fz, fN, fS, fa, fx, fe, fs, ⟨m0, m1, m2, m3, m4, m5, m6, m7, m8, m9, m10, m11, m12⟩, ⟨t1, t2, t3⟩, hw⟩ := id hM
  have h80 := hw.2.1
  have h12 := hw.1
  obtain ⟨v1, v2, v3, v4⟩ := t3 j hj
  obtain ⟨w1, w2, w3, w4, w5, w6, w7⟩ := hw.2.2.2 j hj
  obtain ⟨v1b, v2b, v3b, v4b⟩ := t3 l hl
  obtain ⟨w1b, w2b, w3b, w4b, w5b, w6b, w7b⟩ := hw.2.2.2 l hl
  show am_W g (d + 3) mm_M_gone (0, [some (.ref (g.2.2.1 + 6)), some (.int (nI j)), some (.int (nI l)), some (.int (nI i)), none, none, none, none], []) S _
  refine am_iconst 0 d_M_gone_0 (by decide) ?_
  refine am_istore (L' := [some (.ref (g.2.2.1 + 6)), some (.int (nI j)), some (.int (nI l)), some (.int (nI i)), some (.int 0), none, none, none]) d_M_gone_1 (by decide) rfl rfl ?_
  refine am_aloadn d_M_gone_3 rfl ?_
  refine am_get d_M_gone_4 fl_M_26 m0 rfl ?_
  refine am_iloadn d_M_gone_7 rfl ?_
  refine am_ialdN (t := 0) (k := l) d_M_gone_8 rfl m6 (by omega) (by omega) ?_
  refine am_ti (b := nI (T.vw l).ax) v3b ?_
  refine am_aloadn d_M_gone_9 rfl ?_
  refine am_get d_M_gone_10 fl_M_26 m0 rfl ?_
  refine am_iloadn d_M_gone_13 rfl ?_
  refine am_ialdN (t := 0) (k := j) d_M_gone_14 rfl m6 (by omega) (by omega) ?_
  refine am_ti (b := nI (T.vw j).ax) v3 ?_
  refine am_isub d_M_gone_15 ?_
  refine am_ti (b := nI ((T.vw l).ax - (T.vw j).ax)) (pk_sub hgo.1) ?_
  refine am_istore (L' := [some (.ref (g.2.2.1 + 6)), some (.int (nI j)), some (.int (nI l)), some (.int (nI i)), some (.int 0), some (.int (nI ((T.vw l).ax - (T.vw j).ax))), none, none]) d_M_gone_16 (by decide) rfl rfl ?_
  refine am_iconst 0 d_M_gone_18 (by decide) ?_
  refine am_istore (L' := [some (.ref (g.2.2.1 + 6)), some (.int (nI j)), some (.int (nI l)), some (.int (nI i)), some (.int 0), some (.int (nI ((T.vw l).ax - (T.vw j).ax))), some (.int 0), none]) d_M_gone_19 (by decide) rfl rfl ?_
  obtain ⟨y, hy1, hy2, hy3⟩ := sv_go_pl hgo w6 i hi
  exact m_gone_l hM hj hl hi hgo hy1 hy2 hy3 hP (T.vw j).ax 0 (Nat.zero_add _)
