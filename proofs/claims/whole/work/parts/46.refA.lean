/-! the reference: its cells, and what they hold -/
def sv_MM (g : am_G) (M : am_M) (th : Int32) (ns nv na : Nat) (fl fz : Nat → Int32) (fN : Nat → Int64) (fS fa fx fe fs : Nat → Int32) (ne nw rd : Nat → Int64) (mt : Nat → Int32) : Prop :=
  M (g.2.2.1 + 6) = some (.inr (3, [.int th, .int (nI ns), .ref (g.2.2.1 + 7), .ref (g.2.2.1 + 8), .ref (g.2.2.1 + 9), .int (nI nv), .ref (g.2.2.1 + 10), .ref (g.2.2.1 + 11), .ref (g.2.2.1 + 12), .ref (g.2.2.1 + 13), .ref (g.2.2.1 + 14), .ref (g.2.2.1 + 15), .ref (g.2.2.1 + 16), .int (nI na), .ref (g.2.2.1 + 17), .ref (g.2.2.1 + 18)])) ∧ M (g.2.2.1 + 7) = some (.inl (0, 12, .inl fl)) ∧ M (g.2.2.1 + 8) = some (.inl (0, 12, .inl fz)) ∧ M (g.2.2.1 + 9) = some (.inl (1, 3600, .inr (.inl fN))) ∧ M (g.2.2.1 + 10) = some (.inl (0, 80, .inl fS)) ∧ M (g.2.2.1 + 11) = some (.inl (0, 80, .inl fa)) ∧ M (g.2.2.1 + 12) = some (.inl (0, 80, .inl fx)) ∧ M (g.2.2.1 + 13) = some (.inl (0, 320, .inl fe)) ∧ M (g.2.2.1 + 14) = some (.inl (0, 320, .inl fs)) ∧ M (g.2.2.1 + 15) = some (.inl (1, 5, .inr (.inl ne))) ∧ M (g.2.2.1 + 16) = some (.inl (1, 5, .inr (.inl nw))) ∧ M (g.2.2.1 + 17) = some (.inl (1, 3000, .inr (.inl rd))) ∧ M (g.2.2.1 + 18) = some (.inl (2, 300, .inl mt))
def sv_TI (T : sv_T) (fl fz : Nat → Int32) (fN : Nat → Int64) (fS fa fx fe fs : Nat → Int32) : Prop :=
  (∀ i, i < T.ns → fl i = T.ln i ∧ fz i = nI (T.sz i) ∧ ∀ p, p < T.sz i → fN (300 * i + p) = T.nu i p) ∧ (∀ q, 300 * T.ns ≤ q → fN q = 0) ∧
  ∀ v, v < T.nv → fS v = nI (T.vw v).st ∧ fa v = (T.vw v).sa ∧ fx v = nI (T.vw v).ax ∧ ∀ k, k < (T.vw v).ax → fe (4 * v + k) = nI ((T.vw v).ex k) ∧ fs (4 * v + k) = (T.vw v).sp k
/-- the reference holds T; behind it what it notes down -/
def sv_N (g : am_G) (M : am_M) (T : sv_T) (th : Int32) (na : Nat) (ne nw rd : Nat → Int64) (mt : Nat → Int32) : Prop :=
  ∃ (fl fz : Nat → Int32) (fN : Nat → Int64) (fS fa fx fe fs : Nat → Int32), sv_MM g M th T.ns T.nv na fl fz fN fS fa fx fe fs ne nw rd mt ∧ sv_TI T fl fz fN fS fa fx fe fs ∧ sv_wf T
/-- only the reference's cells have changed -/
def sv_MF (g : am_G) (S S1 : am_S) : Prop := S1.2 = S.2 ∧ ∀ q, (q < g.2.2.1 + 6 ∨ g.2.2.1 + 19 ≤ q) → S1.1 q = S.1 q
theorem sv_MF.rf {g : am_G} {S : am_S} : sv_MF g S S := ⟨rfl, fun _ _ => rfl⟩
theorem sv_MF.tr {g : am_G} {S S1 S2 : am_S} (h : sv_MF g S S1) (k : sv_MF g S1 S2) : sv_MF g S S2 := ⟨k.1.trans h.1, fun q hq => (k.2 q hq).trans (h.2 q hq)⟩
theorem sv_MF.u {g : am_G} {S S1 : am_S} {a : Nat} {e : va_E} (h : sv_MF g S S1) (h1 : g.2.2.1 + 6 ≤ a) (h2 : a < g.2.2.1 + 19) : sv_MF g S (am_up S1.1 a e, S1.2) := ⟨h.1, fun q hq => (am_up_n (by omega)).trans (h.2 q hq)⟩
abbrev sv_T.va (T : sv_T) (v : Int32) : sv_A := T.vw v.toNatClampNeg
abbrev sv_ia (T : sv_T) (v x : Int32) : Prop := sv_iv T v ∧ 0 ≤ x ∧ x < nI (T.va v).ax
theorem am_cut {g : am_G} {d : Nat} {y : am_I} {F F0 : am_F} {S : am_S} {P : am_O → am_S → Prop} (k : am_W g d y F S P) (h : am_W g d y F S P → am_W g d y F0 S P) : am_W g d y F0 S P := h k
theorem sv_b0 {D : Prop} (h : (sv_if D 1 0 : Int32) = 0) : ¬ D := fun q => by rw [sv_if_y q] at h; exact absurd h (by decide)
theorem sv_b1 {D : Prop} (h : ¬ (sv_if D 1 0 : Int32) = 0) : D := Classical.byContradiction (fun q => h (sv_if_n q))
theorem sv_bo_n {D : Prop} : narrow .boolean (.int (sv_if D 1 0)) = .int (sv_if D 1 0) := by
  by_cases h : D
  · rw [sv_if_y h]; rfl
  · rw [sv_if_n h]; rfl
theorem sv_iv_of {T : sv_T} {v : Int32} (h : sv_iv T v) (h80 : T.nv ≤ 80) : ∃ j, j < T.nv ∧ v = nI j := by
  obtain ⟨j, hj, rfl⟩ := nI_of (Int32.not_lt.mpr h.1)
  exact ⟨j, (nI_ltI hj (by omega)).mp h.2, rfl⟩
theorem sv_va_j {T : sv_T} {j : Nat} (hj : j < T.nv) (h80 : T.nv ≤ 80) : T.va (nI j) = T.vw j := by rw [sv_T.va, nI_clamp (by omega)]
theorem sv_ia_of {T : sv_T} {v x : Int32} (h : sv_ia T v x) (hw : sv_wf T) : ∃ j k, j < T.nv ∧ v = nI j ∧ k < (T.vw j).ax ∧ x = nI k := by
  obtain ⟨j, hj, rfl⟩ := sv_iv_of h.1 hw.2.1
  have h1 := h.2
  rw [sv_va_j hj hw.2.1] at h1
  obtain ⟨k, hk, rfl⟩ := nI_of (Int32.not_lt.mpr h1.1)
  have := (hw.2.2.2 j hj).2.1
  exact ⟨j, k, hj, rfl, (nI_ltI hk (by omega)).mp h1.2, rfl⟩
theorem sv_4 (j k : Nat) : (4 : Int32) * nI j + nI k = nI (4 * j + k) := by rw [show (4 : Int32) = nI 4 from rfl, pk_mul, nI_add]
theorem sv_300 (j k : Nat) : (300 : Int32) * nI j + nI k = nI (300 * j + k) := by rw [show (300 : Int32) = nI 300 from rfl, pk_mul, nI_add]
theorem sv_le3 {v : Int32} : v ≤ 3 ↔ ¬ 4 ≤ v := by
  rw [Int32.le_iff_toInt_le, Int32.le_iff_toInt_le]
  have e3 : (3 : Int32).toInt = 3 := rfl
  have e4 : (4 : Int32).toInt = 4 := rfl
  omega
theorem sv_lcgt {y z : Int64} : 0 < lg_cmp y z ↔ z < y := by
  unfold lg_cmp
  split
  · rename_i h
    exact ⟨fun _ => h, fun _ => by decide⟩
  · split
    · rename_i h1 h
      exact ⟨fun q => absurd q (by decide), fun q => absurd q h1⟩
    · rename_i h1 h2
      exact ⟨fun q => absurd q (by decide), fun q => absurd q h1⟩
theorem sv_mn1 {y z : Int64} (h : ¬ y < z) : (if z < y then z else y) = z := by
  by_cases e : z < y
  · rw [if_pos e]
  · rw [if_neg e]; exact Int64.le_antisymm (Int64.not_lt.mp e) (Int64.not_lt.mp h)
theorem sv_mn2 {y z : Int64} (h : y < z) : (if z < y then z else y) = y := if_neg (Int64.not_lt.mpr (Int64.le_of_lt h))
set_option maxHeartbeats 4000000 in
set_option maxRecDepth 100000 in
/-- M_thrown -/
theorem m_thrown {g : am_G} {d : Nat} {S : am_S} {T : sv_T} {th : Int32} {na : Nat} {ne nw rd : Nat → Int64} {mt : Nat → Int32} (hM : sv_N g S.1 T th na ne nw rd mt) {P : am_O → am_S → Prop} (hP : P (.inl (some (.int th))) S) : am_W g d mm_M_thrown (0, am_ent [.ref (g.2.2.1 + 6)] 1, []) S (P) := by
  obtain ⟨fl, fz, fN, fS, fa, fx, fe, fs, ⟨m0, m1, m2, m3, m4, m5, m6, m7, m8, m9, m10, m11, m12⟩, ⟨t1, t2, t3⟩, hw⟩ := id hM
  have h80 := hw.2.1
  have h12 := hw.1
  show am_W g d mm_M_thrown (0, [some (.ref (g.2.2.1 + 6))], []) S _
  refine am_aloadn d_M_thrown_0 rfl ?_
  refine am_get d_M_thrown_1 fl_M_48 m0 rfl ?_
  exact am_iret d_M_thrown_4 rfl hP
set_option maxHeartbeats 4000000 in
set_option maxRecDepth 100000 in
/-- M_isView -/
theorem m_isView {g : am_G} {d : Nat} {S : am_S} {T : sv_T} {th : Int32} {na : Nat} {ne nw rd : Nat → Int64} {mt : Nat → Int32} (hM : sv_N g S.1 T th na ne nw rd mt) {v : Int32} {P : am_O → am_S → Prop} (hP : P (.inl (some (.int (sv_if (sv_iv T v) 1 0)))) S) : am_W g d mm_M_isView (0, am_ent [.ref (g.2.2.1 + 6), .int v] 2, []) S (P) := by
  obtain ⟨fl, fz, fN, fS, fa, fx, fe, fs, ⟨m0, m1, m2, m3, m4, m5, m6, m7, m8, m9, m10, m11, m12⟩, ⟨t1, t2, t3⟩, hw⟩ := id hM
  have h80 := hw.2.1
  have h12 := hw.1
  show am_W g d mm_M_isView (0, [some (.ref (g.2.2.1 + 6)), some (.int v)], []) S _
  refine am_cut (F := (17, [some (.ref (g.2.2.1 + 6)), some (.int v)], [.int (sv_if (sv_iv T v) 1 0)])) ?_ (fun key => ?_)
  · skip
    exact am_zret d_M_isView_17 rfl sv_bo_n hP
  · refine am_iloadn d_M_isView_0 rfl ?_
    refine am_iflt (tgt := 16) d_M_isView_1 (by decide) (fun hb_1 => ?_) (fun hb_1 => ?_)
    · refine am_iconst 0 d_M_isView_16 (by decide) ?_
      rw [sv_if_n (fun q => Int32.not_lt.mpr q.1 hb_1)] at key
      exact key
    · refine am_iloadn d_M_isView_4 rfl ?_
      refine am_aloadn d_M_isView_5 rfl ?_
      refine am_get d_M_isView_6 fl_M_52 m0 rfl ?_
      refine am_icge (tgt := 16) d_M_isView_9 (by decide) (fun hb_2 => ?_) (fun hb_2 => ?_)
      · refine am_iconst 0 d_M_isView_16 (by decide) ?_
        rw [sv_if_n (fun q => Int32.not_le.mpr q.2 hb_2)] at key
        exact key
      · refine am_iconst 1 d_M_isView_12 (by decide) ?_
        refine am_goto (tgt := 17) d_M_isView_13 (by decide) ?_
        rw [sv_if_y ⟨Int32.not_lt.mp hb_1, Int32.not_le.mp hb_2⟩] at key
        exact key
set_option maxHeartbeats 4000000 in
set_option maxRecDepth 100000 in
/-- M_isLane -/
theorem m_isLane {g : am_G} {d : Nat} {S : am_S} {v : Int32} {P : am_O → am_S → Prop} (hP : P (.inl (some (.int (sv_if (0 ≤ v ∧ v ≤ 3) 1 0)))) S) : am_W g d mm_M_isLane (0, am_ent [.int v] 1, []) S (P) := by
  show am_W g d mm_M_isLane (0, [some (.int v)], []) S _
  refine am_cut (F := (14, [some (.int v)], [.int (sv_if (0 ≤ v ∧ v ≤ 3) 1 0)])) ?_ (fun key => ?_)
  · skip
    exact am_zret d_M_isLane_14 rfl sv_bo_n hP
  · refine am_iloadn d_M_isLane_0 rfl ?_
    refine am_iflt (tgt := 13) d_M_isLane_1 (by decide) (fun hb_1 => ?_) (fun hb_1 => ?_)
    · refine am_iconst 0 d_M_isLane_13 (by decide) ?_
      rw [sv_if_n (fun q => Int32.not_lt.mpr q.1 hb_1)] at key
      exact key
    · refine am_iloadn d_M_isLane_4 rfl ?_
      refine am_iconst 4 d_M_isLane_5 (by decide) ?_
      refine am_icge (tgt := 13) d_M_isLane_6 (by decide) (fun hb_2 => ?_) (fun hb_2 => ?_)
      · refine am_iconst 0 d_M_isLane_13 (by decide) ?_
        rw [sv_if_n (fun q => hb_2 |> fun z => sv_le3.mp q.2 z)] at key
        exact key
      · refine am_iconst 1 d_M_isLane_9 (by decide) ?_
        refine am_goto (tgt := 14) d_M_isLane_10 (by decide) ?_
        rw [sv_if_y ⟨Int32.not_lt.mp hb_1, sv_le3.mpr hb_2⟩] at key
        exact key
set_option maxHeartbeats 4000000 in
set_option maxRecDepth 100000 in
/-- M_isAxis -/
theorem m_isAxis {g : am_G} {d : Nat} {S : am_S} {T : sv_T} {th : Int32} {na : Nat} {ne nw rd : Nat → Int64} {mt : Nat → Int32} (hM : sv_N g S.1 T th na ne nw rd mt) {v x : Int32} {P : am_O → am_S → Prop} (hP : P (.inl (some (.int (sv_if (sv_ia T v x) 1 0)))) S) : am_W g (d + 1) mm_M_isAxis (0, am_ent [.ref (g.2.2.1 + 6), .int v, .int x] 3, []) S (P) := by
  obtain ⟨fl, fz, fN, fS, fa, fx, fe, fs, ⟨m0, m1, m2, m3, m4, m5, m6, m7, m8, m9, m10, m11, m12⟩, ⟨t1, t2, t3⟩, hw⟩ := id hM
  have h80 := hw.2.1
  have h12 := hw.1
  show am_W g (d + 1) mm_M_isAxis (0, [some (.ref (g.2.2.1 + 6)), some (.int v), some (.int x)], []) S _
  refine am_aloadn d_M_isAxis_0 rfl ?_
  refine am_iloadn d_M_isAxis_1 rfl ?_
  refine am_cut (F := (27, [some (.ref (g.2.2.1 + 6)), some (.int v), some (.int x)], [.int (sv_if (sv_ia T v x) 1 0)])) ?_ (fun key => ?_)
  · exact am_zret d_M_isAxis_27 rfl sv_bo_n hP
  · refine am_cpsV [.int v] [] d_M_isAxis_2 cV_M_55 rfl m0 rfl rfl (Nat.le_of_ble_eq_true rfl) (Nat.le_of_ble_eq_true rfl) (m_isView hM ?_)
    show am_W g (d + 1) mm_M_isAxis (5, [some (.ref (g.2.2.1 + 6)), some (.int v), some (.int x)], [.int (sv_if (sv_iv T v) 1 0)]) S _
    refine am_ifeq (tgt := 26) d_M_isAxis_5 (by decide) (fun hc => ?_) (fun hc => ?_)
    · refine am_iconst 0 d_M_isAxis_26 (by decide) ?_
      rw [sv_if_n (fun q => sv_b0 hc q.1)] at key
      exact key
    · refine am_iloadn d_M_isAxis_8 rfl ?_
      refine am_iflt (tgt := 26) d_M_isAxis_9 (by decide) (fun hd => ?_) (fun hd => ?_)
      · refine am_iconst 0 d_M_isAxis_26 (by decide) ?_
        rw [sv_if_n (fun q => Int32.not_lt.mpr q.2.1 hd)] at key
        exact key
      · obtain ⟨j, hj, rfl⟩ := sv_iv_of (sv_b1 hc) h80
        rw [sv_ia, sv_va_j hj h80] at key
        obtain ⟨v1, v2, v3, v4⟩ := t3 j hj
        refine am_iloadn d_M_isAxis_12 rfl ?_
        refine am_aloadn d_M_isAxis_13 rfl ?_
        refine am_get d_M_isAxis_14 fl_M_26 m0 rfl ?_
        refine am_iloadn d_M_isAxis_17 rfl ?_
        refine am_ialdN (t := 0) (k := j) d_M_isAxis_18 rfl m6 (by omega) (by omega) ?_
        refine am_ti (b := nI (T.vw j).ax) v3 ?_
        refine am_icge (tgt := 26) d_M_isAxis_19 (by decide) (fun he => ?_) (fun he => ?_)
        · refine am_iconst 0 d_M_isAxis_26 (by decide) ?_
          rw [sv_if_n (fun q => Int32.not_le.mpr q.2.2 he)] at key
          exact key
        · refine am_iconst 1 d_M_isAxis_22 (by decide) ?_
          refine am_goto (tgt := 27) d_M_isAxis_23 (by decide) ?_
          rw [sv_if_y (⟨sv_iv_j hj h80, Int32.not_lt.mp hd, Int32.not_le.mp he⟩)] at key
          exact key
set_option maxHeartbeats 4000000 in
set_option maxRecDepth 100000 in
/-- M_goes -/
theorem m_goes {g : am_G} {d : Nat} {S : am_S} {T : sv_T} {th : Int32} {na : Nat} {ne nw rd : Nat → Int64} {mt : Nat → Int32} (hM : sv_N g S.1 T th na ne nw rd mt) {b1 b2 b3 : Int32} {P : am_O → am_S → Prop} (h1 : b1 = 0 → ∀ S1 : am_S, sv_N g S1.1 T 1 na ne nw rd mt → sv_MF g S S1 → P (.inl (some (.int 0))) S1) (h2 : ¬ b1 = 0 → b2 = 0 → ∀ S1 : am_S, sv_N g S1.1 T 2 na ne nw rd mt → sv_MF g S S1 → P (.inl (some (.int 0))) S1) (h3 : ¬ b1 = 0 → ¬ b2 = 0 → b3 = 0 → ∀ S1 : am_S, sv_N g S1.1 T 3 na ne nw rd mt → sv_MF g S S1 → P (.inl (some (.int 0))) S1) (h0 : ¬ b1 = 0 → ¬ b2 = 0 → ¬ b3 = 0 → ∀ S1 : am_S, sv_N g S1.1 T 0 na ne nw rd mt → sv_MF g S S1 → P (.inl (some (.int 1))) S1) : am_W g d mm_M_goes (0, am_ent [.ref (g.2.2.1 + 6), .int b1, .int b2, .int b3] 4, []) S (P) := by
  obtain ⟨fl, fz, fN, fS, fa, fx, fe, fs, ⟨m0, m1, m2, m3, m4, m5, m6, m7, m8, m9, m10, m11, m12⟩, ⟨t1, t2, t3⟩, hw⟩ := id hM
  have h80 := hw.2.1
  have h12 := hw.1
  show am_W g d mm_M_goes (0, [some (.ref (g.2.2.1 + 6)), some (.int b1), some (.int b2), some (.int b3)], []) S _
  have hfr : sv_MF g S S := sv_MF.rf
  refine am_aloadn d_M_goes_0 rfl ?_
  refine am_iloadn d_M_goes_1 rfl ?_
  refine am_ifne (tgt := 9) d_M_goes_2 (by decide) (fun hb1 => ?_) (fun hb1 => ?_)
  · refine am_iloadn d_M_goes_9 rfl ?_
    refine am_ifne (tgt := 17) d_M_goes_10 (by decide) (fun hb2 => ?_) (fun hb2 => ?_)
    · refine am_iloadn d_M_goes_17 rfl ?_
      refine am_ifne (tgt := 25) d_M_goes_18 (by decide) (fun hb3 => ?_) (fun hb3 => ?_)
      · refine am_iconst 0 d_M_goes_25 (by decide) ?_
        refine am_put d_M_goes_26 fp_M_48 m0 rfl rfl (Nat.le_of_ble_eq_true rfl) ?_
        obtain ⟨S_1, eS_1⟩ : ∃ z : am_S, z = (am_up S.1 (g.2.2.1 + 6) (.inr (3, [.int 0, .int (nI T.ns), .ref (g.2.2.1 + 7), .ref (g.2.2.1 + 8), .ref (g.2.2.1 + 9), .int (nI T.nv), .ref (g.2.2.1 + 10), .ref (g.2.2.1 + 11), .ref (g.2.2.1 + 12), .ref (g.2.2.1 + 13), .ref (g.2.2.1 + 14), .ref (g.2.2.1 + 15), .ref (g.2.2.1 + 16), .int (nI na), .ref (g.2.2.1 + 17), .ref (g.2.2.1 + 18)])), S.2) := ⟨_, rfl⟩
        change am_W _ _ _ _ (am_up S.1 (g.2.2.1 + 6) (.inr (3, [.int 0, .int (nI T.ns), .ref (g.2.2.1 + 7), .ref (g.2.2.1 + 8), .ref (g.2.2.1 + 9), .int (nI T.nv), .ref (g.2.2.1 + 10), .ref (g.2.2.1 + 11), .ref (g.2.2.1 + 12), .ref (g.2.2.1 + 13), .ref (g.2.2.1 + 14), .ref (g.2.2.1 + 15), .ref (g.2.2.1 + 16), .int (nI na), .ref (g.2.2.1 + 17), .ref (g.2.2.1 + 18)])), S.2) _
        rw [← eS_1]
        have h_2 : S_1.1 (g.2.2.1 + 7) = some (.inl (0, 12, .inl fl)) := by rw [eS_1]; exact (am_up_n (am_nd m1 m0 (by simp [am_kd]))).trans m1
        have h_3 : S_1.1 (g.2.2.1 + 8) = some (.inl (0, 12, .inl fz)) := by rw [eS_1]; exact (am_up_n (am_nd m2 m0 (by simp [am_kd]))).trans m2
        have h_4 : S_1.1 (g.2.2.1 + 9) = some (.inl (1, 3600, .inr (.inl fN))) := by rw [eS_1]; exact (am_up_n (am_nd m3 m0 (by simp [am_kd]))).trans m3
        have h_5 : S_1.1 (g.2.2.1 + 10) = some (.inl (0, 80, .inl fS)) := by rw [eS_1]; exact (am_up_n (am_nd m4 m0 (by simp [am_kd]))).trans m4
        have h_6 : S_1.1 (g.2.2.1 + 11) = some (.inl (0, 80, .inl fa)) := by rw [eS_1]; exact (am_up_n (am_nd m5 m0 (by simp [am_kd]))).trans m5
        have h_7 : S_1.1 (g.2.2.1 + 12) = some (.inl (0, 80, .inl fx)) := by rw [eS_1]; exact (am_up_n (am_nd m6 m0 (by simp [am_kd]))).trans m6
        have h_8 : S_1.1 (g.2.2.1 + 13) = some (.inl (0, 320, .inl fe)) := by rw [eS_1]; exact (am_up_n (am_nd m7 m0 (by simp [am_kd]))).trans m7
        have h_9 : S_1.1 (g.2.2.1 + 14) = some (.inl (0, 320, .inl fs)) := by rw [eS_1]; exact (am_up_n (am_nd m8 m0 (by simp [am_kd]))).trans m8
        have h_10 : S_1.1 (g.2.2.1 + 15) = some (.inl (1, 5, .inr (.inl ne))) := by rw [eS_1]; exact (am_up_n (am_nd m9 m0 (by simp [am_kd]))).trans m9
        have h_11 : S_1.1 (g.2.2.1 + 16) = some (.inl (1, 5, .inr (.inl nw))) := by rw [eS_1]; exact (am_up_n (am_nd m10 m0 (by simp [am_kd]))).trans m10
        have h_12 : S_1.1 (g.2.2.1 + 17) = some (.inl (1, 3000, .inr (.inl rd))) := by rw [eS_1]; exact (am_up_n (am_nd m11 m0 (by simp [am_kd]))).trans m11
        have h_13 : S_1.1 (g.2.2.1 + 18) = some (.inl (2, 300, .inl mt)) := by rw [eS_1]; exact (am_up_n (am_nd m12 m0 (by simp [am_kd]))).trans m12
        have hf_14 : sv_MF g S S_1 := by rw [eS_1]; exact hfr.u (by omega) (by omega)
        have h_15 : S_1.1 (g.2.2.1 + 6) = some (.inr (3, [.int 0, .int (nI T.ns), .ref (g.2.2.1 + 7), .ref (g.2.2.1 + 8), .ref (g.2.2.1 + 9), .int (nI T.nv), .ref (g.2.2.1 + 10), .ref (g.2.2.1 + 11), .ref (g.2.2.1 + 12), .ref (g.2.2.1 + 13), .ref (g.2.2.1 + 14), .ref (g.2.2.1 + 15), .ref (g.2.2.1 + 16), .int (nI na), .ref (g.2.2.1 + 17), .ref (g.2.2.1 + 18)])) := by rw [eS_1]; exact am_up_s
        have hnS_1 : S_1.2.1 = S.2.1 := by rw [eS_1]
        have hzS_1 : S_1.2.2 = S.2.2 := by rw [eS_1]
        refine am_aloadn d_M_goes_29 rfl ?_
        refine am_get d_M_goes_30 fl_M_48 h_15 rfl ?_
        refine am_ifne (tgt := 40) d_M_goes_33 (by decide) (fun hz => ?_) (fun hz => ?_)
        · exact absurd rfl hz
        · refine am_iconst 1 d_M_goes_36 (by decide) ?_
          refine am_goto (tgt := 41) d_M_goes_37 (by decide) ?_
          exact am_zret d_M_goes_41 rfl rfl (h0 hb1 hb2 hb3 S_1 ⟨fl, fz, fN, fS, fa, fx, fe, fs, ⟨h_15, h_2, h_3, h_4, h_5, h_6, h_7, h_8, h_9, h_10, h_11, h_12, h_13⟩, ⟨t1, t2, t3⟩, hw⟩ hf_14)
      · refine am_iconst 3 d_M_goes_21 (by decide) ?_
        refine am_goto (tgt := 26) d_M_goes_22 (by decide) ?_
        refine am_put d_M_goes_26 fp_M_48 m0 rfl rfl (Nat.le_of_ble_eq_true rfl) ?_
        obtain ⟨S_16, eS_16⟩ : ∃ z : am_S, z = (am_up S.1 (g.2.2.1 + 6) (.inr (3, [.int 3, .int (nI T.ns), .ref (g.2.2.1 + 7), .ref (g.2.2.1 + 8), .ref (g.2.2.1 + 9), .int (nI T.nv), .ref (g.2.2.1 + 10), .ref (g.2.2.1 + 11), .ref (g.2.2.1 + 12), .ref (g.2.2.1 + 13), .ref (g.2.2.1 + 14), .ref (g.2.2.1 + 15), .ref (g.2.2.1 + 16), .int (nI na), .ref (g.2.2.1 + 17), .ref (g.2.2.1 + 18)])), S.2) := ⟨_, rfl⟩
        change am_W _ _ _ _ (am_up S.1 (g.2.2.1 + 6) (.inr (3, [.int 3, .int (nI T.ns), .ref (g.2.2.1 + 7), .ref (g.2.2.1 + 8), .ref (g.2.2.1 + 9), .int (nI T.nv), .ref (g.2.2.1 + 10), .ref (g.2.2.1 + 11), .ref (g.2.2.1 + 12), .ref (g.2.2.1 + 13), .ref (g.2.2.1 + 14), .ref (g.2.2.1 + 15), .ref (g.2.2.1 + 16), .int (nI na), .ref (g.2.2.1 + 17), .ref (g.2.2.1 + 18)])), S.2) _
        rw [← eS_16]
        have h_17 : S_16.1 (g.2.2.1 + 7) = some (.inl (0, 12, .inl fl)) := by rw [eS_16]; exact (am_up_n (am_nd m1 m0 (by simp [am_kd]))).trans m1
        have h_18 : S_16.1 (g.2.2.1 + 8) = some (.inl (0, 12, .inl fz)) := by rw [eS_16]; exact (am_up_n (am_nd m2 m0 (by simp [am_kd]))).trans m2
        have h_19 : S_16.1 (g.2.2.1 + 9) = some (.inl (1, 3600, .inr (.inl fN))) := by rw [eS_16]; exact (am_up_n (am_nd m3 m0 (by simp [am_kd]))).trans m3
        have h_20 : S_16.1 (g.2.2.1 + 10) = some (.inl (0, 80, .inl fS)) := by rw [eS_16]; exact (am_up_n (am_nd m4 m0 (by simp [am_kd]))).trans m4
        have h_21 : S_16.1 (g.2.2.1 + 11) = some (.inl (0, 80, .inl fa)) := by rw [eS_16]; exact (am_up_n (am_nd m5 m0 (by simp [am_kd]))).trans m5
        have h_22 : S_16.1 (g.2.2.1 + 12) = some (.inl (0, 80, .inl fx)) := by rw [eS_16]; exact (am_up_n (am_nd m6 m0 (by simp [am_kd]))).trans m6
        have h_23 : S_16.1 (g.2.2.1 + 13) = some (.inl (0, 320, .inl fe)) := by rw [eS_16]; exact (am_up_n (am_nd m7 m0 (by simp [am_kd]))).trans m7
        have h_24 : S_16.1 (g.2.2.1 + 14) = some (.inl (0, 320, .inl fs)) := by rw [eS_16]; exact (am_up_n (am_nd m8 m0 (by simp [am_kd]))).trans m8
        have h_25 : S_16.1 (g.2.2.1 + 15) = some (.inl (1, 5, .inr (.inl ne))) := by rw [eS_16]; exact (am_up_n (am_nd m9 m0 (by simp [am_kd]))).trans m9
        have h_26 : S_16.1 (g.2.2.1 + 16) = some (.inl (1, 5, .inr (.inl nw))) := by rw [eS_16]; exact (am_up_n (am_nd m10 m0 (by simp [am_kd]))).trans m10
        have h_27 : S_16.1 (g.2.2.1 + 17) = some (.inl (1, 3000, .inr (.inl rd))) := by rw [eS_16]; exact (am_up_n (am_nd m11 m0 (by simp [am_kd]))).trans m11
        have h_28 : S_16.1 (g.2.2.1 + 18) = some (.inl (2, 300, .inl mt)) := by rw [eS_16]; exact (am_up_n (am_nd m12 m0 (by simp [am_kd]))).trans m12
        have hf_29 : sv_MF g S S_16 := by rw [eS_16]; exact hfr.u (by omega) (by omega)
        have h_30 : S_16.1 (g.2.2.1 + 6) = some (.inr (3, [.int 3, .int (nI T.ns), .ref (g.2.2.1 + 7), .ref (g.2.2.1 + 8), .ref (g.2.2.1 + 9), .int (nI T.nv), .ref (g.2.2.1 + 10), .ref (g.2.2.1 + 11), .ref (g.2.2.1 + 12), .ref (g.2.2.1 + 13), .ref (g.2.2.1 + 14), .ref (g.2.2.1 + 15), .ref (g.2.2.1 + 16), .int (nI na), .ref (g.2.2.1 + 17), .ref (g.2.2.1 + 18)])) := by rw [eS_16]; exact am_up_s
        have hnS_16 : S_16.2.1 = S.2.1 := by rw [eS_16]
        have hzS_16 : S_16.2.2 = S.2.2 := by rw [eS_16]
        refine am_aloadn d_M_goes_29 rfl ?_
        refine am_get d_M_goes_30 fl_M_48 h_30 rfl ?_
        refine am_ifne (tgt := 40) d_M_goes_33 (by decide) (fun hz => ?_) (fun hz => ?_)
        · refine am_iconst 0 d_M_goes_40 (by decide) ?_
          exact am_zret d_M_goes_41 rfl rfl (h3 hb1 hb2 hb3 S_16 ⟨fl, fz, fN, fS, fa, fx, fe, fs, ⟨h_30, h_17, h_18, h_19, h_20, h_21, h_22, h_23, h_24, h_25, h_26, h_27, h_28⟩, ⟨t1, t2, t3⟩, hw⟩ hf_29)
        · exact absurd hz (by decide)
    · refine am_iconst 2 d_M_goes_13 (by decide) ?_
      refine am_goto (tgt := 26) d_M_goes_14 (by decide) ?_
      refine am_put d_M_goes_26 fp_M_48 m0 rfl rfl (Nat.le_of_ble_eq_true rfl) ?_
      obtain ⟨S_31, eS_31⟩ : ∃ z : am_S, z = (am_up S.1 (g.2.2.1 + 6) (.inr (3, [.int 2, .int (nI T.ns), .ref (g.2.2.1 + 7), .ref (g.2.2.1 + 8), .ref (g.2.2.1 + 9), .int (nI T.nv), .ref (g.2.2.1 + 10), .ref (g.2.2.1 + 11), .ref (g.2.2.1 + 12), .ref (g.2.2.1 + 13), .ref (g.2.2.1 + 14), .ref (g.2.2.1 + 15), .ref (g.2.2.1 + 16), .int (nI na), .ref (g.2.2.1 + 17), .ref (g.2.2.1 + 18)])), S.2) := ⟨_, rfl⟩
      change am_W _ _ _ _ (am_up S.1 (g.2.2.1 + 6) (.inr (3, [.int 2, .int (nI T.ns), .ref (g.2.2.1 + 7), .ref (g.2.2.1 + 8), .ref (g.2.2.1 + 9), .int (nI T.nv), .ref (g.2.2.1 + 10), .ref (g.2.2.1 + 11), .ref (g.2.2.1 + 12), .ref (g.2.2.1 + 13), .ref (g.2.2.1 + 14), .ref (g.2.2.1 + 15), .ref (g.2.2.1 + 16), .int (nI na), .ref (g.2.2.1 + 17), .ref (g.2.2.1 + 18)])), S.2) _
      rw [← eS_31]
      have h_32 : S_31.1 (g.2.2.1 + 7) = some (.inl (0, 12, .inl fl)) := by rw [eS_31]; exact (am_up_n (am_nd m1 m0 (by simp [am_kd]))).trans m1
      have h_33 : S_31.1 (g.2.2.1 + 8) = some (.inl (0, 12, .inl fz)) := by rw [eS_31]; exact (am_up_n (am_nd m2 m0 (by simp [am_kd]))).trans m2
      have h_34 : S_31.1 (g.2.2.1 + 9) = some (.inl (1, 3600, .inr (.inl fN))) := by rw [eS_31]; exact (am_up_n (am_nd m3 m0 (by simp [am_kd]))).trans m3
      have h_35 : S_31.1 (g.2.2.1 + 10) = some (.inl (0, 80, .inl fS)) := by rw [eS_31]; exact (am_up_n (am_nd m4 m0 (by simp [am_kd]))).trans m4
      have h_36 : S_31.1 (g.2.2.1 + 11) = some (.inl (0, 80, .inl fa)) := by rw [eS_31]; exact (am_up_n (am_nd m5 m0 (by simp [am_kd]))).trans m5
      have h_37 : S_31.1 (g.2.2.1 + 12) = some (.inl (0, 80, .inl fx)) := by rw [eS_31]; exact (am_up_n (am_nd m6 m0 (by simp [am_kd]))).trans m6
      have h_38 : S_31.1 (g.2.2.1 + 13) = some (.inl (0, 320, .inl fe)) := by rw [eS_31]; exact (am_up_n (am_nd m7 m0 (by simp [am_kd]))).trans m7
      have h_39 : S_31.1 (g.2.2.1 + 14) = some (.inl (0, 320, .inl fs)) := by rw [eS_31]; exact (am_up_n (am_nd m8 m0 (by simp [am_kd]))).trans m8
      have h_40 : S_31.1 (g.2.2.1 + 15) = some (.inl (1, 5, .inr (.inl ne))) := by rw [eS_31]; exact (am_up_n (am_nd m9 m0 (by simp [am_kd]))).trans m9
      have h_41 : S_31.1 (g.2.2.1 + 16) = some (.inl (1, 5, .inr (.inl nw))) := by rw [eS_31]; exact (am_up_n (am_nd m10 m0 (by simp [am_kd]))).trans m10
      have h_42 : S_31.1 (g.2.2.1 + 17) = some (.inl (1, 3000, .inr (.inl rd))) := by rw [eS_31]; exact (am_up_n (am_nd m11 m0 (by simp [am_kd]))).trans m11
      have h_43 : S_31.1 (g.2.2.1 + 18) = some (.inl (2, 300, .inl mt)) := by rw [eS_31]; exact (am_up_n (am_nd m12 m0 (by simp [am_kd]))).trans m12
      have hf_44 : sv_MF g S S_31 := by rw [eS_31]; exact hfr.u (by omega) (by omega)
      have h_45 : S_31.1 (g.2.2.1 + 6) = some (.inr (3, [.int 2, .int (nI T.ns), .ref (g.2.2.1 + 7), .ref (g.2.2.1 + 8), .ref (g.2.2.1 + 9), .int (nI T.nv), .ref (g.2.2.1 + 10), .ref (g.2.2.1 + 11), .ref (g.2.2.1 + 12), .ref (g.2.2.1 + 13), .ref (g.2.2.1 + 14), .ref (g.2.2.1 + 15), .ref (g.2.2.1 + 16), .int (nI na), .ref (g.2.2.1 + 17), .ref (g.2.2.1 + 18)])) := by rw [eS_31]; exact am_up_s
      have hnS_31 : S_31.2.1 = S.2.1 := by rw [eS_31]
      have hzS_31 : S_31.2.2 = S.2.2 := by rw [eS_31]
      refine am_aloadn d_M_goes_29 rfl ?_
      refine am_get d_M_goes_30 fl_M_48 h_45 rfl ?_
      refine am_ifne (tgt := 40) d_M_goes_33 (by decide) (fun hz => ?_) (fun hz => ?_)
      · refine am_iconst 0 d_M_goes_40 (by decide) ?_
        exact am_zret d_M_goes_41 rfl rfl (h2 hb1 hb2 S_31 ⟨fl, fz, fN, fS, fa, fx, fe, fs, ⟨h_45, h_32, h_33, h_34, h_35, h_36, h_37, h_38, h_39, h_40, h_41, h_42, h_43⟩, ⟨t1, t2, t3⟩, hw⟩ hf_44)
      · exact absurd hz (by decide)
  · refine am_iconst 1 d_M_goes_5 (by decide) ?_
    refine am_goto (tgt := 26) d_M_goes_6 (by decide) ?_
    refine am_put d_M_goes_26 fp_M_48 m0 rfl rfl (Nat.le_of_ble_eq_true rfl) ?_
    obtain ⟨S_46, eS_46⟩ : ∃ z : am_S, z = (am_up S.1 (g.2.2.1 + 6) (.inr (3, [.int 1, .int (nI T.ns), .ref (g.2.2.1 + 7), .ref (g.2.2.1 + 8), .ref (g.2.2.1 + 9), .int (nI T.nv), .ref (g.2.2.1 + 10), .ref (g.2.2.1 + 11), .ref (g.2.2.1 + 12), .ref (g.2.2.1 + 13), .ref (g.2.2.1 + 14), .ref (g.2.2.1 + 15), .ref (g.2.2.1 + 16), .int (nI na), .ref (g.2.2.1 + 17), .ref (g.2.2.1 + 18)])), S.2) := ⟨_, rfl⟩
    change am_W _ _ _ _ (am_up S.1 (g.2.2.1 + 6) (.inr (3, [.int 1, .int (nI T.ns), .ref (g.2.2.1 + 7), .ref (g.2.2.1 + 8), .ref (g.2.2.1 + 9), .int (nI T.nv), .ref (g.2.2.1 + 10), .ref (g.2.2.1 + 11), .ref (g.2.2.1 + 12), .ref (g.2.2.1 + 13), .ref (g.2.2.1 + 14), .ref (g.2.2.1 + 15), .ref (g.2.2.1 + 16), .int (nI na), .ref (g.2.2.1 + 17), .ref (g.2.2.1 + 18)])), S.2) _
    rw [← eS_46]
    have h_47 : S_46.1 (g.2.2.1 + 7) = some (.inl (0, 12, .inl fl)) := by rw [eS_46]; exact (am_up_n (am_nd m1 m0 (by simp [am_kd]))).trans m1
    have h_48 : S_46.1 (g.2.2.1 + 8) = some (.inl (0, 12, .inl fz)) := by rw [eS_46]; exact (am_up_n (am_nd m2 m0 (by simp [am_kd]))).trans m2
    have h_49 : S_46.1 (g.2.2.1 + 9) = some (.inl (1, 3600, .inr (.inl fN))) := by rw [eS_46]; exact (am_up_n (am_nd m3 m0 (by simp [am_kd]))).trans m3
    have h_50 : S_46.1 (g.2.2.1 + 10) = some (.inl (0, 80, .inl fS)) := by rw [eS_46]; exact (am_up_n (am_nd m4 m0 (by simp [am_kd]))).trans m4
    have h_51 : S_46.1 (g.2.2.1 + 11) = some (.inl (0, 80, .inl fa)) := by rw [eS_46]; exact (am_up_n (am_nd m5 m0 (by simp [am_kd]))).trans m5
    have h_52 : S_46.1 (g.2.2.1 + 12) = some (.inl (0, 80, .inl fx)) := by rw [eS_46]; exact (am_up_n (am_nd m6 m0 (by simp [am_kd]))).trans m6
    have h_53 : S_46.1 (g.2.2.1 + 13) = some (.inl (0, 320, .inl fe)) := by rw [eS_46]; exact (am_up_n (am_nd m7 m0 (by simp [am_kd]))).trans m7
    have h_54 : S_46.1 (g.2.2.1 + 14) = some (.inl (0, 320, .inl fs)) := by rw [eS_46]; exact (am_up_n (am_nd m8 m0 (by simp [am_kd]))).trans m8
    have h_55 : S_46.1 (g.2.2.1 + 15) = some (.inl (1, 5, .inr (.inl ne))) := by rw [eS_46]; exact (am_up_n (am_nd m9 m0 (by simp [am_kd]))).trans m9
    have h_56 : S_46.1 (g.2.2.1 + 16) = some (.inl (1, 5, .inr (.inl nw))) := by rw [eS_46]; exact (am_up_n (am_nd m10 m0 (by simp [am_kd]))).trans m10
    have h_57 : S_46.1 (g.2.2.1 + 17) = some (.inl (1, 3000, .inr (.inl rd))) := by rw [eS_46]; exact (am_up_n (am_nd m11 m0 (by simp [am_kd]))).trans m11
    have h_58 : S_46.1 (g.2.2.1 + 18) = some (.inl (2, 300, .inl mt)) := by rw [eS_46]; exact (am_up_n (am_nd m12 m0 (by simp [am_kd]))).trans m12
    have hf_59 : sv_MF g S S_46 := by rw [eS_46]; exact hfr.u (by omega) (by omega)
    have h_60 : S_46.1 (g.2.2.1 + 6) = some (.inr (3, [.int 1, .int (nI T.ns), .ref (g.2.2.1 + 7), .ref (g.2.2.1 + 8), .ref (g.2.2.1 + 9), .int (nI T.nv), .ref (g.2.2.1 + 10), .ref (g.2.2.1 + 11), .ref (g.2.2.1 + 12), .ref (g.2.2.1 + 13), .ref (g.2.2.1 + 14), .ref (g.2.2.1 + 15), .ref (g.2.2.1 + 16), .int (nI na), .ref (g.2.2.1 + 17), .ref (g.2.2.1 + 18)])) := by rw [eS_46]; exact am_up_s
    have hnS_46 : S_46.2.1 = S.2.1 := by rw [eS_46]
    have hzS_46 : S_46.2.2 = S.2.2 := by rw [eS_46]
    refine am_aloadn d_M_goes_29 rfl ?_
    refine am_get d_M_goes_30 fl_M_48 h_60 rfl ?_
    refine am_ifne (tgt := 40) d_M_goes_33 (by decide) (fun hz => ?_) (fun hz => ?_)
    · refine am_iconst 0 d_M_goes_40 (by decide) ?_
      exact am_zret d_M_goes_41 rfl rfl (h1 hb1 S_46 ⟨fl, fz, fN, fS, fa, fx, fe, fs, ⟨h_60, h_47, h_48, h_49, h_50, h_51, h_52, h_53, h_54, h_55, h_56, h_57, h_58⟩, ⟨t1, t2, t3⟩, hw⟩ hf_59)
    · exact absurd hz (by decide)
set_option maxHeartbeats 4000000 in
set_option maxRecDepth 100000 in
/-- M_goesOf -/
theorem m_goesOf {g : am_G} {d : Nat} {S : am_S} {T : sv_T} {th : Int32} {na : Nat} {ne nw rd : Nat → Int64} {mt : Nat → Int32} (hM : sv_N g S.1 T th na ne nw rd mt) {b1 b2 : Int32} {P : am_O → am_S → Prop} (h1 : b1 = 0 → ∀ S1 : am_S, sv_N g S1.1 T 1 na ne nw rd mt → sv_MF g S S1 → P (.inl (some (.int 0))) S1) (h2 : ¬ b1 = 0 → b2 = 0 → ∀ S1 : am_S, sv_N g S1.1 T 2 na ne nw rd mt → sv_MF g S S1 → P (.inl (some (.int 0))) S1) (h0 : ¬ b1 = 0 → ¬ b2 = 0 → ∀ S1 : am_S, sv_N g S1.1 T 0 na ne nw rd mt → sv_MF g S S1 → P (.inl (some (.int 1))) S1) : am_W g d mm_M_goesOf (0, am_ent [.ref (g.2.2.1 + 6), .int b1, .int b2] 3, []) S (P) := by
  obtain ⟨fl, fz, fN, fS, fa, fx, fe, fs, ⟨m0, m1, m2, m3, m4, m5, m6, m7, m8, m9, m10, m11, m12⟩, ⟨t1, t2, t3⟩, hw⟩ := id hM
  have h80 := hw.2.1
  have h12 := hw.1
  show am_W g d mm_M_goesOf (0, [some (.ref (g.2.2.1 + 6)), some (.int b1), some (.int b2)], []) S _
  have hfr : sv_MF g S S := sv_MF.rf
  refine am_aloadn d_M_goesOf_0 rfl ?_
  refine am_iloadn d_M_goesOf_1 rfl ?_
  refine am_ifne (tgt := 9) d_M_goesOf_2 (by decide) (fun hb1 => ?_) (fun hb1 => ?_)
  · refine am_iloadn d_M_goesOf_9 rfl ?_
    refine am_ifne (tgt := 17) d_M_goesOf_10 (by decide) (fun hb2 => ?_) (fun hb2 => ?_)
    · refine am_iconst 0 d_M_goesOf_17 (by decide) ?_
      refine am_put d_M_goesOf_18 fp_M_48 m0 rfl rfl (Nat.le_of_ble_eq_true rfl) ?_
      obtain ⟨S_1, eS_1⟩ : ∃ z : am_S, z = (am_up S.1 (g.2.2.1 + 6) (.inr (3, [.int 0, .int (nI T.ns), .ref (g.2.2.1 + 7), .ref (g.2.2.1 + 8), .ref (g.2.2.1 + 9), .int (nI T.nv), .ref (g.2.2.1 + 10), .ref (g.2.2.1 + 11), .ref (g.2.2.1 + 12), .ref (g.2.2.1 + 13), .ref (g.2.2.1 + 14), .ref (g.2.2.1 + 15), .ref (g.2.2.1 + 16), .int (nI na), .ref (g.2.2.1 + 17), .ref (g.2.2.1 + 18)])), S.2) := ⟨_, rfl⟩
      change am_W _ _ _ _ (am_up S.1 (g.2.2.1 + 6) (.inr (3, [.int 0, .int (nI T.ns), .ref (g.2.2.1 + 7), .ref (g.2.2.1 + 8), .ref (g.2.2.1 + 9), .int (nI T.nv), .ref (g.2.2.1 + 10), .ref (g.2.2.1 + 11), .ref (g.2.2.1 + 12), .ref (g.2.2.1 + 13), .ref (g.2.2.1 + 14), .ref (g.2.2.1 + 15), .ref (g.2.2.1 + 16), .int (nI na), .ref (g.2.2.1 + 17), .ref (g.2.2.1 + 18)])), S.2) _
      rw [← eS_1]
      have h_2 : S_1.1 (g.2.2.1 + 7) = some (.inl (0, 12, .inl fl)) := by rw [eS_1]; exact (am_up_n (am_nd m1 m0 (by simp [am_kd]))).trans m1
      have h_3 : S_1.1 (g.2.2.1 + 8) = some (.inl (0, 12, .inl fz)) := by rw [eS_1]; exact (am_up_n (am_nd m2 m0 (by simp [am_kd]))).trans m2
      have h_4 : S_1.1 (g.2.2.1 + 9) = some (.inl (1, 3600, .inr (.inl fN))) := by rw [eS_1]; exact (am_up_n (am_nd m3 m0 (by simp [am_kd]))).trans m3
      have h_5 : S_1.1 (g.2.2.1 + 10) = some (.inl (0, 80, .inl fS)) := by rw [eS_1]; exact (am_up_n (am_nd m4 m0 (by simp [am_kd]))).trans m4
      have h_6 : S_1.1 (g.2.2.1 + 11) = some (.inl (0, 80, .inl fa)) := by rw [eS_1]; exact (am_up_n (am_nd m5 m0 (by simp [am_kd]))).trans m5
      have h_7 : S_1.1 (g.2.2.1 + 12) = some (.inl (0, 80, .inl fx)) := by rw [eS_1]; exact (am_up_n (am_nd m6 m0 (by simp [am_kd]))).trans m6
      have h_8 : S_1.1 (g.2.2.1 + 13) = some (.inl (0, 320, .inl fe)) := by rw [eS_1]; exact (am_up_n (am_nd m7 m0 (by simp [am_kd]))).trans m7
      have h_9 : S_1.1 (g.2.2.1 + 14) = some (.inl (0, 320, .inl fs)) := by rw [eS_1]; exact (am_up_n (am_nd m8 m0 (by simp [am_kd]))).trans m8
      have h_10 : S_1.1 (g.2.2.1 + 15) = some (.inl (1, 5, .inr (.inl ne))) := by rw [eS_1]; exact (am_up_n (am_nd m9 m0 (by simp [am_kd]))).trans m9
      have h_11 : S_1.1 (g.2.2.1 + 16) = some (.inl (1, 5, .inr (.inl nw))) := by rw [eS_1]; exact (am_up_n (am_nd m10 m0 (by simp [am_kd]))).trans m10
      have h_12 : S_1.1 (g.2.2.1 + 17) = some (.inl (1, 3000, .inr (.inl rd))) := by rw [eS_1]; exact (am_up_n (am_nd m11 m0 (by simp [am_kd]))).trans m11
      have h_13 : S_1.1 (g.2.2.1 + 18) = some (.inl (2, 300, .inl mt)) := by rw [eS_1]; exact (am_up_n (am_nd m12 m0 (by simp [am_kd]))).trans m12
      have hf_14 : sv_MF g S S_1 := by rw [eS_1]; exact hfr.u (by omega) (by omega)
      have h_15 : S_1.1 (g.2.2.1 + 6) = some (.inr (3, [.int 0, .int (nI T.ns), .ref (g.2.2.1 + 7), .ref (g.2.2.1 + 8), .ref (g.2.2.1 + 9), .int (nI T.nv), .ref (g.2.2.1 + 10), .ref (g.2.2.1 + 11), .ref (g.2.2.1 + 12), .ref (g.2.2.1 + 13), .ref (g.2.2.1 + 14), .ref (g.2.2.1 + 15), .ref (g.2.2.1 + 16), .int (nI na), .ref (g.2.2.1 + 17), .ref (g.2.2.1 + 18)])) := by rw [eS_1]; exact am_up_s
      have hnS_1 : S_1.2.1 = S.2.1 := by rw [eS_1]
      have hzS_1 : S_1.2.2 = S.2.2 := by rw [eS_1]
      refine am_aloadn d_M_goesOf_21 rfl ?_
      refine am_get d_M_goesOf_22 fl_M_48 h_15 rfl ?_
      refine am_ifne (tgt := 32) d_M_goesOf_25 (by decide) (fun hz => ?_) (fun hz => ?_)
      · exact absurd rfl hz
      · refine am_iconst 1 d_M_goesOf_28 (by decide) ?_
        refine am_goto (tgt := 33) d_M_goesOf_29 (by decide) ?_
        exact am_zret d_M_goesOf_33 rfl rfl (h0 hb1 hb2 S_1 ⟨fl, fz, fN, fS, fa, fx, fe, fs, ⟨h_15, h_2, h_3, h_4, h_5, h_6, h_7, h_8, h_9, h_10, h_11, h_12, h_13⟩, ⟨t1, t2, t3⟩, hw⟩ hf_14)
    · refine am_iconst 2 d_M_goesOf_13 (by decide) ?_
      refine am_goto (tgt := 18) d_M_goesOf_14 (by decide) ?_
      refine am_put d_M_goesOf_18 fp_M_48 m0 rfl rfl (Nat.le_of_ble_eq_true rfl) ?_
      obtain ⟨S_16, eS_16⟩ : ∃ z : am_S, z = (am_up S.1 (g.2.2.1 + 6) (.inr (3, [.int 2, .int (nI T.ns), .ref (g.2.2.1 + 7), .ref (g.2.2.1 + 8), .ref (g.2.2.1 + 9), .int (nI T.nv), .ref (g.2.2.1 + 10), .ref (g.2.2.1 + 11), .ref (g.2.2.1 + 12), .ref (g.2.2.1 + 13), .ref (g.2.2.1 + 14), .ref (g.2.2.1 + 15), .ref (g.2.2.1 + 16), .int (nI na), .ref (g.2.2.1 + 17), .ref (g.2.2.1 + 18)])), S.2) := ⟨_, rfl⟩
      change am_W _ _ _ _ (am_up S.1 (g.2.2.1 + 6) (.inr (3, [.int 2, .int (nI T.ns), .ref (g.2.2.1 + 7), .ref (g.2.2.1 + 8), .ref (g.2.2.1 + 9), .int (nI T.nv), .ref (g.2.2.1 + 10), .ref (g.2.2.1 + 11), .ref (g.2.2.1 + 12), .ref (g.2.2.1 + 13), .ref (g.2.2.1 + 14), .ref (g.2.2.1 + 15), .ref (g.2.2.1 + 16), .int (nI na), .ref (g.2.2.1 + 17), .ref (g.2.2.1 + 18)])), S.2) _
      rw [← eS_16]
      have h_17 : S_16.1 (g.2.2.1 + 7) = some (.inl (0, 12, .inl fl)) := by rw [eS_16]; exact (am_up_n (am_nd m1 m0 (by simp [am_kd]))).trans m1
      have h_18 : S_16.1 (g.2.2.1 + 8) = some (.inl (0, 12, .inl fz)) := by rw [eS_16]; exact (am_up_n (am_nd m2 m0 (by simp [am_kd]))).trans m2
      have h_19 : S_16.1 (g.2.2.1 + 9) = some (.inl (1, 3600, .inr (.inl fN))) := by rw [eS_16]; exact (am_up_n (am_nd m3 m0 (by simp [am_kd]))).trans m3
      have h_20 : S_16.1 (g.2.2.1 + 10) = some (.inl (0, 80, .inl fS)) := by rw [eS_16]; exact (am_up_n (am_nd m4 m0 (by simp [am_kd]))).trans m4
      have h_21 : S_16.1 (g.2.2.1 + 11) = some (.inl (0, 80, .inl fa)) := by rw [eS_16]; exact (am_up_n (am_nd m5 m0 (by simp [am_kd]))).trans m5
      have h_22 : S_16.1 (g.2.2.1 + 12) = some (.inl (0, 80, .inl fx)) := by rw [eS_16]; exact (am_up_n (am_nd m6 m0 (by simp [am_kd]))).trans m6
      have h_23 : S_16.1 (g.2.2.1 + 13) = some (.inl (0, 320, .inl fe)) := by rw [eS_16]; exact (am_up_n (am_nd m7 m0 (by simp [am_kd]))).trans m7
      have h_24 : S_16.1 (g.2.2.1 + 14) = some (.inl (0, 320, .inl fs)) := by rw [eS_16]; exact (am_up_n (am_nd m8 m0 (by simp [am_kd]))).trans m8
      have h_25 : S_16.1 (g.2.2.1 + 15) = some (.inl (1, 5, .inr (.inl ne))) := by rw [eS_16]; exact (am_up_n (am_nd m9 m0 (by simp [am_kd]))).trans m9
      have h_26 : S_16.1 (g.2.2.1 + 16) = some (.inl (1, 5, .inr (.inl nw))) := by rw [eS_16]; exact (am_up_n (am_nd m10 m0 (by simp [am_kd]))).trans m10
      have h_27 : S_16.1 (g.2.2.1 + 17) = some (.inl (1, 3000, .inr (.inl rd))) := by rw [eS_16]; exact (am_up_n (am_nd m11 m0 (by simp [am_kd]))).trans m11
      have h_28 : S_16.1 (g.2.2.1 + 18) = some (.inl (2, 300, .inl mt)) := by rw [eS_16]; exact (am_up_n (am_nd m12 m0 (by simp [am_kd]))).trans m12
      have hf_29 : sv_MF g S S_16 := by rw [eS_16]; exact hfr.u (by omega) (by omega)
      have h_30 : S_16.1 (g.2.2.1 + 6) = some (.inr (3, [.int 2, .int (nI T.ns), .ref (g.2.2.1 + 7), .ref (g.2.2.1 + 8), .ref (g.2.2.1 + 9), .int (nI T.nv), .ref (g.2.2.1 + 10), .ref (g.2.2.1 + 11), .ref (g.2.2.1 + 12), .ref (g.2.2.1 + 13), .ref (g.2.2.1 + 14), .ref (g.2.2.1 + 15), .ref (g.2.2.1 + 16), .int (nI na), .ref (g.2.2.1 + 17), .ref (g.2.2.1 + 18)])) := by rw [eS_16]; exact am_up_s
      have hnS_16 : S_16.2.1 = S.2.1 := by rw [eS_16]
      have hzS_16 : S_16.2.2 = S.2.2 := by rw [eS_16]
      refine am_aloadn d_M_goesOf_21 rfl ?_
      refine am_get d_M_goesOf_22 fl_M_48 h_30 rfl ?_
      refine am_ifne (tgt := 32) d_M_goesOf_25 (by decide) (fun hz => ?_) (fun hz => ?_)
      · refine am_iconst 0 d_M_goesOf_32 (by decide) ?_
        exact am_zret d_M_goesOf_33 rfl rfl (h2 hb1 hb2 S_16 ⟨fl, fz, fN, fS, fa, fx, fe, fs, ⟨h_30, h_17, h_18, h_19, h_20, h_21, h_22, h_23, h_24, h_25, h_26, h_27, h_28⟩, ⟨t1, t2, t3⟩, hw⟩ hf_29)
      · exact absurd hz (by decide)
  · refine am_iconst 1 d_M_goesOf_5 (by decide) ?_
    refine am_goto (tgt := 18) d_M_goesOf_6 (by decide) ?_
    refine am_put d_M_goesOf_18 fp_M_48 m0 rfl rfl (Nat.le_of_ble_eq_true rfl) ?_
    obtain ⟨S_31, eS_31⟩ : ∃ z : am_S, z = (am_up S.1 (g.2.2.1 + 6) (.inr (3, [.int 1, .int (nI T.ns), .ref (g.2.2.1 + 7), .ref (g.2.2.1 + 8), .ref (g.2.2.1 + 9), .int (nI T.nv), .ref (g.2.2.1 + 10), .ref (g.2.2.1 + 11), .ref (g.2.2.1 + 12), .ref (g.2.2.1 + 13), .ref (g.2.2.1 + 14), .ref (g.2.2.1 + 15), .ref (g.2.2.1 + 16), .int (nI na), .ref (g.2.2.1 + 17), .ref (g.2.2.1 + 18)])), S.2) := ⟨_, rfl⟩
    change am_W _ _ _ _ (am_up S.1 (g.2.2.1 + 6) (.inr (3, [.int 1, .int (nI T.ns), .ref (g.2.2.1 + 7), .ref (g.2.2.1 + 8), .ref (g.2.2.1 + 9), .int (nI T.nv), .ref (g.2.2.1 + 10), .ref (g.2.2.1 + 11), .ref (g.2.2.1 + 12), .ref (g.2.2.1 + 13), .ref (g.2.2.1 + 14), .ref (g.2.2.1 + 15), .ref (g.2.2.1 + 16), .int (nI na), .ref (g.2.2.1 + 17), .ref (g.2.2.1 + 18)])), S.2) _
    rw [← eS_31]
    have h_32 : S_31.1 (g.2.2.1 + 7) = some (.inl (0, 12, .inl fl)) := by rw [eS_31]; exact (am_up_n (am_nd m1 m0 (by simp [am_kd]))).trans m1
    have h_33 : S_31.1 (g.2.2.1 + 8) = some (.inl (0, 12, .inl fz)) := by rw [eS_31]; exact (am_up_n (am_nd m2 m0 (by simp [am_kd]))).trans m2
    have h_34 : S_31.1 (g.2.2.1 + 9) = some (.inl (1, 3600, .inr (.inl fN))) := by rw [eS_31]; exact (am_up_n (am_nd m3 m0 (by simp [am_kd]))).trans m3
    have h_35 : S_31.1 (g.2.2.1 + 10) = some (.inl (0, 80, .inl fS)) := by rw [eS_31]; exact (am_up_n (am_nd m4 m0 (by simp [am_kd]))).trans m4
    have h_36 : S_31.1 (g.2.2.1 + 11) = some (.inl (0, 80, .inl fa)) := by rw [eS_31]; exact (am_up_n (am_nd m5 m0 (by simp [am_kd]))).trans m5
    have h_37 : S_31.1 (g.2.2.1 + 12) = some (.inl (0, 80, .inl fx)) := by rw [eS_31]; exact (am_up_n (am_nd m6 m0 (by simp [am_kd]))).trans m6
    have h_38 : S_31.1 (g.2.2.1 + 13) = some (.inl (0, 320, .inl fe)) := by rw [eS_31]; exact (am_up_n (am_nd m7 m0 (by simp [am_kd]))).trans m7
    have h_39 : S_31.1 (g.2.2.1 + 14) = some (.inl (0, 320, .inl fs)) := by rw [eS_31]; exact (am_up_n (am_nd m8 m0 (by simp [am_kd]))).trans m8
    have h_40 : S_31.1 (g.2.2.1 + 15) = some (.inl (1, 5, .inr (.inl ne))) := by rw [eS_31]; exact (am_up_n (am_nd m9 m0 (by simp [am_kd]))).trans m9
    have h_41 : S_31.1 (g.2.2.1 + 16) = some (.inl (1, 5, .inr (.inl nw))) := by rw [eS_31]; exact (am_up_n (am_nd m10 m0 (by simp [am_kd]))).trans m10
    have h_42 : S_31.1 (g.2.2.1 + 17) = some (.inl (1, 3000, .inr (.inl rd))) := by rw [eS_31]; exact (am_up_n (am_nd m11 m0 (by simp [am_kd]))).trans m11
    have h_43 : S_31.1 (g.2.2.1 + 18) = some (.inl (2, 300, .inl mt)) := by rw [eS_31]; exact (am_up_n (am_nd m12 m0 (by simp [am_kd]))).trans m12
    have hf_44 : sv_MF g S S_31 := by rw [eS_31]; exact hfr.u (by omega) (by omega)
    have h_45 : S_31.1 (g.2.2.1 + 6) = some (.inr (3, [.int 1, .int (nI T.ns), .ref (g.2.2.1 + 7), .ref (g.2.2.1 + 8), .ref (g.2.2.1 + 9), .int (nI T.nv), .ref (g.2.2.1 + 10), .ref (g.2.2.1 + 11), .ref (g.2.2.1 + 12), .ref (g.2.2.1 + 13), .ref (g.2.2.1 + 14), .ref (g.2.2.1 + 15), .ref (g.2.2.1 + 16), .int (nI na), .ref (g.2.2.1 + 17), .ref (g.2.2.1 + 18)])) := by rw [eS_31]; exact am_up_s
    have hnS_31 : S_31.2.1 = S.2.1 := by rw [eS_31]
    have hzS_31 : S_31.2.2 = S.2.2 := by rw [eS_31]
    refine am_aloadn d_M_goesOf_21 rfl ?_
    refine am_get d_M_goesOf_22 fl_M_48 h_45 rfl ?_
    refine am_ifne (tgt := 32) d_M_goesOf_25 (by decide) (fun hz => ?_) (fun hz => ?_)
    · refine am_iconst 0 d_M_goesOf_32 (by decide) ?_
      exact am_zret d_M_goesOf_33 rfl rfl (h1 hb1 S_31 ⟨fl, fz, fN, fS, fa, fx, fe, fs, ⟨h_45, h_32, h_33, h_34, h_35, h_36, h_37, h_38, h_39, h_40, h_41, h_42, h_43⟩, ⟨t1, t2, t3⟩, hw⟩ hf_44)
    · exact absurd hz (by decide)
set_option maxHeartbeats 4000000 in
set_option maxRecDepth 100000 in
/-- M_acted -/
theorem m_acted {g : am_G} {d : Nat} {S : am_S} (a : Int32) (y z : Int64) {P : am_O → am_S → Prop} (hP : P (.inl (some (.long (sv_act a y z)))) S) : am_W g d mm_M_acted (0, am_ent [.int a, .long y, .long z] 5, []) S (P) := by
  show am_W g d mm_M_acted (0, [some (.int a), some (.long y), none, some (.long z), none], []) S _
  refine am_iloadn d_M_acted_0 rfl ?_
  by_cases hk0 : a = 0
  · rw [hk0]
    refine am_tabIn (off := 31) (tgt := 32) d_M_acted_1 (by decide) (by decide) (by decide) (by decide) ?_
    refine am_lloadn d_M_acted_32 rfl ?_
    refine am_lloadn d_M_acted_33 rfl ?_
    refine am_ladd d_M_acted_34 ?_
    rw [hk0] at hP
    exact am_lret d_M_acted_35 rfl (by simpa [sv_act] using hP)
  · by_cases hk1 : a = 1
    · rw [hk1]
      refine am_tabIn (off := 35) (tgt := 36) d_M_acted_1 (by decide) (by decide) (by decide) (by decide) ?_
      refine am_lloadn d_M_acted_36 rfl ?_
      refine am_lloadn d_M_acted_37 rfl ?_
      refine am_lsub d_M_acted_38 ?_
      rw [hk1] at hP
      exact am_lret d_M_acted_39 rfl (by simpa [sv_act] using hP)
    · by_cases hk2 : a = 2
      · rw [hk2]
        refine am_tabIn (off := 39) (tgt := 40) d_M_acted_1 (by decide) (by decide) (by decide) (by decide) ?_
        refine am_lloadn d_M_acted_40 rfl ?_
        refine am_lloadn d_M_acted_41 rfl ?_
        refine am_lmul d_M_acted_42 ?_
        rw [hk2] at hP
        exact am_lret d_M_acted_43 rfl (by simpa [sv_act] using hP)
      · by_cases hk3 : a = 3
        · rw [hk3]
          refine am_tabIn (off := 43) (tgt := 44) d_M_acted_1 (by decide) (by decide) (by decide) (by decide) ?_
          refine am_lloadn d_M_acted_44 rfl ?_
          refine am_lloadn d_M_acted_45 rfl ?_
          refine am_lcmp d_M_acted_46 ?_
          refine am_ifle (tgt := 54) d_M_acted_47 (by decide) (fun hz => ?_) (fun hz => ?_)
          · refine am_lloadn d_M_acted_54 rfl ?_
            rw [hk3] at hP
            exact am_lret d_M_acted_55 rfl (by have e : ¬ z < y := fun q => absurd (sv_lcgt.mpr q) (Int32.not_lt.mpr hz); simpa [sv_act, e] using hP)
          · refine am_lloadn d_M_acted_50 rfl ?_
            refine am_goto (tgt := 55) d_M_acted_51 (by decide) ?_
            rw [hk3] at hP
            exact am_lret d_M_acted_55 rfl (by have e : z < y := sv_lcgt.mp (Int32.not_le.mp hz); simpa [sv_act, e] using hP)
        · refine am_tabOut (tgt := 56) d_M_acted_1 (by have w0 := lv_neT hk0 (a := 0) (by decide); have w1 := lv_neT hk1 (a := 1) (by decide); have w2 := lv_neT hk2 (a := 2) (by decide); have w3 := lv_neT hk3 (a := 3) (by decide); omega) (by decide) ?_
          refine am_lloadn d_M_acted_56 rfl ?_
          refine am_lloadn d_M_acted_57 rfl ?_
          refine am_lcmp d_M_acted_58 ?_
          refine am_ifge (tgt := 66) d_M_acted_59 (by decide) (fun hz => ?_) (fun hz => ?_)
          · refine am_lloadn d_M_acted_66 rfl ?_
            exact am_lret d_M_acted_67 rfl (by rw [sv_act, if_neg hk0, if_neg hk1, if_neg hk2, if_neg hk3, sv_mn1 (fun q => Int32.not_lt.mpr hz (sv_lcl.mpr q))] at hP; exact hP)
          · refine am_lloadn d_M_acted_62 rfl ?_
            refine am_goto (tgt := 67) d_M_acted_63 (by decide) ?_
            exact am_lret d_M_acted_67 rfl (by rw [sv_act, if_neg hk0, if_neg hk1, if_neg hk2, if_neg hk3, sv_mn2 (sv_lcl.mp (Int32.not_le.mp hz))] at hP; exact hP)
