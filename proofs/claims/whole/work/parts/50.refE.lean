/-! the reference's calls that only tell -/
def sv_cd (a b c : Nat) (k : Nat) : Int32 := if k = a then 1 else if k = b then 2 else if k = c then 3 else 0
def sv_E (g : am_G) (S : am_S) (q : sv_Q) (c : Nat → Int32) (o : am_O) (S1 : am_S) : Prop :=
  (∃ (na : Nat) (ne nw rd : Nat → Int64) (mt : Nat → Int32), sv_N g S1.1 q.2.2 (c q.1) na ne nw rd mt) ∧ sv_MF g S S1 ∧ ∃ v : Int32, o = .inl (some (.int v)) ∧ (q.1 = 0 → .int v = q.2.1)
def sv_EL (g : am_G) (S : am_S) (q : sv_Q) (c : Nat → Int32) (o : am_O) (S1 : am_S) : Prop :=
  (∃ (na : Nat) (ne nw rd : Nat → Int64) (mt : Nat → Int32), sv_N g S1.1 q.2.2 (c q.1) na ne nw rd mt) ∧ sv_MF g S S1 ∧ ∃ v : Int64, o = .inl (some (.long v)) ∧ (q.1 = 0 → .long v = q.2.1)
theorem sv_E.ok {g : am_G} {S S1 : am_S} {T : sv_T} {c : Nat → Int32} {v : Int32} {na : Nat} {ne nw rd : Nat → Int64} {mt : Nat → Int32} (h : sv_N g S1.1 T (c 0) na ne nw rd mt) (hf : sv_MF g S S1) : sv_E g S (0, .int v, T) c (.inl (some (.int v))) S1 := ⟨⟨_, _, _, _, _, h⟩, hf, v, rfl, fun _ => rfl⟩
theorem sv_E.no {g : am_G} {S S1 : am_S} {k : Nat} {T : sv_T} {c : Nat → Int32} {u : Value} {v : Int32} {na : Nat} {ne nw rd : Nat → Int64} {mt : Nat → Int32} (h : sv_N g S1.1 T (c k) na ne nw rd mt) (hf : sv_MF g S S1) (hk : ¬ k = 0) : sv_E g S (k, u, T) c (.inl (some (.int v))) S1 := ⟨⟨_, _, _, _, _, h⟩, hf, v, rfl, fun q => absurd q hk⟩
theorem sv_EL.no {g : am_G} {S S1 : am_S} {k : Nat} {T : sv_T} {c : Nat → Int32} {u : Value} {v : Int64} {na : Nat} {ne nw rd : Nat → Int64} {mt : Nat → Int32} (h : sv_N g S1.1 T (c k) na ne nw rd mt) (hf : sv_MF g S S1) (hk : ¬ k = 0) : sv_EL g S (k, u, T) c (.inl (some (.long v))) S1 := ⟨⟨_, _, _, _, _, h⟩, hf, v, rfl, fun q => absurd q hk⟩
theorem sv_EL.ok {g : am_G} {S S1 : am_S} {T : sv_T} {c : Nat → Int32} {v : Int64} {na : Nat} {ne nw rd : Nat → Int64} {mt : Nat → Int32} (h : sv_N g S1.1 T (c 0) na ne nw rd mt) (hf : sv_MF g S S1) : sv_EL g S (0, .long v, T) c (.inl (some (.long v))) S1 := ⟨⟨_, _, _, _, _, h⟩, hf, v, rfl, fun _ => rfl⟩
theorem sv_qva_no {T : sv_T} {v x : Int32} {f : sv_A → Nat → sv_Q} (h : ¬ sv_ia T v x) : sv_qv T v (fun a => sv_qa T a x (f a)) = (4, .null, T) := by
  unfold sv_qv
  split
  · rename_i h1
    exact sv_qa_no (fun q => h ⟨h1, q⟩)
  · rfl
theorem q_axis_5 {T : sv_T} {v x w : Int32} (h : sv_ia T v x) (hw : sv_wf T) (h0 : ¬ w = 0) (h1 : ¬ w = 1) : q_axis T v x w = (5, .null, T) := by
  obtain ⟨j, k, hj, rfl, hk, rfl⟩ := sv_ia_of h hw
  rw [q_axis, sv_qv_j hj hw.2.1, sv_qa_j hk (hw.2.2.2 j hj).2.1, if_neg h0, if_neg h1]
theorem sv_w3 {α : Type} {w : Int32} {a b c d : α} (h : ¬ (0 ≤ w ∧ w < 3)) : (if w = 0 then a else if w = 1 then b else if w = 2 then c else d) = d := by
  rw [if_neg (fun q => h (by rw [q]; decide)), if_neg (fun q => h (by rw [q]; decide)), if_neg (fun q => h (by rw [q]; decide))]
theorem sv_w2 {w : Int32} (h : 0 ≤ w ∧ w < 3) (h0 : ¬ w = 0) (h1 : ¬ w = 1) : w = 2 := by
  obtain ⟨k, hk, rfl⟩ := nI_of (Int32.not_lt.mpr h.1)
  have := (nI_ltI (b := 3) hk (by decide)).mp h.2
  have e0 : ¬ k = 0 := fun q => h0 (by rw [q]; rfl)
  have e1 : ¬ k = 1 := fun q => h1 (by rw [q]; rfl)
  rw [show k = 2 by omega]
  rfl
theorem sv_z1 {D : Prop} (h : (sv_if D 0 1 : Int32) ≤ 0) : D := Classical.byContradiction (fun q => by rw [sv_if_n q] at h; exact absurd h (by decide))
theorem sv_z0 {D : Prop} (h : ¬ (sv_if D 0 1 : Int32) ≤ 0) : ¬ D := fun q => h (by rw [sv_if_y q]; decide)
theorem sv_zn {D : Prop} (h : (sv_if D 0 1 : Int32) = 0) : D := Classical.byContradiction (fun q => by rw [sv_if_n q] at h; exact absurd h (by decide))
theorem sv_zp {D : Prop} (h : 0 < (sv_if D 0 1 : Int32)) : ¬ D := fun q => by rw [sv_if_y q] at h; exact absurd h (by decide)
theorem q_at_no {T : sv_T} {v n : Int32} (h : ¬ (sv_iv T v ∧ 0 ≤ n ∧ n < nI (T.va v).it)) : q_at T v n = (4, .null, T) := by
  unfold q_at sv_qv
  split
  · rename_i h1
    exact if_neg (fun q => h ⟨h1, q⟩)
  · rfl
set_option maxHeartbeats 4000000 in
set_option maxRecDepth 100000 in
/-- M_count -/
theorem e_count {g : am_G} {d : Nat} {S : am_S} {T : sv_T} {th : Int32} {na : Nat} {ne nw rd : Nat → Int64} {mt : Nat → Int32} (hM : sv_N g S.1 T th na ne nw rd mt) {w : Int32} : am_W g d mm_M_count (0, am_ent [.ref (g.2.2.1 + 6), .int w] 2, []) S (sv_E g S (q_count T w) (sv_cd 5 9 9)) := by
  obtain ⟨fl, fz, fN, fS, fa, fx, fe, fs, ⟨m0, m1, m2, m3, m4, m5, m6, m7, m8, m9, m10, m11, m12⟩, ⟨t1, t2, t3⟩, hw⟩ := id hM
  have h80 := hw.2.1
  have h12 := hw.1
  show am_W g d mm_M_count (0, [some (.ref (g.2.2.1 + 6)), some (.int w)], []) S _
  refine am_aloadn d_M_count_0 rfl ?_
  refine am_iloadn d_M_count_1 rfl ?_
  refine am_ifeq (tgt := 10) d_M_count_2 (by decide) (fun h0 => ?_) (fun h0 => ?_)
  · refine am_iconst 0 d_M_count_10 (by decide) ?_
    refine am_goto (tgt := 15) d_M_count_11 (by decide) ?_
    refine am_put d_M_count_15 fp_M_48 m0 rfl rfl (Nat.le_of_ble_eq_true rfl) ?_
    obtain ⟨S_1, eS_1⟩ : ∃ z : am_S, z = (am_up S.1 (g.2.2.1 + 6) (.inr (3, [.int 0, .int (nI T.ns), .ref (g.2.2.1 + 7), .ref (g.2.2.1 + 8), .ref (g.2.2.1 + 9), .int (nI T.nv), .ref (g.2.2.1 + 10), .ref (g.2.2.1 + 11), .ref (g.2.2.1 + 12), .ref (g.2.2.1 + 13), .ref (g.2.2.1 + 14), .ref (g.2.2.1 + 15), .ref (g.2.2.1 + 16), .int (nI na), .ref (g.2.2.1 + 17), .ref (g.2.2.1 + 18)])), S.2) := ⟨_, rfl⟩
    change am_W _ _ _ _ (am_up S.1 (g.2.2.1 + 6) (.inr (3, [.int 0, .int (nI T.ns), .ref (g.2.2.1 + 7), .ref (g.2.2.1 + 8), .ref (g.2.2.1 + 9), .int (nI T.nv), .ref (g.2.2.1 + 10), .ref (g.2.2.1 + 11), .ref (g.2.2.1 + 12), .ref (g.2.2.1 + 13), .ref (g.2.2.1 + 14), .ref (g.2.2.1 + 15), .ref (g.2.2.1 + 16), .int (nI na), .ref (g.2.2.1 + 17), .ref (g.2.2.1 + 18)])), S.2) _
    rw [← eS_1]
    have h_2 : S_1.1 (g.2.2.1 + 7) = some (.inl (0, 12, .inl fl)) := by rw [eS_1]; exact (am_up_n (by omega)).trans m1
    have h_3 : S_1.1 (g.2.2.1 + 8) = some (.inl (0, 12, .inl fz)) := by rw [eS_1]; exact (am_up_n (by omega)).trans m2
    have h_4 : S_1.1 (g.2.2.1 + 9) = some (.inl (1, 3600, .inr (.inl fN))) := by rw [eS_1]; exact (am_up_n (by omega)).trans m3
    have h_5 : S_1.1 (g.2.2.1 + 10) = some (.inl (0, 80, .inl fS)) := by rw [eS_1]; exact (am_up_n (by omega)).trans m4
    have h_6 : S_1.1 (g.2.2.1 + 11) = some (.inl (0, 80, .inl fa)) := by rw [eS_1]; exact (am_up_n (by omega)).trans m5
    have h_7 : S_1.1 (g.2.2.1 + 12) = some (.inl (0, 80, .inl fx)) := by rw [eS_1]; exact (am_up_n (by omega)).trans m6
    have h_8 : S_1.1 (g.2.2.1 + 13) = some (.inl (0, 320, .inl fe)) := by rw [eS_1]; exact (am_up_n (by omega)).trans m7
    have h_9 : S_1.1 (g.2.2.1 + 14) = some (.inl (0, 320, .inl fs)) := by rw [eS_1]; exact (am_up_n (by omega)).trans m8
    have h_10 : S_1.1 (g.2.2.1 + 15) = some (.inl (1, 5, .inr (.inl ne))) := by rw [eS_1]; exact (am_up_n (by omega)).trans m9
    have h_11 : S_1.1 (g.2.2.1 + 16) = some (.inl (1, 5, .inr (.inl nw))) := by rw [eS_1]; exact (am_up_n (by omega)).trans m10
    have h_12 : S_1.1 (g.2.2.1 + 17) = some (.inl (1, 3000, .inr (.inl rd))) := by rw [eS_1]; exact (am_up_n (by omega)).trans m11
    have h_13 : S_1.1 (g.2.2.1 + 18) = some (.inl (2, 300, .inl mt)) := by rw [eS_1]; exact (am_up_n (by omega)).trans m12
    have hf_14 : sv_MF g S S_1 := by rw [eS_1]; exact sv_MF.rf.u (by omega) (by omega)
    have h_15 : S_1.1 (g.2.2.1 + 6) = some (.inr (3, [.int 0, .int (nI T.ns), .ref (g.2.2.1 + 7), .ref (g.2.2.1 + 8), .ref (g.2.2.1 + 9), .int (nI T.nv), .ref (g.2.2.1 + 10), .ref (g.2.2.1 + 11), .ref (g.2.2.1 + 12), .ref (g.2.2.1 + 13), .ref (g.2.2.1 + 14), .ref (g.2.2.1 + 15), .ref (g.2.2.1 + 16), .int (nI na), .ref (g.2.2.1 + 17), .ref (g.2.2.1 + 18)])) := by rw [eS_1]; exact am_up_s
    have hnS_1 : S_1.2.1 = S.2.1 := by rw [eS_1]
    have hzS_1 : S_1.2.2 = S.2.2 := by rw [eS_1]
    have hN1 : sv_N g S_1.1 T 0 na ne nw rd mt := ⟨fl, fz, fN, fS, fa, fx, fe, fs, ⟨h_15, h_2, h_3, h_4, h_5, h_6, h_7, h_8, h_9, h_10, h_11, h_12, h_13⟩, ⟨t1, t2, t3⟩, hw⟩
    have hf1 : sv_MF g S S_1 := hf_14
    refine am_aloadn d_M_count_18 rfl ?_
    refine am_get d_M_count_19 fl_M_48 h_15 rfl ?_
    refine am_ifle (tgt := 29) d_M_count_22 (by decide) (fun hz => ?_) (fun hz => ?_)
    · refine am_iloadn d_M_count_29 rfl ?_
      refine am_ifne (tgt := 40) d_M_count_30 (by decide) (fun hy => ?_) (fun hy => ?_)
      · exact absurd h0 hy
      · refine am_aloadn d_M_count_33 rfl ?_
        refine am_get d_M_count_34 fl_M_84 h_15 rfl ?_
        refine am_goto (tgt := 44) d_M_count_37 (by decide) ?_
        rw [q_count, if_pos h0]
        exact am_iret d_M_count_44 rfl (sv_E.ok hN1 hf1)
    · exact absurd (by decide) hz
  · refine am_iloadn d_M_count_5 rfl ?_
    refine am_iconst 1 d_M_count_6 (by decide) ?_
    refine am_icne (tgt := 14) d_M_count_7 (by decide) (fun h1 => ?_) (fun h1 => ?_)
    · refine am_iconst 1 d_M_count_14 (by decide) ?_
      refine am_put d_M_count_15 fp_M_48 m0 rfl rfl (Nat.le_of_ble_eq_true rfl) ?_
      obtain ⟨S_16, eS_16⟩ : ∃ z : am_S, z = (am_up S.1 (g.2.2.1 + 6) (.inr (3, [.int 1, .int (nI T.ns), .ref (g.2.2.1 + 7), .ref (g.2.2.1 + 8), .ref (g.2.2.1 + 9), .int (nI T.nv), .ref (g.2.2.1 + 10), .ref (g.2.2.1 + 11), .ref (g.2.2.1 + 12), .ref (g.2.2.1 + 13), .ref (g.2.2.1 + 14), .ref (g.2.2.1 + 15), .ref (g.2.2.1 + 16), .int (nI na), .ref (g.2.2.1 + 17), .ref (g.2.2.1 + 18)])), S.2) := ⟨_, rfl⟩
      change am_W _ _ _ _ (am_up S.1 (g.2.2.1 + 6) (.inr (3, [.int 1, .int (nI T.ns), .ref (g.2.2.1 + 7), .ref (g.2.2.1 + 8), .ref (g.2.2.1 + 9), .int (nI T.nv), .ref (g.2.2.1 + 10), .ref (g.2.2.1 + 11), .ref (g.2.2.1 + 12), .ref (g.2.2.1 + 13), .ref (g.2.2.1 + 14), .ref (g.2.2.1 + 15), .ref (g.2.2.1 + 16), .int (nI na), .ref (g.2.2.1 + 17), .ref (g.2.2.1 + 18)])), S.2) _
      rw [← eS_16]
      have h_17 : S_16.1 (g.2.2.1 + 7) = some (.inl (0, 12, .inl fl)) := by rw [eS_16]; exact (am_up_n (by omega)).trans m1
      have h_18 : S_16.1 (g.2.2.1 + 8) = some (.inl (0, 12, .inl fz)) := by rw [eS_16]; exact (am_up_n (by omega)).trans m2
      have h_19 : S_16.1 (g.2.2.1 + 9) = some (.inl (1, 3600, .inr (.inl fN))) := by rw [eS_16]; exact (am_up_n (by omega)).trans m3
      have h_20 : S_16.1 (g.2.2.1 + 10) = some (.inl (0, 80, .inl fS)) := by rw [eS_16]; exact (am_up_n (by omega)).trans m4
      have h_21 : S_16.1 (g.2.2.1 + 11) = some (.inl (0, 80, .inl fa)) := by rw [eS_16]; exact (am_up_n (by omega)).trans m5
      have h_22 : S_16.1 (g.2.2.1 + 12) = some (.inl (0, 80, .inl fx)) := by rw [eS_16]; exact (am_up_n (by omega)).trans m6
      have h_23 : S_16.1 (g.2.2.1 + 13) = some (.inl (0, 320, .inl fe)) := by rw [eS_16]; exact (am_up_n (by omega)).trans m7
      have h_24 : S_16.1 (g.2.2.1 + 14) = some (.inl (0, 320, .inl fs)) := by rw [eS_16]; exact (am_up_n (by omega)).trans m8
      have h_25 : S_16.1 (g.2.2.1 + 15) = some (.inl (1, 5, .inr (.inl ne))) := by rw [eS_16]; exact (am_up_n (by omega)).trans m9
      have h_26 : S_16.1 (g.2.2.1 + 16) = some (.inl (1, 5, .inr (.inl nw))) := by rw [eS_16]; exact (am_up_n (by omega)).trans m10
      have h_27 : S_16.1 (g.2.2.1 + 17) = some (.inl (1, 3000, .inr (.inl rd))) := by rw [eS_16]; exact (am_up_n (by omega)).trans m11
      have h_28 : S_16.1 (g.2.2.1 + 18) = some (.inl (2, 300, .inl mt)) := by rw [eS_16]; exact (am_up_n (by omega)).trans m12
      have hf_29 : sv_MF g S S_16 := by rw [eS_16]; exact sv_MF.rf.u (by omega) (by omega)
      have h_30 : S_16.1 (g.2.2.1 + 6) = some (.inr (3, [.int 1, .int (nI T.ns), .ref (g.2.2.1 + 7), .ref (g.2.2.1 + 8), .ref (g.2.2.1 + 9), .int (nI T.nv), .ref (g.2.2.1 + 10), .ref (g.2.2.1 + 11), .ref (g.2.2.1 + 12), .ref (g.2.2.1 + 13), .ref (g.2.2.1 + 14), .ref (g.2.2.1 + 15), .ref (g.2.2.1 + 16), .int (nI na), .ref (g.2.2.1 + 17), .ref (g.2.2.1 + 18)])) := by rw [eS_16]; exact am_up_s
      have hnS_16 : S_16.2.1 = S.2.1 := by rw [eS_16]
      have hzS_16 : S_16.2.2 = S.2.2 := by rw [eS_16]
      have hN1 : sv_N g S_16.1 T 1 na ne nw rd mt := ⟨fl, fz, fN, fS, fa, fx, fe, fs, ⟨h_30, h_17, h_18, h_19, h_20, h_21, h_22, h_23, h_24, h_25, h_26, h_27, h_28⟩, ⟨t1, t2, t3⟩, hw⟩
      have hf1 : sv_MF g S S_16 := hf_29
      refine am_aloadn d_M_count_18 rfl ?_
      refine am_get d_M_count_19 fl_M_48 h_30 rfl ?_
      refine am_ifle (tgt := 29) d_M_count_22 (by decide) (fun hz => ?_) (fun hz => ?_)
      · exact absurd hz (by decide)
      · refine am_iconst 0 d_M_count_25 (by decide) ?_
        refine am_goto (tgt := 44) d_M_count_26 (by decide) ?_
        rw [q_count, if_neg h0, if_neg h1]
        exact am_iret d_M_count_44 rfl (sv_E.no hN1 hf1 (by decide))
    · refine am_iconst 0 d_M_count_10 (by decide) ?_
      refine am_goto (tgt := 15) d_M_count_11 (by decide) ?_
      refine am_put d_M_count_15 fp_M_48 m0 rfl rfl (Nat.le_of_ble_eq_true rfl) ?_
      obtain ⟨S_31, eS_31⟩ : ∃ z : am_S, z = (am_up S.1 (g.2.2.1 + 6) (.inr (3, [.int 0, .int (nI T.ns), .ref (g.2.2.1 + 7), .ref (g.2.2.1 + 8), .ref (g.2.2.1 + 9), .int (nI T.nv), .ref (g.2.2.1 + 10), .ref (g.2.2.1 + 11), .ref (g.2.2.1 + 12), .ref (g.2.2.1 + 13), .ref (g.2.2.1 + 14), .ref (g.2.2.1 + 15), .ref (g.2.2.1 + 16), .int (nI na), .ref (g.2.2.1 + 17), .ref (g.2.2.1 + 18)])), S.2) := ⟨_, rfl⟩
      change am_W _ _ _ _ (am_up S.1 (g.2.2.1 + 6) (.inr (3, [.int 0, .int (nI T.ns), .ref (g.2.2.1 + 7), .ref (g.2.2.1 + 8), .ref (g.2.2.1 + 9), .int (nI T.nv), .ref (g.2.2.1 + 10), .ref (g.2.2.1 + 11), .ref (g.2.2.1 + 12), .ref (g.2.2.1 + 13), .ref (g.2.2.1 + 14), .ref (g.2.2.1 + 15), .ref (g.2.2.1 + 16), .int (nI na), .ref (g.2.2.1 + 17), .ref (g.2.2.1 + 18)])), S.2) _
      rw [← eS_31]
      have h_32 : S_31.1 (g.2.2.1 + 7) = some (.inl (0, 12, .inl fl)) := by rw [eS_31]; exact (am_up_n (by omega)).trans m1
      have h_33 : S_31.1 (g.2.2.1 + 8) = some (.inl (0, 12, .inl fz)) := by rw [eS_31]; exact (am_up_n (by omega)).trans m2
      have h_34 : S_31.1 (g.2.2.1 + 9) = some (.inl (1, 3600, .inr (.inl fN))) := by rw [eS_31]; exact (am_up_n (by omega)).trans m3
      have h_35 : S_31.1 (g.2.2.1 + 10) = some (.inl (0, 80, .inl fS)) := by rw [eS_31]; exact (am_up_n (by omega)).trans m4
      have h_36 : S_31.1 (g.2.2.1 + 11) = some (.inl (0, 80, .inl fa)) := by rw [eS_31]; exact (am_up_n (by omega)).trans m5
      have h_37 : S_31.1 (g.2.2.1 + 12) = some (.inl (0, 80, .inl fx)) := by rw [eS_31]; exact (am_up_n (by omega)).trans m6
      have h_38 : S_31.1 (g.2.2.1 + 13) = some (.inl (0, 320, .inl fe)) := by rw [eS_31]; exact (am_up_n (by omega)).trans m7
      have h_39 : S_31.1 (g.2.2.1 + 14) = some (.inl (0, 320, .inl fs)) := by rw [eS_31]; exact (am_up_n (by omega)).trans m8
      have h_40 : S_31.1 (g.2.2.1 + 15) = some (.inl (1, 5, .inr (.inl ne))) := by rw [eS_31]; exact (am_up_n (by omega)).trans m9
      have h_41 : S_31.1 (g.2.2.1 + 16) = some (.inl (1, 5, .inr (.inl nw))) := by rw [eS_31]; exact (am_up_n (by omega)).trans m10
      have h_42 : S_31.1 (g.2.2.1 + 17) = some (.inl (1, 3000, .inr (.inl rd))) := by rw [eS_31]; exact (am_up_n (by omega)).trans m11
      have h_43 : S_31.1 (g.2.2.1 + 18) = some (.inl (2, 300, .inl mt)) := by rw [eS_31]; exact (am_up_n (by omega)).trans m12
      have hf_44 : sv_MF g S S_31 := by rw [eS_31]; exact sv_MF.rf.u (by omega) (by omega)
      have h_45 : S_31.1 (g.2.2.1 + 6) = some (.inr (3, [.int 0, .int (nI T.ns), .ref (g.2.2.1 + 7), .ref (g.2.2.1 + 8), .ref (g.2.2.1 + 9), .int (nI T.nv), .ref (g.2.2.1 + 10), .ref (g.2.2.1 + 11), .ref (g.2.2.1 + 12), .ref (g.2.2.1 + 13), .ref (g.2.2.1 + 14), .ref (g.2.2.1 + 15), .ref (g.2.2.1 + 16), .int (nI na), .ref (g.2.2.1 + 17), .ref (g.2.2.1 + 18)])) := by rw [eS_31]; exact am_up_s
      have hnS_31 : S_31.2.1 = S.2.1 := by rw [eS_31]
      have hzS_31 : S_31.2.2 = S.2.2 := by rw [eS_31]
      have hN1 : sv_N g S_31.1 T 0 na ne nw rd mt := ⟨fl, fz, fN, fS, fa, fx, fe, fs, ⟨h_45, h_32, h_33, h_34, h_35, h_36, h_37, h_38, h_39, h_40, h_41, h_42, h_43⟩, ⟨t1, t2, t3⟩, hw⟩
      have hf1 : sv_MF g S S_31 := hf_44
      refine am_aloadn d_M_count_18 rfl ?_
      refine am_get d_M_count_19 fl_M_48 h_45 rfl ?_
      refine am_ifle (tgt := 29) d_M_count_22 (by decide) (fun hz => ?_) (fun hz => ?_)
      · refine am_iloadn d_M_count_29 rfl ?_
        refine am_ifne (tgt := 40) d_M_count_30 (by decide) (fun hy => ?_) (fun hy => ?_)
        · refine am_aloadn d_M_count_40 rfl ?_
          refine am_get d_M_count_41 fl_M_52 h_45 rfl ?_
          rw [q_count, if_neg h0, if_pos h1]
          exact am_iret d_M_count_44 rfl (sv_E.ok hN1 hf1)
        · exact absurd hy h0
      · exact absurd (by decide) hz
set_option maxHeartbeats 4000000 in
set_option maxRecDepth 100000 in
/-- M_axis -/
theorem e_axis {g : am_G} {d : Nat} {S : am_S} {T : sv_T} {th : Int32} {na : Nat} {ne nw rd : Nat → Int64} {mt : Nat → Int32} (hM : sv_N g S.1 T th na ne nw rd mt) {v x w : Int32} : am_W g (d + 2) mm_M_axis (0, am_ent [.ref (g.2.2.1 + 6), .int v, .int x, .int w] 4, []) S (sv_E g S (q_axis T v x w) (sv_cd 4 5 9)) := by
  obtain ⟨fl, fz, fN, fS, fa, fx, fe, fs, ⟨m0, m1, m2, m3, m4, m5, m6, m7, m8, m9, m10, m11, m12⟩, ⟨t1, t2, t3⟩, hw⟩ := id hM
  have h80 := hw.2.1
  have h12 := hw.1
  show am_W g (d + 2) mm_M_axis (0, [some (.ref (g.2.2.1 + 6)), some (.int v), some (.int x), some (.int w)], []) S _
  refine am_aloadn d_M_axis_0 rfl ?_
  refine am_aloadn d_M_axis_1 rfl ?_
  refine am_iloadn d_M_axis_2 rfl ?_
  refine am_iloadn d_M_axis_3 rfl ?_
  refine am_cpsV [.int v, .int x] [.ref (g.2.2.1 + 6)] d_M_axis_4 cV_M_105 rfl m0 rfl rfl (Nat.le_of_ble_eq_true rfl) (Nat.le_of_ble_eq_true rfl) (m_isAxis hM ?_)
  show am_W g (d + 2) mm_M_axis (7, [some (.ref (g.2.2.1 + 6)), some (.int v), some (.int x), some (.int w)], [.int (sv_if (sv_ia T v x) 1 0), .ref (g.2.2.1 + 6)]) S _
  refine am_cut (F := (21, [some (.ref (g.2.2.1 + 6)), some (.int v), some (.int x), some (.int w)], [.int (sv_if (w = 0 ∨ w = 1) 1 0), .int (sv_if (sv_ia T v x) 1 0), .ref (g.2.2.1 + 6)])) ?_ (fun key => ?_)
  · skip
    refine am_cpsV [.int (sv_if (sv_ia T v x) 1 0), .int (sv_if (w = 0 ∨ w = 1) 1 0)] [] d_M_axis_21 cV_M_90 rfl m0 rfl rfl (Nat.le_of_ble_eq_true rfl) (Nat.le_of_ble_eq_true rfl) (m_goesOf hM (fun b1 S1 hN1 hf1 => ?_) (fun b1 b2 S1 hN1 hf1 => ?_) (fun b1 b2 S1 hN1 hf1 => ?_))
    · show am_W g (d + 2) mm_M_axis (24, [some (.ref (g.2.2.1 + 6)), some (.int v), some (.int x), some (.int w)], [.int 0]) S1 _
      refine am_ifne (tgt := 29) d_M_axis_24 (by decide) (fun hz => ?_) (fun hz => ?_)
      · exact absurd rfl hz
      · refine am_iconst 0 d_M_axis_27 (by decide) ?_
        rw [q_axis, sv_qva_no (sv_b0 b1)]
        exact am_iret d_M_axis_28 rfl (sv_E.no hN1 hf1 (by decide))
    · show am_W g (d + 2) mm_M_axis (24, [some (.ref (g.2.2.1 + 6)), some (.int v), some (.int x), some (.int w)], [.int 0]) S1 _
      refine am_ifne (tgt := 29) d_M_axis_24 (by decide) (fun hz => ?_) (fun hz => ?_)
      · exact absurd rfl hz
      · refine am_iconst 0 d_M_axis_27 (by decide) ?_
        rw [q_axis_5 (sv_b1 b1) hw (fun q => sv_b0 b2 (Or.inl q)) (fun q => sv_b0 b2 (Or.inr q))]
        exact am_iret d_M_axis_28 rfl (sv_E.no hN1 hf1 (by decide))
    · skip
      show am_W g (d + 2) mm_M_axis (24, [some (.ref (g.2.2.1 + 6)), some (.int v), some (.int x), some (.int w)], [.int 1]) S1 _
      refine am_ifne (tgt := 29) d_M_axis_24 (by decide) (fun hz => ?_) (fun hz => ?_)
      · skip
        obtain ⟨j, k, hj, rfl, hk, rfl⟩ := sv_ia_of (sv_b1 b1) hw
        rw [q_axis, sv_qv_j hj h80, sv_qa_j hk (hw.2.2.2 j hj).2.1]
        obtain ⟨flb, fzb, fNb, fSb, fab, fxb, feb, fsb, ⟨m0b, m1b, m2b, m3b, m4b, m5b, m6b, m7b, m8b, m9b, m10b, m11b, m12b⟩, ⟨t1b, t2b, t3b⟩, hwb⟩ := id hN1
        obtain ⟨v1, v2, v3, v4⟩ := t3b j hj
        have hx4 := (hw.2.2.2 j hj).2.1
        refine am_iloadn d_M_axis_29 rfl ?_
        refine am_ifne (tgt := 46) d_M_axis_30 (by decide) (fun hy => ?_) (fun hy => ?_)
        · refine am_aloadn d_M_axis_46 rfl ?_
          refine am_get d_M_axis_47 fl_M_32 m0b rfl ?_
          refine am_iconst 4 d_M_axis_50 (by decide) ?_
          refine am_iloadn d_M_axis_51 rfl ?_
          refine am_imul d_M_axis_52 ?_
          refine am_iloadn d_M_axis_53 rfl ?_
          refine am_iadd d_M_axis_54 ?_
          refine am_ti (b := nI (4 * j + k)) (sv_4 j k) ?_
          refine am_ialdN (t := 0) (k := 4 * j + k) d_M_axis_55 rfl m8b (by omega) (by omega) ?_
          refine am_ti (b := (T.vw j).sp k) ((v4 k hk).2) ?_
          rw [if_neg hy, if_pos ((sv_b1 b2).resolve_left hy)]
          exact am_iret d_M_axis_56 rfl (sv_E.ok hN1 hf1)
        · refine am_aloadn d_M_axis_33 rfl ?_
          refine am_get d_M_axis_34 fl_M_29 m0b rfl ?_
          refine am_iconst 4 d_M_axis_37 (by decide) ?_
          refine am_iloadn d_M_axis_38 rfl ?_
          refine am_imul d_M_axis_39 ?_
          refine am_iloadn d_M_axis_40 rfl ?_
          refine am_iadd d_M_axis_41 ?_
          refine am_ti (b := nI (4 * j + k)) (sv_4 j k) ?_
          refine am_ialdN (t := 0) (k := 4 * j + k) d_M_axis_42 rfl m7b (by omega) (by omega) ?_
          refine am_ti (b := nI ((T.vw j).ex k)) ((v4 k hk).1) ?_
          refine am_goto (tgt := 56) d_M_axis_43 (by decide) ?_
          rw [if_pos hy]
          exact am_iret d_M_axis_56 rfl (sv_E.ok hN1 hf1)
      · exact absurd hz (by decide)
  · refine am_iloadn d_M_axis_7 rfl ?_
    refine am_ifeq (tgt := 16) d_M_axis_8 (by decide) (fun h0 => ?_) (fun h0 => ?_)
    · refine am_iconst 1 d_M_axis_16 (by decide) ?_
      refine am_goto (tgt := 21) d_M_axis_17 (by decide) ?_
      rw [sv_if_y (Or.inl h0)] at key
      exact key
    · refine am_iloadn d_M_axis_11 rfl ?_
      refine am_iconst 1 d_M_axis_12 (by decide) ?_
      refine am_icne (tgt := 20) d_M_axis_13 (by decide) (fun h1 => ?_) (fun h1 => ?_)
      · refine am_iconst 0 d_M_axis_20 (by decide) ?_
        rw [sv_if_n (fun q => q.elim h0 h1)] at key
        exact key
      · refine am_iconst 1 d_M_axis_16 (by decide) ?_
        refine am_goto (tgt := 21) d_M_axis_17 (by decide) ?_
        rw [sv_if_y (Or.inr h1)] at key
        exact key
set_option maxHeartbeats 4000000 in
set_option maxRecDepth 100000 in
/-- stored, the loop -/
theorem e_stored_l {g : am_G} {d : Nat} {S : am_S} {T : sv_T} {th : Int32} {na : Nat} {ne nw rd : Nat → Int64} {mt : Nat → Int32} (hM : sv_N g S.1 T th na ne nw rd mt) {s : Nat} (hs : s < T.ns) {w : Int32} {P : am_O → am_S → Prop} (hK : ∀ z : Int32, am_W g d mm_M_stored (79, [some (.ref (g.2.2.1 + 6)), some (.int (nI s)), some (.int w), some (.int (nI (sv_vc T.vw s T.nv))), some (.int z)], []) S P) : ∀ (m k : Nat), k + m = T.nv → am_W g d mm_M_stored (45, [some (.ref (g.2.2.1 + 6)), some (.int (nI s)), some (.int w), some (.int (nI (sv_vc T.vw s k))), some (.int (nI k))], []) S P := by
  obtain ⟨fl, fz, fN, fS, fa, fx, fe, fs, ⟨m0, m1, m2, m3, m4, m5, m6, m7, m8, m9, m10, m11, m12⟩, ⟨t1, t2, t3⟩, hw⟩ := id hM
  have h80 := hw.2.1
  have h12 := hw.1
  intro m
  induction m using Nat.strongRecOn with
  | ind m ih =>
    intro k hk
    refine am_iload d_M_stored_45 rfl ?_
    refine am_aloadn d_M_stored_47 rfl ?_
    refine am_get d_M_stored_48 fl_M_52 m0 rfl ?_
    refine am_icge (tgt := 79) d_M_stored_51 (by decide) (fun hc => ?_) (fun hc => ?_)
    · have hk0 : T.nv ≤ k := (nI_leI (by omega) (by omega)).mp hc
      obtain rfl : k = T.nv := by omega
      exact hK (nI T.nv)
    · have hlt : k < T.nv := Nat.lt_of_not_le (fun q => hc (nI_le q (by omega)))
      have hvl := sv_vc_le T.vw s k
      obtain ⟨v1, v2, v3, v4⟩ := t3 k hlt
      have hs1 := (hw.2.2.2 k hlt).1
      refine am_iloadn d_M_stored_54 rfl ?_
      refine am_aloadn d_M_stored_55 rfl ?_
      refine am_get d_M_stored_56 fl_M_20 m0 rfl ?_
      refine am_iload d_M_stored_59 rfl ?_
      refine am_ialdN (t := 0) (k := k) d_M_stored_61 rfl m4 (by omega) (by omega) ?_
      refine am_ti (b := nI (T.vw k).st) v1 ?_
      refine am_iloadn d_M_stored_62 rfl ?_
      refine am_icne (tgt := 70) d_M_stored_63 (by decide) (fun hz => ?_) (fun hz => ?_)
      · have hne : ¬ (T.vw k).st = s := fun q => hz (by rw [q])
        refine am_iconst 0 d_M_stored_70 (by decide) ?_
        refine am_iadd d_M_stored_71 ?_
        refine am_ti (b := nI (sv_vc T.vw s (k + 1))) (by rw [show sv_vc T.vw s (k + 1) = sv_vc T.vw s k from if_neg hne]; exact Int32.add_zero _) ?_
        refine am_istoren (L' := [some (.ref (g.2.2.1 + 6)), some (.int (nI s)), some (.int w), some (.int (nI (sv_vc T.vw s (k + 1)))), some (.int (nI k))]) d_M_stored_72 (by decide) rfl rfl ?_
        refine am_iinc (v := nI (k + 1)) (L' := [some (.ref (g.2.2.1 + 6)), some (.int (nI s)), some (.int w), some (.int (nI (sv_vc T.vw s (k + 1)))), some (.int (nI (k + 1)))]) d_M_stored_73 rfl (nI_1 k) (by decide) rfl rfl ?_
        refine am_goto (tgt := 45) d_M_stored_76 (by decide) ?_
        exact ih (m - 1) (by omega) (k + 1) (by omega)
      · have hne : (T.vw k).st = s := (nI_eq (by omega) (by omega)).mp hz
        refine am_iconst 1 d_M_stored_66 (by decide) ?_
        refine am_goto (tgt := 71) d_M_stored_67 (by decide) ?_
        refine am_iadd d_M_stored_71 ?_
        refine am_ti (b := nI (sv_vc T.vw s (k + 1))) (by rw [show sv_vc T.vw s (k + 1) = sv_vc T.vw s k + 1 from if_pos hne]; exact nI_1 _) ?_
        refine am_istoren (L' := [some (.ref (g.2.2.1 + 6)), some (.int (nI s)), some (.int w), some (.int (nI (sv_vc T.vw s (k + 1)))), some (.int (nI k))]) d_M_stored_72 (by decide) rfl rfl ?_
        refine am_iinc (v := nI (k + 1)) (L' := [some (.ref (g.2.2.1 + 6)), some (.int (nI s)), some (.int w), some (.int (nI (sv_vc T.vw s (k + 1)))), some (.int (nI (k + 1)))]) d_M_stored_73 rfl (nI_1 k) (by decide) rfl rfl ?_
        refine am_goto (tgt := 45) d_M_stored_76 (by decide) ?_
        exact ih (m - 1) (by omega) (k + 1) (by omega)
set_option maxHeartbeats 4000000 in
set_option maxRecDepth 100000 in
/-- M_stored -/
theorem e_stored {g : am_G} {d : Nat} {S : am_S} {T : sv_T} {th : Int32} {na : Nat} {ne nw rd : Nat → Int64} {mt : Nat → Int32} (hM : sv_N g S.1 T th na ne nw rd mt) {v w : Int32} : am_W g (d + 1) mm_M_stored (0, am_ent [.ref (g.2.2.1 + 6), .int v, .int w] 5, []) S (sv_E g S (q_stored T v w) (sv_cd 4 5 9)) := by
  obtain ⟨fl, fz, fN, fS, fa, fx, fe, fs, ⟨m0, m1, m2, m3, m4, m5, m6, m7, m8, m9, m10, m11, m12⟩, ⟨t1, t2, t3⟩, hw⟩ := id hM
  have h80 := hw.2.1
  have h12 := hw.1
  show am_W g (d + 1) mm_M_stored (0, [some (.ref (g.2.2.1 + 6)), some (.int v), some (.int w), none, none], []) S _
  refine am_aloadn d_M_stored_0 rfl ?_
  refine am_cut (F := (18, [some (.ref (g.2.2.1 + 6)), some (.int v), some (.int w), none, none], [.int (sv_if (0 ≤ v ∧ v < nI T.ns) 1 0), .ref (g.2.2.1 + 6)])) ?_ (fun key => ?_)
  · skip
    refine am_cut (F := (32, [some (.ref (g.2.2.1 + 6)), some (.int v), some (.int w), none, none], [.int (sv_if (0 ≤ w ∧ w < 3) 1 0), .int (sv_if (0 ≤ v ∧ v < nI T.ns) 1 0), .ref (g.2.2.1 + 6)])) ?_ (fun key => ?_)
    · skip
      refine am_cpsV [.int (sv_if (0 ≤ v ∧ v < nI T.ns) 1 0), .int (sv_if (0 ≤ w ∧ w < 3) 1 0)] [] d_M_stored_32 cV_M_90 rfl m0 rfl rfl (Nat.le_of_ble_eq_true rfl) (Nat.le_of_ble_eq_true rfl) (m_goesOf hM (fun b1 S1 hN1 hf1 => ?_) (fun b1 b2 S1 hN1 hf1 => ?_) (fun b1 b2 S1 hN1 hf1 => ?_))
      · show am_W g (d + 1) mm_M_stored (35, [some (.ref (g.2.2.1 + 6)), some (.int v), some (.int w), none, none], [.int 0]) S1 _
        refine am_ifne (tgt := 40) d_M_stored_35 (by decide) (fun hz => ?_) (fun hz => ?_)
        · exact absurd rfl hz
        · refine am_iconst 0 d_M_stored_38 (by decide) ?_
          rw [q_stored, if_neg (sv_b0 b1)]
          exact am_iret d_M_stored_39 rfl (sv_E.no hN1 hf1 (by decide))
      · show am_W g (d + 1) mm_M_stored (35, [some (.ref (g.2.2.1 + 6)), some (.int v), some (.int w), none, none], [.int 0]) S1 _
        refine am_ifne (tgt := 40) d_M_stored_35 (by decide) (fun hz => ?_) (fun hz => ?_)
        · exact absurd rfl hz
        · refine am_iconst 0 d_M_stored_38 (by decide) ?_
          rw [q_stored, if_pos (sv_b1 b1), sv_w3 (sv_b0 b2)]
          exact am_iret d_M_stored_39 rfl (sv_E.no hN1 hf1 (by decide))
      · skip
        show am_W g (d + 1) mm_M_stored (35, [some (.ref (g.2.2.1 + 6)), some (.int v), some (.int w), none, none], [.int 1]) S1 _
        refine am_ifne (tgt := 40) d_M_stored_35 (by decide) (fun hz => ?_) (fun hz => ?_)
        · skip
          obtain ⟨s, hs0, hvs⟩ := nI_of (Int32.not_lt.mpr (sv_b1 b1).1)
          have hc1 := sv_b1 b1
          rw [hvs] at hc1 ⊢
          have hs : s < T.ns := (nI_ltI hs0 (by omega)).mp hc1.2
          rw [q_stored, if_pos hc1, nI_clamp hs0]
          refine am_iconst 0 d_M_stored_40 (by decide) ?_
          refine am_istoren (L' := [some (.ref (g.2.2.1 + 6)), some (.int (nI s)), some (.int w), some (.int 0), none]) d_M_stored_41 (by decide) rfl rfl ?_
          refine am_iconst 0 d_M_stored_42 (by decide) ?_
          refine am_istore (L' := [some (.ref (g.2.2.1 + 6)), some (.int (nI s)), some (.int w), some (.int 0), some (.int 0)]) d_M_stored_43 (by decide) rfl rfl ?_
          refine e_stored_l hN1 hs (fun z => ?_) T.nv 0 (Nat.zero_add _)
          obtain ⟨flb, fzb, fNb, fSb, fab, fxb, feb, fsb, ⟨m0b, m1b, m2b, m3b, m4b, m5b, m6b, m7b, m8b, m9b, m10b, m11b, m12b⟩, ⟨t1b, t2b, t3b⟩, hwb⟩ := id hN1
          obtain ⟨u1, u2, u3⟩ := t1b s hs
          refine am_iloadn d_M_stored_79 rfl ?_
          refine am_ifne (tgt := 92) d_M_stored_80 (by decide) (fun h0 => ?_) (fun h0 => ?_)
          · refine am_iloadn d_M_stored_92 rfl ?_
            refine am_iconst 1 d_M_stored_93 (by decide) ?_
            refine am_icne (tgt := 106) d_M_stored_94 (by decide) (fun h1 => ?_) (fun h1 => ?_)
            · refine am_iloadn d_M_stored_106 rfl ?_
              rw [if_neg h0, if_neg h1, if_pos (sv_w2 (sv_b1 b2) h0 h1)]
              exact am_iret d_M_stored_107 rfl (sv_E.ok hN1 hf1)
            · refine am_aloadn d_M_stored_97 rfl ?_
              refine am_get d_M_stored_98 fl_M_13 m0b rfl ?_
              refine am_iloadn d_M_stored_101 rfl ?_
              refine am_ialdN (t := 0) (k := s) d_M_stored_102 rfl m2b (by omega) (by omega) ?_
              refine am_goto (tgt := 107) d_M_stored_103 (by decide) ?_
              refine am_ti (b := nI (T.sz s)) u2 ?_
              rw [if_neg h0, if_pos h1]
              exact am_iret d_M_stored_107 rfl (sv_E.ok hN1 hf1)
          · refine am_aloadn d_M_stored_83 rfl ?_
            refine am_get d_M_stored_84 fl_M_7 m0b rfl ?_
            refine am_iloadn d_M_stored_87 rfl ?_
            refine am_ialdN (t := 0) (k := s) d_M_stored_88 rfl m1b (by omega) (by omega) ?_
            refine am_goto (tgt := 107) d_M_stored_89 (by decide) ?_
            refine am_ti (b := T.ln s) u1 ?_
            rw [if_pos h0]
            exact am_iret d_M_stored_107 rfl (sv_E.ok hN1 hf1)
        · exact absurd hz (by decide)
    · refine am_iloadn d_M_stored_18 rfl ?_
      refine am_iflt (tgt := 31) d_M_stored_19 (by decide) (fun hb_3 => ?_) (fun hb_3 => ?_)
      · refine am_iconst 0 d_M_stored_31 (by decide) ?_
        rw [sv_if_n (fun q => Int32.not_lt.mpr q.1 hb_3)] at key
        exact key
      · refine am_iloadn d_M_stored_22 rfl ?_
        refine am_iconst 3 d_M_stored_23 (by decide) ?_
        refine am_icge (tgt := 31) d_M_stored_24 (by decide) (fun hb_4 => ?_) (fun hb_4 => ?_)
        · refine am_iconst 0 d_M_stored_31 (by decide) ?_
          rw [sv_if_n (fun q => Int32.not_le.mpr q.2 hb_4)] at key
          exact key
        · refine am_iconst 1 d_M_stored_27 (by decide) ?_
          refine am_goto (tgt := 32) d_M_stored_28 (by decide) ?_
          rw [sv_if_y ⟨Int32.not_lt.mp hb_3, Int32.not_le.mp hb_4⟩] at key
          exact key
  · refine am_iloadn d_M_stored_1 rfl ?_
    refine am_iflt (tgt := 17) d_M_stored_2 (by decide) (fun hb_1 => ?_) (fun hb_1 => ?_)
    · refine am_iconst 0 d_M_stored_17 (by decide) ?_
      rw [sv_if_n (fun q => Int32.not_lt.mpr q.1 hb_1)] at key
      exact key
    · refine am_iloadn d_M_stored_5 rfl ?_
      refine am_aloadn d_M_stored_6 rfl ?_
      refine am_get d_M_stored_7 fl_M_84 m0 rfl ?_
      refine am_icge (tgt := 17) d_M_stored_10 (by decide) (fun hb_2 => ?_) (fun hb_2 => ?_)
      · refine am_iconst 0 d_M_stored_17 (by decide) ?_
        rw [sv_if_n (fun q => Int32.not_le.mpr q.2 hb_2)] at key
        exact key
      · refine am_iconst 1 d_M_stored_13 (by decide) ?_
        refine am_goto (tgt := 18) d_M_stored_14 (by decide) ?_
        rw [sv_if_y ⟨Int32.not_lt.mp hb_1, Int32.not_le.mp hb_2⟩] at key
        exact key
set_option maxHeartbeats 4000000 in
set_option maxRecDepth 100000 in
/-- M_at -/
theorem e_at {g : am_G} {d : Nat} {S : am_S} {T : sv_T} {th : Int32} {na : Nat} {ne nw rd : Nat → Int64} {mt : Nat → Int32} (hM : sv_N g S.1 T th na ne nw rd mt) {v n : Int32} : am_W g (d + 3) mm_M_at (0, am_ent [.ref (g.2.2.1 + 6), .int v, .int n] 3, []) S (sv_EL g S (q_at T v n) (sv_cd 4 6 9)) := by
  obtain ⟨fl, fz, fN, fS, fa, fx, fe, fs, ⟨m0, m1, m2, m3, m4, m5, m6, m7, m8, m9, m10, m11, m12⟩, ⟨t1, t2, t3⟩, hw⟩ := id hM
  have h80 := hw.2.1
  have h12 := hw.1
  show am_W g (d + 3) mm_M_at (0, [some (.ref (g.2.2.1 + 6)), some (.int v), some (.int n)], []) S _
  refine am_aloadn d_M_at_0 rfl ?_
  refine am_cut (F := (27, [some (.ref (g.2.2.1 + 6)), some (.int v), some (.int n)], [.int (sv_if (sv_iv T v ∧ 0 ≤ n ∧ n < nI (T.va v).it) 0 1), .ref (g.2.2.1 + 6)])) ?_ (fun key => ?_)
  · refine am_put d_M_at_27 fp_M_48 m0 rfl rfl (Nat.le_of_ble_eq_true rfl) ?_
    obtain ⟨S_1, eS_1⟩ : ∃ z : am_S, z = (am_up S.1 (g.2.2.1 + 6) (.inr (3, [.int (sv_if (sv_iv T v ∧ 0 ≤ n ∧ n < nI (T.va v).it) 0 1), .int (nI T.ns), .ref (g.2.2.1 + 7), .ref (g.2.2.1 + 8), .ref (g.2.2.1 + 9), .int (nI T.nv), .ref (g.2.2.1 + 10), .ref (g.2.2.1 + 11), .ref (g.2.2.1 + 12), .ref (g.2.2.1 + 13), .ref (g.2.2.1 + 14), .ref (g.2.2.1 + 15), .ref (g.2.2.1 + 16), .int (nI na), .ref (g.2.2.1 + 17), .ref (g.2.2.1 + 18)])), S.2) := ⟨_, rfl⟩
    change am_W _ _ _ _ (am_up S.1 (g.2.2.1 + 6) (.inr (3, [.int (sv_if (sv_iv T v ∧ 0 ≤ n ∧ n < nI (T.va v).it) 0 1), .int (nI T.ns), .ref (g.2.2.1 + 7), .ref (g.2.2.1 + 8), .ref (g.2.2.1 + 9), .int (nI T.nv), .ref (g.2.2.1 + 10), .ref (g.2.2.1 + 11), .ref (g.2.2.1 + 12), .ref (g.2.2.1 + 13), .ref (g.2.2.1 + 14), .ref (g.2.2.1 + 15), .ref (g.2.2.1 + 16), .int (nI na), .ref (g.2.2.1 + 17), .ref (g.2.2.1 + 18)])), S.2) _
    rw [← eS_1]
    have h_2 : S_1.1 (g.2.2.1 + 7) = some (.inl (0, 12, .inl fl)) := by rw [eS_1]; exact (am_up_n (by omega)).trans m1
    have h_3 : S_1.1 (g.2.2.1 + 8) = some (.inl (0, 12, .inl fz)) := by rw [eS_1]; exact (am_up_n (by omega)).trans m2
    have h_4 : S_1.1 (g.2.2.1 + 9) = some (.inl (1, 3600, .inr (.inl fN))) := by rw [eS_1]; exact (am_up_n (by omega)).trans m3
    have h_5 : S_1.1 (g.2.2.1 + 10) = some (.inl (0, 80, .inl fS)) := by rw [eS_1]; exact (am_up_n (by omega)).trans m4
    have h_6 : S_1.1 (g.2.2.1 + 11) = some (.inl (0, 80, .inl fa)) := by rw [eS_1]; exact (am_up_n (by omega)).trans m5
    have h_7 : S_1.1 (g.2.2.1 + 12) = some (.inl (0, 80, .inl fx)) := by rw [eS_1]; exact (am_up_n (by omega)).trans m6
    have h_8 : S_1.1 (g.2.2.1 + 13) = some (.inl (0, 320, .inl fe)) := by rw [eS_1]; exact (am_up_n (by omega)).trans m7
    have h_9 : S_1.1 (g.2.2.1 + 14) = some (.inl (0, 320, .inl fs)) := by rw [eS_1]; exact (am_up_n (by omega)).trans m8
    have h_10 : S_1.1 (g.2.2.1 + 15) = some (.inl (1, 5, .inr (.inl ne))) := by rw [eS_1]; exact (am_up_n (by omega)).trans m9
    have h_11 : S_1.1 (g.2.2.1 + 16) = some (.inl (1, 5, .inr (.inl nw))) := by rw [eS_1]; exact (am_up_n (by omega)).trans m10
    have h_12 : S_1.1 (g.2.2.1 + 17) = some (.inl (1, 3000, .inr (.inl rd))) := by rw [eS_1]; exact (am_up_n (by omega)).trans m11
    have h_13 : S_1.1 (g.2.2.1 + 18) = some (.inl (2, 300, .inl mt)) := by rw [eS_1]; exact (am_up_n (by omega)).trans m12
    have hf_14 : sv_MF g S S_1 := by rw [eS_1]; exact sv_MF.rf.u (by omega) (by omega)
    have h_15 : S_1.1 (g.2.2.1 + 6) = some (.inr (3, [.int (sv_if (sv_iv T v ∧ 0 ≤ n ∧ n < nI (T.va v).it) 0 1), .int (nI T.ns), .ref (g.2.2.1 + 7), .ref (g.2.2.1 + 8), .ref (g.2.2.1 + 9), .int (nI T.nv), .ref (g.2.2.1 + 10), .ref (g.2.2.1 + 11), .ref (g.2.2.1 + 12), .ref (g.2.2.1 + 13), .ref (g.2.2.1 + 14), .ref (g.2.2.1 + 15), .ref (g.2.2.1 + 16), .int (nI na), .ref (g.2.2.1 + 17), .ref (g.2.2.1 + 18)])) := by rw [eS_1]; exact am_up_s
    have hnS_1 : S_1.2.1 = S.2.1 := by rw [eS_1]
    have hzS_1 : S_1.2.2 = S.2.2 := by rw [eS_1]
    have hN1 : sv_N g S_1.1 T (sv_if (sv_iv T v ∧ 0 ≤ n ∧ n < nI (T.va v).it) 0 1) na ne nw rd mt := ⟨fl, fz, fN, fS, fa, fx, fe, fs, ⟨h_15, h_2, h_3, h_4, h_5, h_6, h_7, h_8, h_9, h_10, h_11, h_12, h_13⟩, ⟨t1, t2, t3⟩, hw⟩
    have hf1 : sv_MF g S S_1 := hf_14
    refine am_aloadn d_M_at_30 rfl ?_
    refine am_get d_M_at_31 fl_M_48 h_15 rfl ?_
    refine am_ifle (tgt := 41) d_M_at_34 (by decide) (fun hz => ?_) (fun hz => ?_)
    · have hC := sv_z1 hz
      obtain ⟨j, hj, rfl⟩ := sv_iv_of hC.1 h80
      rw [sv_if_y hC] at hN1
      rw [sv_va_j hj h80] at hC
      obtain ⟨k, hk0, rfl⟩ := nI_of (Int32.not_lt.mpr hC.2.1)
      have hit := (hw.2.2.2 j hj).2.2.2.1
      have hk := (nI_ltI hk0 (by omega)).mp hC.2.2
      rw [q_at, sv_qv_j hj h80, if_pos hC.2, nI_clamp hk0]
      refine am_aloadn d_M_at_41 rfl ?_
      refine am_iloadn d_M_at_42 rfl ?_
      refine am_iloadn d_M_at_43 rfl ?_
      refine am_cpsV [.int (nI j), .int (nI k)] [] d_M_at_44 cV_M_128 rfl h_15 rfl rfl (Nat.le_of_ble_eq_true rfl) (Nat.le_of_ble_eq_true rfl) (m_item hN1 hj hk ?_)
      show am_W g (d + 3) mm_M_at (47, [some (.ref (g.2.2.1 + 6)), some (.int (nI j)), some (.int (nI k))], [.long (T.at (T.vw j) k)]) S_1 _
      exact am_lret d_M_at_47 rfl (sv_EL.ok hN1 hf1)
    · have hC := sv_z0 hz
      rw [sv_if_n hC] at hN1
      refine am_lconst 0 d_M_at_37 (by decide) ?_
      refine am_goto (tgt := 47) d_M_at_38 (by decide) ?_
      rw [q_at_no hC]
      exact am_lret d_M_at_47 rfl (sv_EL.no hN1 hf1 (by decide))
  · refine am_aloadn d_M_at_1 rfl ?_
    refine am_iloadn d_M_at_2 rfl ?_
    refine am_cpsV [.int v] [.ref (g.2.2.1 + 6)] d_M_at_3 cV_M_55 rfl m0 rfl rfl (Nat.le_of_ble_eq_true rfl) (Nat.le_of_ble_eq_true rfl) (m_isView hM ?_)
    show am_W g (d + 3) mm_M_at (6, [some (.ref (g.2.2.1 + 6)), some (.int v), some (.int n)], [.int (sv_if (sv_iv T v) 1 0), .ref (g.2.2.1 + 6)]) S _
    refine am_ifeq (tgt := 26) d_M_at_6 (by decide) (fun hc => ?_) (fun hc => ?_)
    · refine am_iconst 1 d_M_at_26 (by decide) ?_
      rw [sv_if_n (fun q => sv_b0 hc q.1)] at key
      exact key
    · refine am_iloadn d_M_at_9 rfl ?_
      refine am_iflt (tgt := 26) d_M_at_10 (by decide) (fun hd => ?_) (fun hd => ?_)
      · refine am_iconst 1 d_M_at_26 (by decide) ?_
        rw [sv_if_n (fun q => Int32.not_lt.mpr q.2.1 hd)] at key
        exact key
      · refine am_iloadn d_M_at_13 rfl ?_
        refine am_aloadn d_M_at_14 rfl ?_
        refine am_iloadn d_M_at_15 rfl ?_
        refine am_cpsV [.int v] [.int n, .ref (g.2.2.1 + 6)] d_M_at_16 cV_M_117 rfl m0 rfl rfl (Nat.le_of_ble_eq_true rfl) (Nat.le_of_ble_eq_true rfl) (m_itemsV hM (sv_b1 hc) ?_)
        show am_W g (d + 3) mm_M_at (19, [some (.ref (g.2.2.1 + 6)), some (.int v), some (.int n)], [.int (nI (T.va v).it), .int n, .ref (g.2.2.1 + 6)]) S _
        refine am_icge (tgt := 26) d_M_at_19 (by decide) (fun he => ?_) (fun he => ?_)
        · refine am_iconst 1 d_M_at_26 (by decide) ?_
          rw [sv_if_n (fun q => Int32.not_le.mpr q.2.2 he)] at key
          exact key
        · refine am_iconst 0 d_M_at_22 (by decide) ?_
          refine am_goto (tgt := 27) d_M_at_23 (by decide) ?_
          rw [sv_if_y (⟨sv_b1 hc, Int32.not_lt.mp hd, Int32.not_le.mp he⟩)] at key
          exact key
