set_option maxHeartbeats 4000000 in
set_option maxRecDepth 100000 in
/-- needAxis -/
theorem c_needAxis {g : am_G} {d : Nat} {S : am_S} {v st ex sp : Nat} {sa xs it : Int32} (hv : S.1 v = some (.inr (1, [.ref st, .int sa, .int xs, .int it, .ref ex, .ref sp]))) (ax : Int32) (hr1 : S.2.1 + 1 ≤ g.2.2.2.1) (hr2 : S.2.2 + 6 ≤ g.2.2.2.2.1) : am_W g d mm_X_needAxis (0, am_ent [.ref v, .int ax] 2, []) S (fun o S1 => ((ax < 0 ∨ xs ≤ ax) ∧ o = .inr S.2.1 ∧ S1 = am_thrown 4 S) ∨ (¬ (ax < 0 ∨ xs ≤ ax) ∧ o = .inl none ∧ S1 = S)) := by
  show am_W g d mm_X_needAxis (0, [some (.ref v), some (.int ax)], []) S _
  refine am_iloadn d_X_needAxis_0 rfl ?_
  refine am_iflt (tgt := 12) d_X_needAxis_1 (by decide) (fun hc_1 => ?_) (fun hc_1 => ?_)
  · exact am_thr d_X_needAxis_12 d_X_needAxis_15 d_X_needAxis_16 d_X_needAxis_18 d_X_needAxis_21 tw_X_96_246_100 rfl (Nat.le_of_ble_eq_true rfl) hr1 hr2 (by first | exact Or.inl ⟨by simp_all, rfl, rfl⟩ | exact Or.inr ⟨by simp_all, rfl, rfl⟩)
  · refine am_iloadn d_X_needAxis_4 rfl ?_
    refine am_aloadn d_X_needAxis_5 rfl ?_
    refine am_get d_X_needAxis_6 fl_X_104 hv rfl ?_
    refine am_iclt (tgt := 22) d_X_needAxis_9 (by decide) (fun hc_2 => ?_) (fun hc_2 => ?_)
    · exact am_vret d_X_needAxis_22 rfl (by first | exact Or.inl ⟨by simp_all, rfl, rfl⟩ | exact Or.inr ⟨by simp_all, rfl, rfl⟩)
    · exact am_thr d_X_needAxis_12 d_X_needAxis_15 d_X_needAxis_16 d_X_needAxis_18 d_X_needAxis_21 tw_X_96_246_100 rfl (Nat.le_of_ble_eq_true rfl) hr1 hr2 (by first | exact Or.inl ⟨by simp_all, rfl, rfl⟩ | exact Or.inr ⟨by simp_all, rfl, rfl⟩)
set_option maxHeartbeats 4000000 in
set_option maxRecDepth 100000 in
/-- needItem -/
theorem c_needItem {g : am_G} {d : Nat} {S : am_S} {v st ex sp : Nat} {sa xs it : Int32} (hv : S.1 v = some (.inr (1, [.ref st, .int sa, .int xs, .int it, .ref ex, .ref sp]))) (i : Int32) (hr1 : S.2.1 + 1 ≤ g.2.2.2.1) (hr2 : S.2.2 + 6 ≤ g.2.2.2.2.1) : am_W g d mm_X_needItem (0, am_ent [.ref v, .int i] 2, []) S (fun o S1 => ((i < 0 ∨ it ≤ i) ∧ o = .inr S.2.1 ∧ S1 = am_thrown 4 S) ∨ (¬ (i < 0 ∨ it ≤ i) ∧ o = .inl none ∧ S1 = S)) := by
  show am_W g d mm_X_needItem (0, [some (.ref v), some (.int i)], []) S _
  refine am_iloadn d_X_needItem_0 rfl ?_
  refine am_iflt (tgt := 12) d_X_needItem_1 (by decide) (fun hc_1 => ?_) (fun hc_1 => ?_)
  · exact am_thr d_X_needItem_12 d_X_needItem_15 d_X_needItem_16 d_X_needItem_18 d_X_needItem_21 tw_X_96_248_100 rfl (Nat.le_of_ble_eq_true rfl) hr1 hr2 (by first | exact Or.inl ⟨by simp_all, rfl, rfl⟩ | exact Or.inr ⟨by simp_all, rfl, rfl⟩)
  · refine am_iloadn d_X_needItem_4 rfl ?_
    refine am_aloadn d_X_needItem_5 rfl ?_
    refine am_get d_X_needItem_6 fl_X_139 hv rfl ?_
    refine am_iclt (tgt := 22) d_X_needItem_9 (by decide) (fun hc_2 => ?_) (fun hc_2 => ?_)
    · exact am_vret d_X_needItem_22 rfl (by first | exact Or.inl ⟨by simp_all, rfl, rfl⟩ | exact Or.inr ⟨by simp_all, rfl, rfl⟩)
    · exact am_thr d_X_needItem_12 d_X_needItem_15 d_X_needItem_16 d_X_needItem_18 d_X_needItem_21 tw_X_96_248_100 rfl (Nat.le_of_ble_eq_true rfl) hr1 hr2 (by first | exact Or.inl ⟨by simp_all, rfl, rfl⟩ | exact Or.inr ⟨by simp_all, rfl, rfl⟩)
set_option maxHeartbeats 4000000 in
set_option maxRecDepth 100000 in
/-- needLane -/
theorem c_needLane {g : am_G} {d : Nat} {S : am_S} (ln : Int32) (hr1 : S.2.1 + 1 ≤ g.2.2.2.1) (hr2 : S.2.2 + 6 ≤ g.2.2.2.2.1) : am_W g d mm_X_needLane (0, am_ent [.int ln] 1, []) S (fun o S1 => ((ln < 0 ∨ 3 < ln) ∧ o = .inr S.2.1 ∧ S1 = am_thrown 5 S) ∨ (¬ (ln < 0 ∨ 3 < ln) ∧ o = .inl none ∧ S1 = S)) := by
  show am_W g d mm_X_needLane (0, [some (.int ln)], []) S _
  refine am_iloadn d_X_needLane_0 rfl ?_
  refine am_iflt (tgt := 9) d_X_needLane_1 (by decide) (fun hc_1 => ?_) (fun hc_1 => ?_)
  · exact am_thr d_X_needLane_9 d_X_needLane_12 d_X_needLane_13 d_X_needLane_15 d_X_needLane_18 tw_X_44_250_48 rfl (Nat.le_of_ble_eq_true rfl) hr1 hr2 (by first | exact Or.inl ⟨by simp_all, rfl, rfl⟩ | exact Or.inr ⟨by simp_all, rfl, rfl⟩)
  · refine am_iloadn d_X_needLane_4 rfl ?_
    refine am_iconst 3 d_X_needLane_5 (by decide) ?_
    refine am_icle (tgt := 19) d_X_needLane_6 (by decide) (fun hc_2 => ?_) (fun hc_2 => ?_)
    · exact am_vret d_X_needLane_19 rfl (by first | exact Or.inl ⟨by simp_all, rfl, rfl⟩ | exact Or.inr ⟨by simp_all, rfl, rfl⟩)
    · exact am_thr d_X_needLane_9 d_X_needLane_12 d_X_needLane_13 d_X_needLane_15 d_X_needLane_18 tw_X_44_250_48 rfl (Nat.le_of_ble_eq_true rfl) hr1 hr2 (by first | exact Or.inl ⟨by simp_all, rfl, rfl⟩ | exact Or.inr ⟨by simp_all, rfl, rfl⟩)
set_option maxHeartbeats 4000000 in
set_option maxRecDepth 100000 in
/-- needFewNumbers -/
theorem c_needFew {g : am_G} {d : Nat} {S : am_S} (n : Int32) (hr1 : S.2.1 + 1 ≤ g.2.2.2.1) (hr2 : S.2.2 + 6 ≤ g.2.2.2.2.1) : am_W g d mm_X_needFewNumbers (0, am_ent [.int n] 1, []) S (fun o S1 => ((300 < n) ∧ o = .inr S.2.1 ∧ S1 = am_thrown 6 S) ∨ (¬ (300 < n) ∧ o = .inl none ∧ S1 = S)) := by
  show am_W g d mm_X_needFewNumbers (0, [some (.int n)], []) S _
  refine am_iloadn d_X_needFewNumbers_0 rfl ?_
  refine am_sipush 300 d_X_needFewNumbers_1 (by decide) ?_
  refine am_icle (tgt := 18) d_X_needFewNumbers_4 (by decide) (fun hc_1 => ?_) (fun hc_1 => ?_)
  · exact am_vret d_X_needFewNumbers_18 rfl (by first | exact Or.inl ⟨by simp_all, rfl, rfl⟩ | exact Or.inr ⟨by simp_all, rfl, rfl⟩)
  · exact am_thrW d_X_needFewNumbers_7 d_X_needFewNumbers_10 d_X_needFewNumbers_11 d_X_needFewNumbers_14 d_X_needFewNumbers_17 tw_X_111_263_115 rfl (Nat.le_of_ble_eq_true rfl) hr1 hr2 (by first | exact Or.inl ⟨by simp_all, rfl, rfl⟩ | exact Or.inr ⟨by simp_all, rfl, rfl⟩)
set_option maxHeartbeats 4000000 in
set_option maxRecDepth 100000 in
/-- needRoomForStore -/
theorem c_needRoom {g : am_G} {d : Nat} {S : am_S} {x B1 B2 B3 B4 B5 : Nat} {ns nv : Int32} (hx : S.1 x = some (.inr (2, [.ref B1, .ref B2, .int ns, .int nv, .ref B3, .ref B4, .ref B5]))) (hr1 : S.2.1 + 1 ≤ g.2.2.2.1) (hr2 : S.2.2 + 6 ≤ g.2.2.2.2.1) : am_W g d mm_X_needRoomForStore (0, am_ent [.ref x] 1, []) S (fun o S1 => ((12 ≤ ns ∨ 80 ≤ nv) ∧ o = .inr S.2.1 ∧ S1 = am_thrown 6 S) ∨ (¬ (12 ≤ ns ∨ 80 ≤ nv) ∧ o = .inl none ∧ S1 = S)) := by
  show am_W g d mm_X_needRoomForStore (0, [some (.ref x)], []) S _
  refine am_aloadn d_X_needRoomForStore_0 rfl ?_
  refine am_get d_X_needRoomForStore_1 fl_X_33 hx rfl ?_
  refine am_bipush 12 d_X_needRoomForStore_4 (by decide) ?_
  refine am_icge (tgt := 18) d_X_needRoomForStore_6 (by decide) (fun hc_1 => ?_) (fun hc_1 => ?_)
  · exact am_thrW d_X_needRoomForStore_18 d_X_needRoomForStore_21 d_X_needRoomForStore_22 d_X_needRoomForStore_25 d_X_needRoomForStore_28 tw_X_111_265_115 rfl (Nat.le_of_ble_eq_true rfl) hr1 hr2 (by first | exact Or.inl ⟨by simp_all, rfl, rfl⟩ | exact Or.inr ⟨by simp_all, rfl, rfl⟩)
  · refine am_aloadn d_X_needRoomForStore_9 rfl ?_
    refine am_get d_X_needRoomForStore_10 fl_X_37 hx rfl ?_
    refine am_bipush 80 d_X_needRoomForStore_13 (by decide) ?_
    refine am_iclt (tgt := 29) d_X_needRoomForStore_15 (by decide) (fun hc_2 => ?_) (fun hc_2 => ?_)
    · exact am_vret d_X_needRoomForStore_29 rfl (by first | exact Or.inl ⟨by simp_all, rfl, rfl⟩ | exact Or.inr ⟨by simp_all, rfl, rfl⟩)
    · exact am_thrW d_X_needRoomForStore_18 d_X_needRoomForStore_21 d_X_needRoomForStore_22 d_X_needRoomForStore_25 d_X_needRoomForStore_28 tw_X_111_265_115 rfl (Nat.le_of_ble_eq_true rfl) hr1 hr2 (by first | exact Or.inl ⟨by simp_all, rfl, rfl⟩ | exact Or.inr ⟨by simp_all, rfl, rfl⟩)
