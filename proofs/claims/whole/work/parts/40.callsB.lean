/-! the calls that make views -/
theorem am_tailQ {g : am_G} {d : Nat} {y : am_I} {pc : Nat} {L : List (Option Value)} {S S1 : am_S} {T : sv_T} {a : sv_A} {o : am_O} (hd : decode y.2.1 (pc + 3) = .ok (.ireturn, 1)) (hq : y.2.2.2.1 = some .int) (h : sv_O g S (sv_kp T a) o S1) : am_K g d y pc L [] (sv_O g S (sv_kp T a)) o S1 := by
  rcases h.2.2 with ⟨h1, h2⟩ | ⟨h1, x, h2, h3⟩
  · rw [h2] at h ⊢
    have e : (sv_kp T a).2.1 = .int (nI T.nv) := by
      unfold sv_kp at h1 ⊢
      split at h1
      · rename_i hc
        rw [if_pos hc]
      · exact absurd h1 (by show ¬ (6 : Nat) = 0; decide)
    rw [e] at h ⊢
    show am_W g (d + 1) y (pc + 3, L, [.int (nI T.nv)]) S1 _
    exact am_iret hd hq h
  · rw [h2] at h ⊢
    exact h
theorem sv_max {k l : Nat} (hk : k < 2 ^ 31) (hl : l < 2 ^ 31) : (if nI k < nI l then nI l else nI k) = nI (max k l) := by
  by_cases h : k < l
  · rw [if_pos (nI_lt h hl), Nat.max_eq_right (by omega)]
  · rw [if_neg (fun q => h ((nI_ltI hk hl).mp q)), Nat.max_eq_left (by omega)]
theorem sv_min {k l : Nat} (hk : k < 2 ^ 31) (hl : l < 2 ^ 31) : (if nI l < nI k then nI l else nI k) = nI (min k l) := by
  by_cases h : l < k
  · rw [if_pos (nI_lt h hk), Nat.min_eq_right (by omega)]
  · rw [if_neg (fun q => h ((nI_ltI hl hk).mp q)), Nat.min_eq_left (by omega)]
set_option maxHeartbeats 4000000 in
set_option maxRecDepth 100000 in
/-- X_slice -/
theorem x_slice {g : am_G} {d : Nat} {S : am_S} {lo : Nat} {T : sv_T} {as av : Nat → Nat} (hC : sv_C g lo S T as av) (hr : sv_R g S 16 700) {i x s t n : Int32} : am_W g (d + 3) mm_X_slice (0, am_ent [.ref g.2.2.1, .int i, .int x, .int s, .int t, .int n] 8, []) S (sv_O g S (q_slice T i x s t n)) := by
  obtain ⟨qs, qv, fp, fn, fm, ⟨hx, hq1, hq2, h3, h4, h5⟩, hs, hv, i1, i2, hB, hlo, hw⟩ := id hC
  have h80 := hw.2.1
  obtain ⟨hr1, hr2⟩ := hr
  show am_W g (d + 3) mm_X_slice (0, [some (.ref g.2.2.1), some (.int i), some (.int x), some (.int s), some (.int t), some (.int n), none, none], []) S _
  refine am_aloadn d_X_slice_0 rfl ?_
  refine am_iloadn d_X_slice_1 rfl ?_
  refine am_cpsV [.int i] [] d_X_slice_2 cV_X_71 rfl hx rfl rfl (Nat.le_of_ble_eq_true rfl) (Nat.le_of_ble_eq_true rfl) (c_viewP hC (i := i) (hr := ⟨by omega, by omega⟩) (fun hno => ?_) (fun j hj hi => ?_))
  · rw [q_slice, sv_qv_no hno]
    exact sv_O.thr0 hC (by decide)
  · skip
    show am_W g (d + 3) mm_X_slice (5, [some (.ref g.2.2.1), some (.int i), some (.int x), some (.int s), some (.int t), some (.int n), none, none], [.ref (av j)]) S _
    rw [hi, q_slice, sv_qv_j hj h80]
    show am_W g (d + 3) mm_X_slice (5, [some (.ref g.2.2.1), some (.int (nI j)), some (.int x), some (.int s), some (.int t), some (.int n), none, none], [.ref (av j)]) S _
    obtain ⟨b1, b2, b3, fe, fs, hV, hE, hS⟩ := hv j hj
    obtain ⟨w1, w2, w3, w4, w5, w6, w7⟩ := hw.2.2.2 j hj
    obtain ⟨s1, s2, s3, s4, s5⟩ := hs (T.vw j).st w1
    have hv1 := hV.1
    refine am_astore (L' := [some (.ref g.2.2.1), some (.int (nI j)), some (.int x), some (.int s), some (.int t), some (.int n), some (.ref (av j)), none]) d_X_slice_5 (by decide) rfl rfl ?_
    refine am_aload d_X_slice_7 rfl ?_
    refine am_iloadn d_X_slice_9 rfl ?_
    refine am_cpsS [.ref (av j), .int x] [] d_X_slice_10 cS_X_75 rfl rfl rfl (Nat.le_of_ble_eq_true rfl) (Nat.le_of_ble_eq_true rfl) (c_axisP hv1 w2 (x := x) ⟨by omega, by omega⟩ (fun hno => ?_) (fun k hk hxk => ?_))
    · rw [sv_qa_no hno]
      exact sv_O.thr0 hC (by decide)
    · skip
      rw [hxk, sv_qa_j hk w2]
      show am_W g (d + 3) mm_X_slice (13, [some (.ref g.2.2.1), some (.int (nI j)), some (.int (nI k)), some (.int s), some (.int t), some (.int n), some (.ref (av j)), none], []) S _
      refine am_aload d_X_slice_13 rfl ?_
      refine am_get d_X_slice_15 fl_X_79 hv1 rfl ?_
      refine am_iloadn d_X_slice_18 rfl ?_
      refine am_ialdN (t := 0) (k := k) d_X_slice_19 rfl hV.2.1 (by omega) (by omega) ?_
      refine am_ti (b := nI ((T.vw j).ex k)) (hE k hk) ?_
      refine am_iloadn d_X_slice_20 rfl ?_
      refine am_iload d_X_slice_21 rfl ?_
      refine am_iload d_X_slice_23 rfl ?_
      refine am_cpsS [.int (nI ((T.vw j).ex k)), .int s, .int t, .int n] [] d_X_slice_25 cS_X_82 rfl rfl rfl (Nat.le_of_ble_eq_true rfl) (Nat.le_of_ble_eq_true rfl) (c_needPart (nI ((T.vw j).ex k)) s t n (by omega) (by omega) (fun hno => ?_) (fun hok => ?_))
      · rw [sv_if_y hno]
        exact sv_O.thr0 hC (by decide)
      · skip
        show am_W g (d + 3) mm_X_slice (28, [some (.ref g.2.2.1), some (.int (nI j)), some (.int (nI k)), some (.int s), some (.int t), some (.int n), some (.ref (av j)), none], []) S _
        rw [sv_if_n hok]
        refine am_aload d_X_slice_28 rfl ?_
        refine am_cpsV [] [] d_X_slice_30 cV_X_86 rfl hv1 rfl rfl (Nat.le_of_ble_eq_true rfl) (Nat.le_of_ble_eq_true rfl) (c_twin hV (by omega) (by omega) (by omega) (by omega) (by omega) (fun S1 fe1 fs1 hT1 hz1 hf1 hI1 => ?_))
        have hn1 : S1.2.1 = S.2.1 + 3 := by rw [hz1]
        have hn2 : S1.2.2 = S.2.2 + 14 := by rw [hz1]
        have h_1 : S1.1 g.2.2.1 = some (.inr (2, [.ref (g.2.2.1 + 1), .ref (g.2.2.1 + 2), .int (nI T.ns), .int (nI T.nv), .ref (g.2.2.1 + 3), .ref (g.2.2.1 + 4), .ref (g.2.2.1 + 5)])) := (hf1 _ (by omega)).trans hx
        have h_2 : S1.1 (av j) = some (.inr (1, [.ref (as (T.vw j).st), .int ((T.vw j).sa), .int (nI (T.vw j).ax), .int (nI (T.vw j).it), .ref (av j + 1), .ref (av j + 2)])) := (hf1 _ (by omega)).trans hv1
        have h_3 : S1.1 (av j + 1) = some (.inl (0, 4, .inl fe)) := (hf1 _ (by omega)).trans hV.2.1
        have h_4 : S1.1 (av j + 2) = some (.inl (0, 4, .inl fs)) := (hf1 _ (by omega)).trans hV.2.2.1
        show am_W g (d + 3) mm_X_slice (33, [some (.ref g.2.2.1), some (.int (nI j)), some (.int (nI k)), some (.int s), some (.int t), some (.int n), some (.ref (av j)), none], [.ref S.2.1]) S1 _
        have hT11 := hT1.1
        have hT12 := hT1.2.1
        have hT13 := hT1.2.2.1
        refine am_astore (L' := [some (.ref g.2.2.1), some (.int (nI j)), some (.int (nI k)), some (.int s), some (.int t), some (.int n), some (.ref (av j)), some (.ref S.2.1)]) d_X_slice_33 (by decide) rfl rfl ?_
        refine am_aload d_X_slice_35 rfl ?_
        refine am_dup d_X_slice_37 rfl ?_
        refine am_get d_X_slice_38 fl_X_90 hT11 rfl ?_
        refine am_iloadn d_X_slice_41 rfl ?_
        refine am_aload d_X_slice_42 rfl ?_
        refine am_get d_X_slice_44 fl_X_93 h_2 rfl ?_
        refine am_iloadn d_X_slice_47 rfl ?_
        refine am_ialdN (t := 0) (k := k) d_X_slice_48 rfl h_4 (by omega) (by omega) ?_
        refine am_imul d_X_slice_49 ?_
        refine am_iadd d_X_slice_50 ?_
        refine am_put d_X_slice_51 fp_X_90 hT11 rfl rfl (Nat.le_of_ble_eq_true rfl) ?_
        obtain ⟨S_5, eS_5⟩ : ∃ z : am_S, z = (am_up S1.1 S.2.1 (.inr (1, [.ref (as (T.vw j).st), .int (((T.vw j).sa) + (s * (fs k))), .int (nI (T.vw j).ax), .int 0, .ref (S.2.1 + 1), .ref (S.2.1 + 2)])), S1.2) := ⟨_, rfl⟩
        change am_W _ _ _ _ (am_up S1.1 S.2.1 (.inr (1, [.ref (as (T.vw j).st), .int (((T.vw j).sa) + (s * (fs k))), .int (nI (T.vw j).ax), .int 0, .ref (S.2.1 + 1), .ref (S.2.1 + 2)])), S1.2) _
        rw [← eS_5]
        have h_6 : S_5.1 g.2.2.1 = some (.inr (2, [.ref (g.2.2.1 + 1), .ref (g.2.2.1 + 2), .int (nI T.ns), .int (nI T.nv), .ref (g.2.2.1 + 3), .ref (g.2.2.1 + 4), .ref (g.2.2.1 + 5)])) := by rw [eS_5]; exact (am_up_n (by omega)).trans h_1
        have h_7 : S_5.1 (av j) = some (.inr (1, [.ref (as (T.vw j).st), .int ((T.vw j).sa), .int (nI (T.vw j).ax), .int (nI (T.vw j).it), .ref (av j + 1), .ref (av j + 2)])) := by rw [eS_5]; exact (am_up_n (by omega)).trans h_2
        have h_8 : S_5.1 (av j + 1) = some (.inl (0, 4, .inl fe)) := by rw [eS_5]; exact (am_up_n (by omega)).trans h_3
        have h_9 : S_5.1 (av j + 2) = some (.inl (0, 4, .inl fs)) := by rw [eS_5]; exact (am_up_n (by omega)).trans h_4
        have h_10 : S_5.1 (S.2.1 + 1) = some (.inl (0, 4, .inl fe1)) := by rw [eS_5]; exact (am_up_n (by omega)).trans hT12
        have h_11 : S_5.1 (S.2.1 + 2) = some (.inl (0, 4, .inl fs1)) := by rw [eS_5]; exact (am_up_n (by omega)).trans hT13
        have hf_12 : ∀ q, q < S.2.1 → S_5.1 q = S.1 q := by rw [eS_5]; exact fun q hq => (am_up_n (by omega)).trans (hf1 q hq)
        have h_13 : S_5.1 S.2.1 = some (.inr (1, [.ref (as (T.vw j).st), .int (((T.vw j).sa) + (s * (fs k))), .int (nI (T.vw j).ax), .int 0, .ref (S.2.1 + 1), .ref (S.2.1 + 2)])) := by rw [eS_5]; exact am_up_s
        have hnS_5 : S_5.2.1 = S1.2.1 := by rw [eS_5]
        have hzS_5 : S_5.2.2 = S1.2.2 := by rw [eS_5]
        refine am_aload d_X_slice_54 rfl ?_
        refine am_get d_X_slice_56 fl_X_79 h_13 rfl ?_
        refine am_iloadn d_X_slice_59 rfl ?_
        refine am_iload d_X_slice_60 rfl ?_
        refine am_iastN (t := 0) d_X_slice_62 rfl h_10 (by omega) (by omega) ?_
        obtain ⟨S_14, eS_14⟩ : ∃ z : am_S, z = (am_up S_5.1 (S.2.1 + 1) (.inl (0, 4, .inl (upd fe1 k n))), S_5.2) := ⟨_, rfl⟩
        change am_W _ _ _ _ (am_up S_5.1 (S.2.1 + 1) (.inl (0, 4, .inl (upd fe1 k n))), S_5.2) _
        rw [← eS_14]
        have h_15 : S_14.1 g.2.2.1 = some (.inr (2, [.ref (g.2.2.1 + 1), .ref (g.2.2.1 + 2), .int (nI T.ns), .int (nI T.nv), .ref (g.2.2.1 + 3), .ref (g.2.2.1 + 4), .ref (g.2.2.1 + 5)])) := by rw [eS_14]; exact (am_up_n (by omega)).trans h_6
        have h_16 : S_14.1 (av j) = some (.inr (1, [.ref (as (T.vw j).st), .int ((T.vw j).sa), .int (nI (T.vw j).ax), .int (nI (T.vw j).it), .ref (av j + 1), .ref (av j + 2)])) := by rw [eS_14]; exact (am_up_n (by omega)).trans h_7
        have h_17 : S_14.1 (av j + 1) = some (.inl (0, 4, .inl fe)) := by rw [eS_14]; exact (am_up_n (by omega)).trans h_8
        have h_18 : S_14.1 (av j + 2) = some (.inl (0, 4, .inl fs)) := by rw [eS_14]; exact (am_up_n (by omega)).trans h_9
        have h_19 : S_14.1 S.2.1 = some (.inr (1, [.ref (as (T.vw j).st), .int (((T.vw j).sa) + (s * (fs k))), .int (nI (T.vw j).ax), .int 0, .ref (S.2.1 + 1), .ref (S.2.1 + 2)])) := by rw [eS_14]; exact (am_up_n (by omega)).trans h_13
        have h_20 : S_14.1 (S.2.1 + 2) = some (.inl (0, 4, .inl fs1)) := by rw [eS_14]; exact (am_up_n (by omega)).trans h_11
        have hf_21 : ∀ q, q < S.2.1 → S_14.1 q = S.1 q := by rw [eS_14]; exact fun q hq => (am_up_n (by omega)).trans (hf_12 q hq)
        have h_22 : S_14.1 (S.2.1 + 1) = some (.inl (0, 4, .inl (upd fe1 k n))) := by rw [eS_14]; exact am_up_s
        have hnS_14 : S_14.2.1 = S_5.2.1 := by rw [eS_14]
        have hzS_14 : S_14.2.2 = S_5.2.2 := by rw [eS_14]
        refine am_aload d_X_slice_63 rfl ?_
        refine am_get d_X_slice_65 fl_X_93 h_19 rfl ?_
        refine am_iloadn d_X_slice_68 rfl ?_
        refine am_iload d_X_slice_69 rfl ?_
        refine am_aload d_X_slice_71 rfl ?_
        refine am_get d_X_slice_73 fl_X_93 h_16 rfl ?_
        refine am_iloadn d_X_slice_76 rfl ?_
        refine am_ialdN (t := 0) (k := k) d_X_slice_77 rfl h_18 (by omega) (by omega) ?_
        refine am_imul d_X_slice_78 ?_
        refine am_iastN (t := 0) d_X_slice_79 rfl h_20 (by omega) (by omega) ?_
        obtain ⟨S_23, eS_23⟩ : ∃ z : am_S, z = (am_up S_14.1 (S.2.1 + 2) (.inl (0, 4, .inl (upd fs1 k (t * (fs k))))), S_14.2) := ⟨_, rfl⟩
        change am_W _ _ _ _ (am_up S_14.1 (S.2.1 + 2) (.inl (0, 4, .inl (upd fs1 k (t * (fs k))))), S_14.2) _
        rw [← eS_23]
        have h_24 : S_23.1 g.2.2.1 = some (.inr (2, [.ref (g.2.2.1 + 1), .ref (g.2.2.1 + 2), .int (nI T.ns), .int (nI T.nv), .ref (g.2.2.1 + 3), .ref (g.2.2.1 + 4), .ref (g.2.2.1 + 5)])) := by rw [eS_23]; exact (am_up_n (by omega)).trans h_15
        have h_25 : S_23.1 (av j) = some (.inr (1, [.ref (as (T.vw j).st), .int ((T.vw j).sa), .int (nI (T.vw j).ax), .int (nI (T.vw j).it), .ref (av j + 1), .ref (av j + 2)])) := by rw [eS_23]; exact (am_up_n (by omega)).trans h_16
        have h_26 : S_23.1 (av j + 1) = some (.inl (0, 4, .inl fe)) := by rw [eS_23]; exact (am_up_n (by omega)).trans h_17
        have h_27 : S_23.1 (av j + 2) = some (.inl (0, 4, .inl fs)) := by rw [eS_23]; exact (am_up_n (by omega)).trans h_18
        have h_28 : S_23.1 S.2.1 = some (.inr (1, [.ref (as (T.vw j).st), .int (((T.vw j).sa) + (s * (fs k))), .int (nI (T.vw j).ax), .int 0, .ref (S.2.1 + 1), .ref (S.2.1 + 2)])) := by rw [eS_23]; exact (am_up_n (by omega)).trans h_19
        have h_29 : S_23.1 (S.2.1 + 1) = some (.inl (0, 4, .inl (upd fe1 k n))) := by rw [eS_23]; exact (am_up_n (by omega)).trans h_22
        have hf_30 : ∀ q, q < S.2.1 → S_23.1 q = S.1 q := by rw [eS_23]; exact fun q hq => (am_up_n (by omega)).trans (hf_21 q hq)
        have h_31 : S_23.1 (S.2.1 + 2) = some (.inl (0, 4, .inl (upd fs1 k (t * (fs k))))) := by rw [eS_23]; exact am_up_s
        have hnS_23 : S_23.2.1 = S_14.2.1 := by rw [eS_23]
        have hzS_23 : S_23.2.2 = S_14.2.2 := by rw [eS_23]
        refine am_aloadn d_X_slice_80 rfl ?_
        refine am_aload d_X_slice_81 rfl ?_
        have hn0 : ¬ n < 0 := fun q => hok (Or.inl q)
        obtain ⟨N, hN, hnN⟩ := nI_of hn0
        have hVn : sv_V S_23.1 S.2.1 (as (T.vw j).st) ((T.vw j).sa + s * (T.vw j).sp k) (T.vw j).ax 0 (S.2.1 + 1) (S.2.1 + 2) (upd fe1 k n) (upd fs1 k (t * (T.vw j).sp k)) := ⟨by rw [← hS k hk]; exact h_28, h_29, by rw [← hS k hk]; exact h_31, by omega, w2⟩
        have hEn : ∀ i, i < (T.vw j).ax → (upd fe1 k n) i = nI (if i = k then n.toNatClampNeg else (T.vw j).ex i) := fun i hi => by
          by_cases e : i = k
          · rw [if_pos e, e, pk_us, hnN, nI_clamp hN]
          · rw [if_neg e, pk_un e, (hI1 i hi).1]; exact hE i hi
        have hSn : ∀ i, i < (T.vw j).ax → (upd fs1 k (t * (T.vw j).sp k)) i = (if i = k then t * (T.vw j).sp k else (T.vw j).sp i) := fun i hi => by
          by_cases e : i = k
          · rw [if_pos e, e, pk_us]
          · rw [if_neg e, pk_un e, (hI1 i hi).2]; exact hS i hi
        have hOn : sv_ok (fun i => if i = k then n.toNatClampNeg else (T.vw j).ex i) (T.vw j).ax := fun i hi => by
          show (if i = k then n.toNatClampNeg else _) < _
          by_cases e : i = k
          · rw [if_pos e, hnN, nI_clamp hN]; exact hN
          · rw [if_neg e]; exact w3 i hi
        exact am_cpsV [.ref S.2.1] [] d_X_slice_83 cV_X_67 rfl h_24 rfl rfl (Nat.le_of_ble_eq_true rfl) (Nat.le_of_ble_eq_true rfl) (am_mono (fun o S9 h9 => am_tailQ d_X_slice_86 rfl h9) (c_keepQ (S0 := S) (a := ((T.vw j).st, (T.vw j).sa + s * (T.vw j).sp k, (T.vw j).ax, fun i => if i = k then n.toNatClampNeg else (T.vw j).ex i, fun i => if i = k then t * (T.vw j).sp k else (T.vw j).sp i)) (hC.up (fun q hq => hf_30 q (by omega)) (by omega)) hVn hEn hSn hOn w1 (fun _ => sv_in_slice w7 hk w3 hok) (by omega) (by omega) ⟨by omega, by omega⟩ ⟨fun q h1 h2 => hf_30 q (by omega), by omega, by omega, by omega, by omega⟩))
set_option maxHeartbeats 4000000 in
set_option maxRecDepth 100000 in
/-- X_pick -/
theorem x_pick {g : am_G} {d : Nat} {S : am_S} {lo : Nat} {T : sv_T} {as av : Nat → Nat} (hC : sv_C g lo S T as av) (hr : sv_R g S 16 700) {i x n : Int32} : am_W g (d + 3) mm_X_pick (0, am_ent [.ref g.2.2.1, .int i, .int x, .int n] 6, []) S (sv_O g S (q_pick T i x n)) := by
  obtain ⟨qs, qv, fp, fn, fm, ⟨hx, hq1, hq2, h3, h4, h5⟩, hs, hv, i1, i2, hB, hlo, hw⟩ := id hC
  have h80 := hw.2.1
  obtain ⟨hr1, hr2⟩ := hr
  show am_W g (d + 3) mm_X_pick (0, [some (.ref g.2.2.1), some (.int i), some (.int x), some (.int n), none, none], []) S _
  refine am_aloadn d_X_pick_0 rfl ?_
  refine am_iloadn d_X_pick_1 rfl ?_
  refine am_cpsV [.int i] [] d_X_pick_2 cV_X_71 rfl hx rfl rfl (Nat.le_of_ble_eq_true rfl) (Nat.le_of_ble_eq_true rfl) (c_viewP hC (i := i) (hr := ⟨by omega, by omega⟩) (fun hno => ?_) (fun j hj hi => ?_))
  · rw [q_pick, sv_qv_no hno]
    exact sv_O.thr0 hC (by decide)
  · skip
    show am_W g (d + 3) mm_X_pick (5, [some (.ref g.2.2.1), some (.int i), some (.int x), some (.int n), none, none], [.ref (av j)]) S _
    rw [hi, q_pick, sv_qv_j hj h80]
    show am_W g (d + 3) mm_X_pick (5, [some (.ref g.2.2.1), some (.int (nI j)), some (.int x), some (.int n), none, none], [.ref (av j)]) S _
    obtain ⟨b1, b2, b3, fe, fs, hV, hE, hS⟩ := hv j hj
    obtain ⟨w1, w2, w3, w4, w5, w6, w7⟩ := hw.2.2.2 j hj
    obtain ⟨s1, s2, s3, s4, s5⟩ := hs (T.vw j).st w1
    have hv1 := hV.1
    refine am_astore (L' := [some (.ref g.2.2.1), some (.int (nI j)), some (.int x), some (.int n), some (.ref (av j)), none]) d_X_pick_5 (by decide) rfl rfl ?_
    refine am_aload d_X_pick_7 rfl ?_
    refine am_iloadn d_X_pick_9 rfl ?_
    refine am_cpsS [.ref (av j), .int x] [] d_X_pick_10 cS_X_75 rfl rfl rfl (Nat.le_of_ble_eq_true rfl) (Nat.le_of_ble_eq_true rfl) (c_axisP hv1 w2 (x := x) ⟨by omega, by omega⟩ (fun hno => ?_) (fun k hk hxk => ?_))
    · rw [sv_qa_no hno]
      exact sv_O.thr0 hC (by decide)
    · skip
      rw [hxk, sv_qa_j hk w2]
      show am_W g (d + 3) mm_X_pick (13, [some (.ref g.2.2.1), some (.int (nI j)), some (.int (nI k)), some (.int n), some (.ref (av j)), none], []) S _
      refine am_iloadn d_X_pick_13 rfl ?_
      refine am_iflt (tgt := 28) d_X_pick_14 (by decide) (fun hc => ?_) (fun hc => ?_)
      · rw [if_neg (fun h => Int32.not_lt.mpr h.1 hc)]
        exact am_thr d_X_pick_28 d_X_pick_31 d_X_pick_32 d_X_pick_34 d_X_pick_37 tw_X_96_98_100 rfl (Nat.le_of_ble_eq_true rfl) (by omega) (by omega) (sv_O.thr0 hC (by decide))
      · have hOk := w3 k hk
        refine am_iloadn d_X_pick_17 rfl ?_
        refine am_aload d_X_pick_18 rfl ?_
        refine am_get d_X_pick_20 fl_X_79 hv1 rfl ?_
        refine am_iloadn d_X_pick_23 rfl ?_
        refine am_ialdN (t := 0) (k := k) d_X_pick_24 rfl hV.2.1 (by omega) (by omega) ?_
        refine am_ti (b := nI ((T.vw j).ex k)) (hE k hk) ?_
        refine am_iclt (tgt := 38) d_X_pick_25 (by decide) (fun hd => ?_) (fun hd => ?_)
        · rw [if_pos ⟨Int32.not_lt.mp hc, hd⟩]
          obtain ⟨N, hN, hnN⟩ := nI_of hc
          have hNe : N < (T.vw j).ex k := by rw [hnN] at hd; exact (nI_ltI hN hOk).mp hd
          refine am_aload d_X_pick_38 rfl ?_
          refine am_cpsV [] [] d_X_pick_40 cV_X_86 rfl hv1 rfl rfl (Nat.le_of_ble_eq_true rfl) (Nat.le_of_ble_eq_true rfl) (c_twin hV (by omega) (by omega) (by omega) (by omega) (by omega) (fun S1 fe1 fs1 hT1 hz1 hf1 hI1 => ?_))
          have hn1 : S1.2.1 = S.2.1 + 3 := by rw [hz1]
          have hn2 : S1.2.2 = S.2.2 + 14 := by rw [hz1]
          have h_1 : S1.1 g.2.2.1 = some (.inr (2, [.ref (g.2.2.1 + 1), .ref (g.2.2.1 + 2), .int (nI T.ns), .int (nI T.nv), .ref (g.2.2.1 + 3), .ref (g.2.2.1 + 4), .ref (g.2.2.1 + 5)])) := (hf1 _ (by omega)).trans hx
          have h_2 : S1.1 (av j) = some (.inr (1, [.ref (as (T.vw j).st), .int ((T.vw j).sa), .int (nI (T.vw j).ax), .int (nI (T.vw j).it), .ref (av j + 1), .ref (av j + 2)])) := (hf1 _ (by omega)).trans hv1
          have h_3 : S1.1 (av j + 1) = some (.inl (0, 4, .inl fe)) := (hf1 _ (by omega)).trans hV.2.1
          have h_4 : S1.1 (av j + 2) = some (.inl (0, 4, .inl fs)) := (hf1 _ (by omega)).trans hV.2.2.1
          show am_W g (d + 3) mm_X_pick (43, [some (.ref g.2.2.1), some (.int (nI j)), some (.int (nI k)), some (.int n), some (.ref (av j)), none], [.ref S.2.1]) S1 _
          have hT11 := hT1.1
          have hT12 := hT1.2.1
          have hT13 := hT1.2.2.1
          refine am_astore (L' := [some (.ref g.2.2.1), some (.int (nI j)), some (.int (nI k)), some (.int n), some (.ref (av j)), some (.ref S.2.1)]) d_X_pick_43 (by decide) rfl rfl ?_
          refine am_aload d_X_pick_45 rfl ?_
          refine am_dup d_X_pick_47 rfl ?_
          refine am_get d_X_pick_48 fl_X_90 hT11 rfl ?_
          refine am_iloadn d_X_pick_51 rfl ?_
          refine am_aload d_X_pick_52 rfl ?_
          refine am_get d_X_pick_54 fl_X_93 h_2 rfl ?_
          refine am_iloadn d_X_pick_57 rfl ?_
          refine am_ialdN (t := 0) (k := k) d_X_pick_58 rfl h_4 (by omega) (by omega) ?_
          refine am_imul d_X_pick_59 ?_
          refine am_iadd d_X_pick_60 ?_
          refine am_put d_X_pick_61 fp_X_90 hT11 rfl rfl (Nat.le_of_ble_eq_true rfl) ?_
          obtain ⟨S_5, eS_5⟩ : ∃ z : am_S, z = (am_up S1.1 S.2.1 (.inr (1, [.ref (as (T.vw j).st), .int (((T.vw j).sa) + (n * (fs k))), .int (nI (T.vw j).ax), .int 0, .ref (S.2.1 + 1), .ref (S.2.1 + 2)])), S1.2) := ⟨_, rfl⟩
          change am_W _ _ _ _ (am_up S1.1 S.2.1 (.inr (1, [.ref (as (T.vw j).st), .int (((T.vw j).sa) + (n * (fs k))), .int (nI (T.vw j).ax), .int 0, .ref (S.2.1 + 1), .ref (S.2.1 + 2)])), S1.2) _
          rw [← eS_5]
          have h_6 : S_5.1 g.2.2.1 = some (.inr (2, [.ref (g.2.2.1 + 1), .ref (g.2.2.1 + 2), .int (nI T.ns), .int (nI T.nv), .ref (g.2.2.1 + 3), .ref (g.2.2.1 + 4), .ref (g.2.2.1 + 5)])) := by rw [eS_5]; exact (am_up_n (by omega)).trans h_1
          have h_7 : S_5.1 (av j) = some (.inr (1, [.ref (as (T.vw j).st), .int ((T.vw j).sa), .int (nI (T.vw j).ax), .int (nI (T.vw j).it), .ref (av j + 1), .ref (av j + 2)])) := by rw [eS_5]; exact (am_up_n (by omega)).trans h_2
          have h_8 : S_5.1 (av j + 1) = some (.inl (0, 4, .inl fe)) := by rw [eS_5]; exact (am_up_n (by omega)).trans h_3
          have h_9 : S_5.1 (av j + 2) = some (.inl (0, 4, .inl fs)) := by rw [eS_5]; exact (am_up_n (by omega)).trans h_4
          have h_10 : S_5.1 (S.2.1 + 1) = some (.inl (0, 4, .inl fe1)) := by rw [eS_5]; exact (am_up_n (by omega)).trans hT12
          have h_11 : S_5.1 (S.2.1 + 2) = some (.inl (0, 4, .inl fs1)) := by rw [eS_5]; exact (am_up_n (by omega)).trans hT13
          have hf_12 : ∀ q, q < S.2.1 → S_5.1 q = S.1 q := by rw [eS_5]; exact fun q hq => (am_up_n (by omega)).trans (hf1 q hq)
          have h_13 : S_5.1 S.2.1 = some (.inr (1, [.ref (as (T.vw j).st), .int (((T.vw j).sa) + (n * (fs k))), .int (nI (T.vw j).ax), .int 0, .ref (S.2.1 + 1), .ref (S.2.1 + 2)])) := by rw [eS_5]; exact am_up_s
          have hnS_5 : S_5.2.1 = S1.2.1 := by rw [eS_5]
          have hzS_5 : S_5.2.2 = S1.2.2 := by rw [eS_5]
          refine am_aload d_X_pick_64 rfl ?_
          refine am_iloadn d_X_pick_66 rfl ?_
          obtain ⟨m, hm⟩ : ∃ m, (T.vw j).ax = m + 1 := ⟨(T.vw j).ax - 1, by omega⟩
          have hVm : sv_V S_5.1 S.2.1 (as (T.vw j).st) ((T.vw j).sa + n * fs k) (m + 1) 0 (S.2.1 + 1) (S.2.1 + 2) fe1 fs1 := by rw [← hm]; exact ⟨h_13, h_10, h_11, by omega, w2⟩
          refine am_cpsV [.int (nI k)] [] d_X_pick_67 cV_X_101 rfl h_13 rfl rfl (Nat.le_of_ble_eq_true rfl) (Nat.le_of_ble_eq_true rfl) (c_remove hVm (j := k) (by omega) (fun S5 fe5 fs5 hT5 hf5 hI5 => ?_))
          have hz5 := congrArg Prod.fst hf5.1
          have hz6 := congrArg Prod.snd hf5.1
          have h_14 : S5.1 g.2.2.1 = some (.inr (2, [.ref (g.2.2.1 + 1), .ref (g.2.2.1 + 2), .int (nI T.ns), .int (nI T.nv), .ref (g.2.2.1 + 3), .ref (g.2.2.1 + 4), .ref (g.2.2.1 + 5)])) := (hf5.2 _ (by omega) (by omega) (by omega)).trans h_6
          have h_15 : S5.1 (av j) = some (.inr (1, [.ref (as (T.vw j).st), .int ((T.vw j).sa), .int (nI (T.vw j).ax), .int (nI (T.vw j).it), .ref (av j + 1), .ref (av j + 2)])) := (hf5.2 _ (by omega) (by omega) (by omega)).trans h_7
          have h_16 : S5.1 (av j + 1) = some (.inl (0, 4, .inl fe)) := (hf5.2 _ (by omega) (by omega) (by omega)).trans h_8
          have h_17 : S5.1 (av j + 2) = some (.inl (0, 4, .inl fs)) := (hf5.2 _ (by omega) (by omega) (by omega)).trans h_9
          have hf_18 : ∀ q, q < S.2.1 → S5.1 q = S.1 q := fun q hq => (hf5.2 q (by omega) (by omega) (by omega)).trans (hf_12 q hq)
          show am_W g (d + 3) mm_X_pick (70, [some (.ref g.2.2.1), some (.int (nI j)), some (.int (nI k)), some (.int n), some (.ref (av j)), some (.ref S.2.1)], []) S5 _
          refine am_aloadn d_X_pick_70 rfl ?_
          refine am_aload d_X_pick_71 rfl ?_
          have hm1 : (T.vw j).ax - 1 = m := by omega
          have hVn : sv_V S5.1 S.2.1 (as (T.vw j).st) ((T.vw j).sa + n * (T.vw j).sp k) ((T.vw j).ax - 1) 0 (S.2.1 + 1) (S.2.1 + 2) fe5 fs5 := by rw [hm1, ← hS k hk]; exact hT5
          have hEn : ∀ i, i < (T.vw j).ax - 1 → fe5 i = nI (sv_rem (T.vw j).ex k i) := fun i hi => by
            rw [(hI5 i (by omega)).1]; simp only [sv_rem]; split
            · rw [(hI1 i (by omega)).1]; exact hE i (by omega)
            · rw [(hI1 (i + 1) (by omega)).1]; exact hE (i + 1) (by omega)
          have hSn : ∀ i, i < (T.vw j).ax - 1 → fs5 i = sv_rem (T.vw j).sp k i := fun i hi => by
            rw [(hI5 i (by omega)).2]; simp only [sv_rem]; split
            · rw [(hI1 i (by omega)).2]; exact hS i (by omega)
            · rw [(hI1 (i + 1) (by omega)).2]; exact hS (i + 1) (by omega)
          have hOn : sv_ok (sv_rem (T.vw j).ex k) ((T.vw j).ax - 1) := fun i hi => by simp only [sv_rem]; split <;> exact w3 _ (by omega)
          exact am_cpsV [.ref S.2.1] [] d_X_pick_73 cV_X_67 rfl h_14 rfl rfl (Nat.le_of_ble_eq_true rfl) (Nat.le_of_ble_eq_true rfl) (am_mono (fun o S9 h9 => am_tailQ d_X_pick_76 rfl h9) (c_keepQ (S0 := S) (a := ((T.vw j).st, (T.vw j).sa + n * (T.vw j).sp k, (T.vw j).ax - 1, sv_rem (T.vw j).ex k, sv_rem (T.vw j).sp k)) (hC.up (fun q hq => hf_18 q (by omega)) (by omega)) hVn hEn hSn hOn w1 (fun _ => by rw [hnN]; exact sv_in_pick w7 hk hNe) (by omega) (by omega) ⟨by omega, by omega⟩ ⟨fun q h1 h2 => hf_18 q (by omega), by omega, by omega, by omega, by omega⟩))
        · rw [if_neg (fun h => hd h.2)]
          exact am_thr d_X_pick_28 d_X_pick_31 d_X_pick_32 d_X_pick_34 d_X_pick_37 tw_X_96_98_100 rfl (Nat.le_of_ble_eq_true rfl) (by omega) (by omega) (sv_O.thr0 hC (by decide))
set_option maxHeartbeats 4000000 in
set_option maxRecDepth 100000 in
/-- X_turn -/
theorem x_turn {g : am_G} {d : Nat} {S : am_S} {lo : Nat} {T : sv_T} {as av : Nat → Nat} (hC : sv_C g lo S T as av) (hr : sv_R g S 16 700) {i x y : Int32} : am_W g (d + 3) mm_X_turn (0, am_ent [.ref g.2.2.1, .int i, .int x, .int y] 6, []) S (sv_O g S (q_turn T i x y)) := by
  obtain ⟨qs, qv, fp, fn, fm, ⟨hx, hq1, hq2, h3, h4, h5⟩, hs, hv, i1, i2, hB, hlo, hw⟩ := id hC
  have h80 := hw.2.1
  obtain ⟨hr1, hr2⟩ := hr
  show am_W g (d + 3) mm_X_turn (0, [some (.ref g.2.2.1), some (.int i), some (.int x), some (.int y), none, none], []) S _
  refine am_aloadn d_X_turn_0 rfl ?_
  refine am_iloadn d_X_turn_1 rfl ?_
  refine am_cpsV [.int i] [] d_X_turn_2 cV_X_71 rfl hx rfl rfl (Nat.le_of_ble_eq_true rfl) (Nat.le_of_ble_eq_true rfl) (c_viewP hC (i := i) (hr := ⟨by omega, by omega⟩) (fun hno => ?_) (fun j hj hi => ?_))
  · rw [q_turn, sv_qv_no hno]
    exact sv_O.thr0 hC (by decide)
  · skip
    show am_W g (d + 3) mm_X_turn (5, [some (.ref g.2.2.1), some (.int i), some (.int x), some (.int y), none, none], [.ref (av j)]) S _
    rw [hi, q_turn, sv_qv_j hj h80]
    show am_W g (d + 3) mm_X_turn (5, [some (.ref g.2.2.1), some (.int (nI j)), some (.int x), some (.int y), none, none], [.ref (av j)]) S _
    obtain ⟨b1, b2, b3, fe, fs, hV, hE, hS⟩ := hv j hj
    obtain ⟨w1, w2, w3, w4, w5, w6, w7⟩ := hw.2.2.2 j hj
    obtain ⟨s1, s2, s3, s4, s5⟩ := hs (T.vw j).st w1
    have hv1 := hV.1
    refine am_astore (L' := [some (.ref g.2.2.1), some (.int (nI j)), some (.int x), some (.int y), some (.ref (av j)), none]) d_X_turn_5 (by decide) rfl rfl ?_
    refine am_aload d_X_turn_7 rfl ?_
    refine am_iloadn d_X_turn_9 rfl ?_
    refine am_cpsS [.ref (av j), .int x] [] d_X_turn_10 cS_X_75 rfl rfl rfl (Nat.le_of_ble_eq_true rfl) (Nat.le_of_ble_eq_true rfl) (c_axisP hv1 w2 (x := x) ⟨by omega, by omega⟩ (fun hno => ?_) (fun k hk hxk => ?_))
    · rw [sv_qa_no hno]
      exact sv_O.thr0 hC (by decide)
    · skip
      rw [hxk, sv_qa_j hk w2]
      show am_W g (d + 3) mm_X_turn (13, [some (.ref g.2.2.1), some (.int (nI j)), some (.int (nI k)), some (.int y), some (.ref (av j)), none], []) S _
      refine am_aload d_X_turn_13 rfl ?_
      refine am_iloadn d_X_turn_15 rfl ?_
      refine am_cpsS [.ref (av j), .int y] [] d_X_turn_16 cS_X_75 rfl rfl rfl (Nat.le_of_ble_eq_true rfl) (Nat.le_of_ble_eq_true rfl) (c_axisP hv1 w2 (x := y) ⟨by omega, by omega⟩ (fun hno => ?_) (fun l hl hxl => ?_))
      · rw [sv_qa_no hno]
        exact sv_O.thr0 hC (by decide)
      · skip
        rw [hxl, sv_qa_j hl w2]
        show am_W g (d + 3) mm_X_turn (19, [some (.ref g.2.2.1), some (.int (nI j)), some (.int (nI k)), some (.int (nI l)), some (.ref (av j)), none], []) S _
        refine am_aload d_X_turn_19 rfl ?_
        refine am_cpsV [] [] d_X_turn_21 cV_X_86 rfl hv1 rfl rfl (Nat.le_of_ble_eq_true rfl) (Nat.le_of_ble_eq_true rfl) (c_twin hV (by omega) (by omega) (by omega) (by omega) (by omega) (fun S1 fe1 fs1 hT1 hz1 hf1 hI1 => ?_))
        have hn1 : S1.2.1 = S.2.1 + 3 := by rw [hz1]
        have hn2 : S1.2.2 = S.2.2 + 14 := by rw [hz1]
        have h_1 : S1.1 g.2.2.1 = some (.inr (2, [.ref (g.2.2.1 + 1), .ref (g.2.2.1 + 2), .int (nI T.ns), .int (nI T.nv), .ref (g.2.2.1 + 3), .ref (g.2.2.1 + 4), .ref (g.2.2.1 + 5)])) := (hf1 _ (by omega)).trans hx
        have h_2 : S1.1 (av j) = some (.inr (1, [.ref (as (T.vw j).st), .int ((T.vw j).sa), .int (nI (T.vw j).ax), .int (nI (T.vw j).it), .ref (av j + 1), .ref (av j + 2)])) := (hf1 _ (by omega)).trans hv1
        have h_3 : S1.1 (av j + 1) = some (.inl (0, 4, .inl fe)) := (hf1 _ (by omega)).trans hV.2.1
        have h_4 : S1.1 (av j + 2) = some (.inl (0, 4, .inl fs)) := (hf1 _ (by omega)).trans hV.2.2.1
        show am_W g (d + 3) mm_X_turn (24, [some (.ref g.2.2.1), some (.int (nI j)), some (.int (nI k)), some (.int (nI l)), some (.ref (av j)), none], [.ref S.2.1]) S1 _
        have hT11 := hT1.1
        have hT12 := hT1.2.1
        have hT13 := hT1.2.2.1
        refine am_astore (L' := [some (.ref g.2.2.1), some (.int (nI j)), some (.int (nI k)), some (.int (nI l)), some (.ref (av j)), some (.ref S.2.1)]) d_X_turn_24 (by decide) rfl rfl ?_
        refine am_aload d_X_turn_26 rfl ?_
        refine am_get d_X_turn_28 fl_X_79 hT11 rfl ?_
        refine am_iloadn d_X_turn_31 rfl ?_
        refine am_aload d_X_turn_32 rfl ?_
        refine am_get d_X_turn_34 fl_X_79 h_2 rfl ?_
        refine am_iloadn d_X_turn_37 rfl ?_
        refine am_ialdN (t := 0) (k := l) d_X_turn_38 rfl h_3 (by omega) (by omega) ?_
        refine am_iastN (t := 0) d_X_turn_39 rfl hT12 (by omega) (by omega) ?_
        obtain ⟨S_5, eS_5⟩ : ∃ z : am_S, z = (am_up S1.1 (S.2.1 + 1) (.inl (0, 4, .inl (upd fe1 k (fe l)))), S1.2) := ⟨_, rfl⟩
        change am_W _ _ _ _ (am_up S1.1 (S.2.1 + 1) (.inl (0, 4, .inl (upd fe1 k (fe l)))), S1.2) _
        rw [← eS_5]
        have h_6 : S_5.1 g.2.2.1 = some (.inr (2, [.ref (g.2.2.1 + 1), .ref (g.2.2.1 + 2), .int (nI T.ns), .int (nI T.nv), .ref (g.2.2.1 + 3), .ref (g.2.2.1 + 4), .ref (g.2.2.1 + 5)])) := by rw [eS_5]; exact (am_up_n (by omega)).trans h_1
        have h_7 : S_5.1 (av j) = some (.inr (1, [.ref (as (T.vw j).st), .int ((T.vw j).sa), .int (nI (T.vw j).ax), .int (nI (T.vw j).it), .ref (av j + 1), .ref (av j + 2)])) := by rw [eS_5]; exact (am_up_n (by omega)).trans h_2
        have h_8 : S_5.1 (av j + 1) = some (.inl (0, 4, .inl fe)) := by rw [eS_5]; exact (am_up_n (by omega)).trans h_3
        have h_9 : S_5.1 (av j + 2) = some (.inl (0, 4, .inl fs)) := by rw [eS_5]; exact (am_up_n (by omega)).trans h_4
        have h_10 : S_5.1 S.2.1 = some (.inr (1, [.ref (as (T.vw j).st), .int ((T.vw j).sa), .int (nI (T.vw j).ax), .int 0, .ref (S.2.1 + 1), .ref (S.2.1 + 2)])) := by rw [eS_5]; exact (am_up_n (by omega)).trans hT11
        have h_11 : S_5.1 (S.2.1 + 2) = some (.inl (0, 4, .inl fs1)) := by rw [eS_5]; exact (am_up_n (by omega)).trans hT13
        have hf_12 : ∀ q, q < S.2.1 → S_5.1 q = S.1 q := by rw [eS_5]; exact fun q hq => (am_up_n (by omega)).trans (hf1 q hq)
        have h_13 : S_5.1 (S.2.1 + 1) = some (.inl (0, 4, .inl (upd fe1 k (fe l)))) := by rw [eS_5]; exact am_up_s
        have hnS_5 : S_5.2.1 = S1.2.1 := by rw [eS_5]
        have hzS_5 : S_5.2.2 = S1.2.2 := by rw [eS_5]
        refine am_aload d_X_turn_40 rfl ?_
        refine am_get d_X_turn_42 fl_X_93 h_10 rfl ?_
        refine am_iloadn d_X_turn_45 rfl ?_
        refine am_aload d_X_turn_46 rfl ?_
        refine am_get d_X_turn_48 fl_X_93 h_7 rfl ?_
        refine am_iloadn d_X_turn_51 rfl ?_
        refine am_ialdN (t := 0) (k := l) d_X_turn_52 rfl h_9 (by omega) (by omega) ?_
        refine am_iastN (t := 0) d_X_turn_53 rfl h_11 (by omega) (by omega) ?_
        obtain ⟨S_14, eS_14⟩ : ∃ z : am_S, z = (am_up S_5.1 (S.2.1 + 2) (.inl (0, 4, .inl (upd fs1 k (fs l)))), S_5.2) := ⟨_, rfl⟩
        change am_W _ _ _ _ (am_up S_5.1 (S.2.1 + 2) (.inl (0, 4, .inl (upd fs1 k (fs l)))), S_5.2) _
        rw [← eS_14]
        have h_15 : S_14.1 g.2.2.1 = some (.inr (2, [.ref (g.2.2.1 + 1), .ref (g.2.2.1 + 2), .int (nI T.ns), .int (nI T.nv), .ref (g.2.2.1 + 3), .ref (g.2.2.1 + 4), .ref (g.2.2.1 + 5)])) := by rw [eS_14]; exact (am_up_n (by omega)).trans h_6
        have h_16 : S_14.1 (av j) = some (.inr (1, [.ref (as (T.vw j).st), .int ((T.vw j).sa), .int (nI (T.vw j).ax), .int (nI (T.vw j).it), .ref (av j + 1), .ref (av j + 2)])) := by rw [eS_14]; exact (am_up_n (by omega)).trans h_7
        have h_17 : S_14.1 (av j + 1) = some (.inl (0, 4, .inl fe)) := by rw [eS_14]; exact (am_up_n (by omega)).trans h_8
        have h_18 : S_14.1 (av j + 2) = some (.inl (0, 4, .inl fs)) := by rw [eS_14]; exact (am_up_n (by omega)).trans h_9
        have h_19 : S_14.1 S.2.1 = some (.inr (1, [.ref (as (T.vw j).st), .int ((T.vw j).sa), .int (nI (T.vw j).ax), .int 0, .ref (S.2.1 + 1), .ref (S.2.1 + 2)])) := by rw [eS_14]; exact (am_up_n (by omega)).trans h_10
        have h_20 : S_14.1 (S.2.1 + 1) = some (.inl (0, 4, .inl (upd fe1 k (fe l)))) := by rw [eS_14]; exact (am_up_n (by omega)).trans h_13
        have hf_21 : ∀ q, q < S.2.1 → S_14.1 q = S.1 q := by rw [eS_14]; exact fun q hq => (am_up_n (by omega)).trans (hf_12 q hq)
        have h_22 : S_14.1 (S.2.1 + 2) = some (.inl (0, 4, .inl (upd fs1 k (fs l)))) := by rw [eS_14]; exact am_up_s
        have hnS_14 : S_14.2.1 = S_5.2.1 := by rw [eS_14]
        have hzS_14 : S_14.2.2 = S_5.2.2 := by rw [eS_14]
        refine am_aload d_X_turn_54 rfl ?_
        refine am_get d_X_turn_56 fl_X_79 h_19 rfl ?_
        refine am_iloadn d_X_turn_59 rfl ?_
        refine am_aload d_X_turn_60 rfl ?_
        refine am_get d_X_turn_62 fl_X_79 h_16 rfl ?_
        refine am_iloadn d_X_turn_65 rfl ?_
        refine am_ialdN (t := 0) (k := k) d_X_turn_66 rfl h_17 (by omega) (by omega) ?_
        refine am_iastN (t := 0) d_X_turn_67 rfl h_20 (by omega) (by omega) ?_
        obtain ⟨S_23, eS_23⟩ : ∃ z : am_S, z = (am_up S_14.1 (S.2.1 + 1) (.inl (0, 4, .inl (upd (upd fe1 k (fe l)) l (fe k)))), S_14.2) := ⟨_, rfl⟩
        change am_W _ _ _ _ (am_up S_14.1 (S.2.1 + 1) (.inl (0, 4, .inl (upd (upd fe1 k (fe l)) l (fe k)))), S_14.2) _
        rw [← eS_23]
        have h_24 : S_23.1 g.2.2.1 = some (.inr (2, [.ref (g.2.2.1 + 1), .ref (g.2.2.1 + 2), .int (nI T.ns), .int (nI T.nv), .ref (g.2.2.1 + 3), .ref (g.2.2.1 + 4), .ref (g.2.2.1 + 5)])) := by rw [eS_23]; exact (am_up_n (by omega)).trans h_15
        have h_25 : S_23.1 (av j) = some (.inr (1, [.ref (as (T.vw j).st), .int ((T.vw j).sa), .int (nI (T.vw j).ax), .int (nI (T.vw j).it), .ref (av j + 1), .ref (av j + 2)])) := by rw [eS_23]; exact (am_up_n (by omega)).trans h_16
        have h_26 : S_23.1 (av j + 1) = some (.inl (0, 4, .inl fe)) := by rw [eS_23]; exact (am_up_n (by omega)).trans h_17
        have h_27 : S_23.1 (av j + 2) = some (.inl (0, 4, .inl fs)) := by rw [eS_23]; exact (am_up_n (by omega)).trans h_18
        have h_28 : S_23.1 S.2.1 = some (.inr (1, [.ref (as (T.vw j).st), .int ((T.vw j).sa), .int (nI (T.vw j).ax), .int 0, .ref (S.2.1 + 1), .ref (S.2.1 + 2)])) := by rw [eS_23]; exact (am_up_n (by omega)).trans h_19
        have h_29 : S_23.1 (S.2.1 + 2) = some (.inl (0, 4, .inl (upd fs1 k (fs l)))) := by rw [eS_23]; exact (am_up_n (by omega)).trans h_22
        have hf_30 : ∀ q, q < S.2.1 → S_23.1 q = S.1 q := by rw [eS_23]; exact fun q hq => (am_up_n (by omega)).trans (hf_21 q hq)
        have h_31 : S_23.1 (S.2.1 + 1) = some (.inl (0, 4, .inl (upd (upd fe1 k (fe l)) l (fe k)))) := by rw [eS_23]; exact am_up_s
        have hnS_23 : S_23.2.1 = S_14.2.1 := by rw [eS_23]
        have hzS_23 : S_23.2.2 = S_14.2.2 := by rw [eS_23]
        refine am_aload d_X_turn_68 rfl ?_
        refine am_get d_X_turn_70 fl_X_93 h_28 rfl ?_
        refine am_iloadn d_X_turn_73 rfl ?_
        refine am_aload d_X_turn_74 rfl ?_
        refine am_get d_X_turn_76 fl_X_93 h_25 rfl ?_
        refine am_iloadn d_X_turn_79 rfl ?_
        refine am_ialdN (t := 0) (k := k) d_X_turn_80 rfl h_27 (by omega) (by omega) ?_
        refine am_iastN (t := 0) d_X_turn_81 rfl h_29 (by omega) (by omega) ?_
        obtain ⟨S_32, eS_32⟩ : ∃ z : am_S, z = (am_up S_23.1 (S.2.1 + 2) (.inl (0, 4, .inl (upd (upd fs1 k (fs l)) l (fs k)))), S_23.2) := ⟨_, rfl⟩
        change am_W _ _ _ _ (am_up S_23.1 (S.2.1 + 2) (.inl (0, 4, .inl (upd (upd fs1 k (fs l)) l (fs k)))), S_23.2) _
        rw [← eS_32]
        have h_33 : S_32.1 g.2.2.1 = some (.inr (2, [.ref (g.2.2.1 + 1), .ref (g.2.2.1 + 2), .int (nI T.ns), .int (nI T.nv), .ref (g.2.2.1 + 3), .ref (g.2.2.1 + 4), .ref (g.2.2.1 + 5)])) := by rw [eS_32]; exact (am_up_n (by omega)).trans h_24
        have h_34 : S_32.1 (av j) = some (.inr (1, [.ref (as (T.vw j).st), .int ((T.vw j).sa), .int (nI (T.vw j).ax), .int (nI (T.vw j).it), .ref (av j + 1), .ref (av j + 2)])) := by rw [eS_32]; exact (am_up_n (by omega)).trans h_25
        have h_35 : S_32.1 (av j + 1) = some (.inl (0, 4, .inl fe)) := by rw [eS_32]; exact (am_up_n (by omega)).trans h_26
        have h_36 : S_32.1 (av j + 2) = some (.inl (0, 4, .inl fs)) := by rw [eS_32]; exact (am_up_n (by omega)).trans h_27
        have h_37 : S_32.1 S.2.1 = some (.inr (1, [.ref (as (T.vw j).st), .int ((T.vw j).sa), .int (nI (T.vw j).ax), .int 0, .ref (S.2.1 + 1), .ref (S.2.1 + 2)])) := by rw [eS_32]; exact (am_up_n (by omega)).trans h_28
        have h_38 : S_32.1 (S.2.1 + 1) = some (.inl (0, 4, .inl (upd (upd fe1 k (fe l)) l (fe k)))) := by rw [eS_32]; exact (am_up_n (by omega)).trans h_31
        have hf_39 : ∀ q, q < S.2.1 → S_32.1 q = S.1 q := by rw [eS_32]; exact fun q hq => (am_up_n (by omega)).trans (hf_30 q hq)
        have h_40 : S_32.1 (S.2.1 + 2) = some (.inl (0, 4, .inl (upd (upd fs1 k (fs l)) l (fs k)))) := by rw [eS_32]; exact am_up_s
        have hnS_32 : S_32.2.1 = S_23.2.1 := by rw [eS_32]
        have hzS_32 : S_32.2.2 = S_23.2.2 := by rw [eS_32]
        refine am_aloadn d_X_turn_82 rfl ?_
        refine am_aload d_X_turn_83 rfl ?_
        have hVn : sv_V S_32.1 S.2.1 (as (T.vw j).st) (T.vw j).sa (T.vw j).ax 0 (S.2.1 + 1) (S.2.1 + 2) (upd (upd fe1 k (fe l)) l (fe k)) (upd (upd fs1 k (fs l)) l (fs k)) := ⟨h_37, h_38, h_40, by omega, w2⟩
        have hEn : ∀ i, i < (T.vw j).ax → (upd (upd fe1 k (fe l)) l (fe k)) i = nI (if i = l then (T.vw j).ex k else if i = k then (T.vw j).ex l else (T.vw j).ex i) := fun i hi => by
          by_cases e : i = l
          · rw [if_pos e, e, pk_us]; exact hE k hk
          · rw [if_neg e, pk_un e]
            by_cases e2 : i = k
            · rw [if_pos e2, e2, pk_us]; exact hE l hl
            · rw [if_neg e2, pk_un e2, (hI1 i hi).1]; exact hE i hi
        have hSn : ∀ i, i < (T.vw j).ax → (upd (upd fs1 k (fs l)) l (fs k)) i = (if i = l then (T.vw j).sp k else if i = k then (T.vw j).sp l else (T.vw j).sp i) := fun i hi => by
          by_cases e : i = l
          · rw [if_pos e, e, pk_us]; exact hS k hk
          · rw [if_neg e, pk_un e]
            by_cases e2 : i = k
            · rw [if_pos e2, e2, pk_us]; exact hS l hl
            · rw [if_neg e2, pk_un e2, (hI1 i hi).2]; exact hS i hi
        have hOn : sv_ok (fun i => if i = l then (T.vw j).ex k else if i = k then (T.vw j).ex l else (T.vw j).ex i) (T.vw j).ax := fun i hi => by
          show (if i = l then _ else if i = k then _ else _) < _
          split
          · exact w3 k hk
          · split
            · exact w3 l hl
            · exact w3 i hi
        exact am_cpsV [.ref S.2.1] [] d_X_turn_85 cV_X_67 rfl h_33 rfl rfl (Nat.le_of_ble_eq_true rfl) (Nat.le_of_ble_eq_true rfl) (am_mono (fun o S9 h9 => am_tailQ d_X_turn_88 rfl h9) (c_keepQ (S0 := S) (a := ((T.vw j).st, (T.vw j).sa, (T.vw j).ax, fun i => if i = l then (T.vw j).ex k else if i = k then (T.vw j).ex l else (T.vw j).ex i, fun i => if i = l then (T.vw j).sp k else if i = k then (T.vw j).sp l else (T.vw j).sp i)) (hC.up (fun q hq => hf_39 q (by omega)) (by omega)) hVn hEn hSn hOn w1 (fun _ => sv_in_turn w7 hk hl) (by omega) (by omega) ⟨by omega, by omega⟩ ⟨fun q h1 h2 => hf_39 q (by omega), by omega, by omega, by omega, by omega⟩))
set_option maxHeartbeats 4000000 in
set_option maxRecDepth 100000 in
/-- X_spread -/
theorem x_spread {g : am_G} {d : Nat} {S : am_S} {lo : Nat} {T : sv_T} {as av : Nat → Nat} (hC : sv_C g lo S T as av) (hr : sv_R g S 16 700) {i x n : Int32} : am_W g (d + 3) mm_X_spread (0, am_ent [.ref g.2.2.1, .int i, .int x, .int n] 6, []) S (sv_O g S (q_spread T i x n)) := by
  obtain ⟨qs, qv, fp, fn, fm, ⟨hx, hq1, hq2, h3, h4, h5⟩, hs, hv, i1, i2, hB, hlo, hw⟩ := id hC
  have h80 := hw.2.1
  obtain ⟨hr1, hr2⟩ := hr
  show am_W g (d + 3) mm_X_spread (0, [some (.ref g.2.2.1), some (.int i), some (.int x), some (.int n), none, none], []) S _
  refine am_aloadn d_X_spread_0 rfl ?_
  refine am_iloadn d_X_spread_1 rfl ?_
  refine am_cpsV [.int i] [] d_X_spread_2 cV_X_71 rfl hx rfl rfl (Nat.le_of_ble_eq_true rfl) (Nat.le_of_ble_eq_true rfl) (c_viewP hC (i := i) (hr := ⟨by omega, by omega⟩) (fun hno => ?_) (fun j hj hi => ?_))
  · rw [q_spread, sv_qv_no hno]
    exact sv_O.thr0 hC (by decide)
  · skip
    show am_W g (d + 3) mm_X_spread (5, [some (.ref g.2.2.1), some (.int i), some (.int x), some (.int n), none, none], [.ref (av j)]) S _
    rw [hi, q_spread, sv_qv_j hj h80]
    show am_W g (d + 3) mm_X_spread (5, [some (.ref g.2.2.1), some (.int (nI j)), some (.int x), some (.int n), none, none], [.ref (av j)]) S _
    obtain ⟨b1, b2, b3, fe, fs, hV, hE, hS⟩ := hv j hj
    obtain ⟨w1, w2, w3, w4, w5, w6, w7⟩ := hw.2.2.2 j hj
    obtain ⟨s1, s2, s3, s4, s5⟩ := hs (T.vw j).st w1
    have hv1 := hV.1
    refine am_astore (L' := [some (.ref g.2.2.1), some (.int (nI j)), some (.int x), some (.int n), some (.ref (av j)), none]) d_X_spread_5 (by decide) rfl rfl ?_
    refine am_iloadn d_X_spread_7 rfl ?_
    refine am_iflt (tgt := 20) d_X_spread_8 (by decide) (fun hc => ?_) (fun hc => ?_)
    · rw [if_neg (fun h => Int32.not_lt.mpr h.1 hc)]
      exact am_thr d_X_spread_20 d_X_spread_23 d_X_spread_24 d_X_spread_26 d_X_spread_29 tw_X_96_107_100 rfl (Nat.le_of_ble_eq_true rfl) (by omega) (by omega) (sv_O.thr0 hC (by decide))
    · refine am_iloadn d_X_spread_11 rfl ?_
      refine am_aload d_X_spread_12 rfl ?_
      refine am_get d_X_spread_14 fl_X_104 hv1 rfl ?_
      refine am_icle (tgt := 30) d_X_spread_17 (by decide) (fun hd => ?_) (fun hd => ?_)
      · rw [if_pos ⟨Int32.not_lt.mp hc, hd⟩]
        obtain ⟨k, hk0, hxk⟩ := nI_of hc
        rw [hxk] at hd ⊢
        have hk : k ≤ (T.vw j).ax := (nI_leI hk0 (by omega)).mp hd
        rw [nI_clamp hk0]
        refine am_iloadn d_X_spread_30 rfl ?_
        refine am_ifge (tgt := 44) d_X_spread_31 (by decide) (fun he => ?_) (fun he => ?_)
        · rw [if_pos he]
          refine am_aload d_X_spread_44 rfl ?_
          refine am_get d_X_spread_46 fl_X_104 hv1 rfl ?_
          refine am_iconst 4 d_X_spread_49 (by decide) ?_
          refine am_iclt (tgt := 63) d_X_spread_50 (by decide) (fun hg => ?_) (fun hg => ?_)
          · have h4a : (T.vw j).ax < 4 := (nI_ltI (by omega) (by decide)).mp hg
            rw [if_pos h4a]
            obtain ⟨N, hN, hnN⟩ := nI_of (Int32.not_lt.mpr he)
            refine am_aload d_X_spread_63 rfl ?_
            refine am_cpsV [] [] d_X_spread_65 cV_X_86 rfl hv1 rfl rfl (Nat.le_of_ble_eq_true rfl) (Nat.le_of_ble_eq_true rfl) (c_twin hV (by omega) (by omega) (by omega) (by omega) (by omega) (fun S1 fe1 fs1 hT1 hz1 hf1 hI1 => ?_))
            have hn1 : S1.2.1 = S.2.1 + 3 := by rw [hz1]
            have hn2 : S1.2.2 = S.2.2 + 14 := by rw [hz1]
            have h_1 : S1.1 g.2.2.1 = some (.inr (2, [.ref (g.2.2.1 + 1), .ref (g.2.2.1 + 2), .int (nI T.ns), .int (nI T.nv), .ref (g.2.2.1 + 3), .ref (g.2.2.1 + 4), .ref (g.2.2.1 + 5)])) := (hf1 _ (by omega)).trans hx
            have h_2 : S1.1 (av j) = some (.inr (1, [.ref (as (T.vw j).st), .int ((T.vw j).sa), .int (nI (T.vw j).ax), .int (nI (T.vw j).it), .ref (av j + 1), .ref (av j + 2)])) := (hf1 _ (by omega)).trans hv1
            have h_3 : S1.1 (av j + 1) = some (.inl (0, 4, .inl fe)) := (hf1 _ (by omega)).trans hV.2.1
            have h_4 : S1.1 (av j + 2) = some (.inl (0, 4, .inl fs)) := (hf1 _ (by omega)).trans hV.2.2.1
            show am_W g (d + 3) mm_X_spread (68, [some (.ref g.2.2.1), some (.int (nI j)), some (.int (nI k)), some (.int n), some (.ref (av j)), none], [.ref S.2.1]) S1 _
            have hT11 := hT1.1
            have hT12 := hT1.2.1
            have hT13 := hT1.2.2.1
            refine am_astore (L' := [some (.ref g.2.2.1), some (.int (nI j)), some (.int (nI k)), some (.int n), some (.ref (av j)), some (.ref S.2.1)]) d_X_spread_68 (by decide) rfl rfl ?_
            refine am_aload d_X_spread_70 rfl ?_
            refine am_iloadn d_X_spread_72 rfl ?_
            refine am_iloadn d_X_spread_73 rfl ?_
            refine am_iconst 0 d_X_spread_74 (by decide) ?_
            refine am_cpsV [.int (nI k), .int n, .int 0] [] d_X_spread_75 cV_X_60 rfl hT11 rfl rfl (Nat.le_of_ble_eq_true rfl) (Nat.le_of_ble_eq_true rfl) (c_insert hT1 (j := k) n 0 h4a hk (fun S5 fe5 fs5 hT5 hf5 hI5 => ?_))
            have hz5 := congrArg Prod.fst hf5.1
            have hz6 := congrArg Prod.snd hf5.1
            have h_5 : S5.1 g.2.2.1 = some (.inr (2, [.ref (g.2.2.1 + 1), .ref (g.2.2.1 + 2), .int (nI T.ns), .int (nI T.nv), .ref (g.2.2.1 + 3), .ref (g.2.2.1 + 4), .ref (g.2.2.1 + 5)])) := (hf5.2 _ (by omega) (by omega) (by omega)).trans h_1
            have h_6 : S5.1 (av j) = some (.inr (1, [.ref (as (T.vw j).st), .int ((T.vw j).sa), .int (nI (T.vw j).ax), .int (nI (T.vw j).it), .ref (av j + 1), .ref (av j + 2)])) := (hf5.2 _ (by omega) (by omega) (by omega)).trans h_2
            have h_7 : S5.1 (av j + 1) = some (.inl (0, 4, .inl fe)) := (hf5.2 _ (by omega) (by omega) (by omega)).trans h_3
            have h_8 : S5.1 (av j + 2) = some (.inl (0, 4, .inl fs)) := (hf5.2 _ (by omega) (by omega) (by omega)).trans h_4
            have hf_9 : ∀ q, q < S.2.1 → S5.1 q = S.1 q := fun q hq => (hf5.2 q (by omega) (by omega) (by omega)).trans (hf1 q hq)
            show am_W g (d + 3) mm_X_spread (78, [some (.ref g.2.2.1), some (.int (nI j)), some (.int (nI k)), some (.int n), some (.ref (av j)), some (.ref S.2.1)], []) S5 _
            refine am_aloadn d_X_spread_78 rfl ?_
            refine am_aload d_X_spread_79 rfl ?_
            have hEn : ∀ i, i < (T.vw j).ax + 1 → fe5 i = nI (sv_ins (T.vw j).ex k n.toNatClampNeg i) := fun i hi => by
              rw [(hI5 i hi).1]; simp only [sv_ins]; split
              · rw [(hI1 i (by omega)).1]; exact hE i (by omega)
              · split
                · rw [hnN, nI_clamp hN]
                · rw [(hI1 (i - 1) (by omega)).1]; exact hE (i - 1) (by omega)
            have hSn : ∀ i, i < (T.vw j).ax + 1 → fs5 i = sv_ins (T.vw j).sp k 0 i := fun i hi => by
              rw [(hI5 i hi).2]; simp only [sv_ins]; split
              · rw [(hI1 i (by omega)).2]; exact hS i (by omega)
              · split
                · rfl
                · rw [(hI1 (i - 1) (by omega)).2]; exact hS (i - 1) (by omega)
            have hOn : sv_ok (sv_ins (T.vw j).ex k n.toNatClampNeg) ((T.vw j).ax + 1) := fun i hi => by
              simp only [sv_ins]; split
              · exact w3 i (by omega)
              · split
                · rw [hnN, nI_clamp hN]; exact hN
                · exact w3 (i - 1) (by omega)
            exact am_cpsV [.ref S.2.1] [] d_X_spread_81 cV_X_67 rfl h_5 rfl rfl (Nat.le_of_ble_eq_true rfl) (Nat.le_of_ble_eq_true rfl) (am_mono (fun o S9 h9 => am_tailQ d_X_spread_84 rfl h9) (c_keepQ (S0 := S) (a := ((T.vw j).st, (T.vw j).sa, (T.vw j).ax + 1, sv_ins (T.vw j).ex k n.toNatClampNeg, sv_ins (T.vw j).sp k 0)) (hC.up (fun q hq => hf_9 q (by omega)) (by omega)) hT5 hEn hSn hOn w1 (fun _ => sv_in_spread w7 hk) (by omega) (by omega) ⟨by omega, by omega⟩ ⟨fun q h1 h2 => hf_9 q (by omega), by omega, by omega, by omega, by omega⟩))
          · have h4a : ¬ (T.vw j).ax < 4 := fun h => hg (nI_lt h (by decide))
            rw [if_neg h4a]
            exact am_thr d_X_spread_53 d_X_spread_56 d_X_spread_57 d_X_spread_59 d_X_spread_62 tw_X_111_113_115 rfl (Nat.le_of_ble_eq_true rfl) (by omega) (by omega) (sv_O.thr0 hC (by decide))
        · rw [if_neg (fun h => he h)]
          exact am_thr d_X_spread_34 d_X_spread_37 d_X_spread_38 d_X_spread_40 d_X_spread_43 tw_X_44_109_48 rfl (Nat.le_of_ble_eq_true rfl) (by omega) (by omega) (sv_O.thr0 hC (by decide))
      · rw [if_neg (fun h => hd h.2)]
        exact am_thr d_X_spread_20 d_X_spread_23 d_X_spread_24 d_X_spread_26 d_X_spread_29 tw_X_96_107_100 rfl (Nat.le_of_ble_eq_true rfl) (by omega) (by omega) (sv_O.thr0 hC (by decide))
set_option maxHeartbeats 4000000 in
set_option maxRecDepth 100000 in
/-- X_diagonal -/
theorem x_diagonal {g : am_G} {d : Nat} {S : am_S} {lo : Nat} {T : sv_T} {as av : Nat → Nat} (hC : sv_C g lo S T as av) (hr : sv_R g S 16 700) {i x y : Int32} : am_W g (d + 3) mm_X_diagonal (0, am_ent [.ref g.2.2.1, .int i, .int x, .int y] 6, []) S (sv_O g S (q_diagonal T i x y)) := by
  obtain ⟨qs, qv, fp, fn, fm, ⟨hx, hq1, hq2, h3, h4, h5⟩, hs, hv, i1, i2, hB, hlo, hw⟩ := id hC
  have h80 := hw.2.1
  obtain ⟨hr1, hr2⟩ := hr
  show am_W g (d + 3) mm_X_diagonal (0, [some (.ref g.2.2.1), some (.int i), some (.int x), some (.int y), none, none], []) S _
  refine am_aloadn d_X_diagonal_0 rfl ?_
  refine am_iloadn d_X_diagonal_1 rfl ?_
  refine am_cpsV [.int i] [] d_X_diagonal_2 cV_X_71 rfl hx rfl rfl (Nat.le_of_ble_eq_true rfl) (Nat.le_of_ble_eq_true rfl) (c_viewP hC (i := i) (hr := ⟨by omega, by omega⟩) (fun hno => ?_) (fun j hj hi => ?_))
  · rw [q_diagonal, sv_qv_no hno]
    exact sv_O.thr0 hC (by decide)
  · skip
    show am_W g (d + 3) mm_X_diagonal (5, [some (.ref g.2.2.1), some (.int i), some (.int x), some (.int y), none, none], [.ref (av j)]) S _
    rw [hi, q_diagonal, sv_qv_j hj h80]
    show am_W g (d + 3) mm_X_diagonal (5, [some (.ref g.2.2.1), some (.int (nI j)), some (.int x), some (.int y), none, none], [.ref (av j)]) S _
    obtain ⟨b1, b2, b3, fe, fs, hV, hE, hS⟩ := hv j hj
    obtain ⟨w1, w2, w3, w4, w5, w6, w7⟩ := hw.2.2.2 j hj
    obtain ⟨s1, s2, s3, s4, s5⟩ := hs (T.vw j).st w1
    have hv1 := hV.1
    refine am_astore (L' := [some (.ref g.2.2.1), some (.int (nI j)), some (.int x), some (.int y), some (.ref (av j)), none]) d_X_diagonal_5 (by decide) rfl rfl ?_
    refine am_aload d_X_diagonal_7 rfl ?_
    refine am_iloadn d_X_diagonal_9 rfl ?_
    refine am_cpsS [.ref (av j), .int x] [] d_X_diagonal_10 cS_X_75 rfl rfl rfl (Nat.le_of_ble_eq_true rfl) (Nat.le_of_ble_eq_true rfl) (c_axisP hv1 w2 (x := x) ⟨by omega, by omega⟩ (fun hno => ?_) (fun k hk hxk => ?_))
    · rw [sv_qa_no hno]
      exact sv_O.thr0 hC (by decide)
    · skip
      rw [hxk, sv_qa_j hk w2]
      show am_W g (d + 3) mm_X_diagonal (13, [some (.ref g.2.2.1), some (.int (nI j)), some (.int (nI k)), some (.int y), some (.ref (av j)), none], []) S _
      refine am_aload d_X_diagonal_13 rfl ?_
      refine am_iloadn d_X_diagonal_15 rfl ?_
      refine am_cpsS [.ref (av j), .int y] [] d_X_diagonal_16 cS_X_75 rfl rfl rfl (Nat.le_of_ble_eq_true rfl) (Nat.le_of_ble_eq_true rfl) (c_axisP hv1 w2 (x := y) ⟨by omega, by omega⟩ (fun hno => ?_) (fun l hl hxl => ?_))
      · rw [sv_qa_no hno]
        exact sv_O.thr0 hC (by decide)
      · skip
        rw [hxl, sv_qa_j hl w2]
        show am_W g (d + 3) mm_X_diagonal (19, [some (.ref g.2.2.1), some (.int (nI j)), some (.int (nI k)), some (.int (nI l)), some (.ref (av j)), none], []) S _
        refine am_iloadn d_X_diagonal_19 rfl ?_
        refine am_iloadn d_X_diagonal_20 rfl ?_
        refine am_icne (tgt := 34) d_X_diagonal_21 (by decide) (fun hc => ?_) (fun hc => ?_)
        · rw [if_neg hc]
          have hkl : k ≠ l := fun h => hc (by rw [h])
          refine am_aload d_X_diagonal_34 rfl ?_
          refine am_cpsV [] [] d_X_diagonal_36 cV_X_86 rfl hv1 rfl rfl (Nat.le_of_ble_eq_true rfl) (Nat.le_of_ble_eq_true rfl) (c_twin hV (by omega) (by omega) (by omega) (by omega) (by omega) (fun S1 fe1 fs1 hT1 hz1 hf1 hI1 => ?_))
          have hn1 : S1.2.1 = S.2.1 + 3 := by rw [hz1]
          have hn2 : S1.2.2 = S.2.2 + 14 := by rw [hz1]
          have h_1 : S1.1 g.2.2.1 = some (.inr (2, [.ref (g.2.2.1 + 1), .ref (g.2.2.1 + 2), .int (nI T.ns), .int (nI T.nv), .ref (g.2.2.1 + 3), .ref (g.2.2.1 + 4), .ref (g.2.2.1 + 5)])) := (hf1 _ (by omega)).trans hx
          have h_2 : S1.1 (av j) = some (.inr (1, [.ref (as (T.vw j).st), .int ((T.vw j).sa), .int (nI (T.vw j).ax), .int (nI (T.vw j).it), .ref (av j + 1), .ref (av j + 2)])) := (hf1 _ (by omega)).trans hv1
          have h_3 : S1.1 (av j + 1) = some (.inl (0, 4, .inl fe)) := (hf1 _ (by omega)).trans hV.2.1
          have h_4 : S1.1 (av j + 2) = some (.inl (0, 4, .inl fs)) := (hf1 _ (by omega)).trans hV.2.2.1
          show am_W g (d + 3) mm_X_diagonal (39, [some (.ref g.2.2.1), some (.int (nI j)), some (.int (nI k)), some (.int (nI l)), some (.ref (av j)), none], [.ref S.2.1]) S1 _
          have hT11 := hT1.1
          have hT12 := hT1.2.1
          have hT13 := hT1.2.2.1
          obtain ⟨m, hm⟩ : ∃ m, (T.vw j).ax = m + 2 := ⟨(T.vw j).ax - 2, by omega⟩
          refine am_astore (L' := [some (.ref g.2.2.1), some (.int (nI j)), some (.int (nI k)), some (.int (nI l)), some (.ref (av j)), some (.ref S.2.1)]) d_X_diagonal_39 (by decide) rfl rfl ?_
          refine am_aload d_X_diagonal_41 rfl ?_
          refine am_iloadn d_X_diagonal_43 rfl ?_
          refine am_iloadn d_X_diagonal_44 rfl ?_
          refine am_mmax d_X_diagonal_45 (am_in 308 (by decide +kernel) rfl) (Nat.le_of_ble_eq_true rfl) ?_
          refine am_ti (b := nI (max k l)) (sv_max (by omega) (by omega)) ?_
          have hVm : sv_V S1.1 S.2.1 (as (T.vw j).st) (T.vw j).sa (m + 1 + 1) 0 (S.2.1 + 1) (S.2.1 + 2) fe1 fs1 := by have h := hT1; rw [hm] at h; exact h
          refine am_cpsV [.int (nI (max k l))] [] d_X_diagonal_48 cV_X_101 rfl hT11 rfl rfl (Nat.le_of_ble_eq_true rfl) (Nat.le_of_ble_eq_true rfl) (c_remove hVm (j := max k l) (by omega) (fun S5 fe5 fs5 hT5 hf5 hI5 => ?_))
          have hz5 := congrArg Prod.fst hf5.1
          have hz6 := congrArg Prod.snd hf5.1
          have h_5 : S5.1 g.2.2.1 = some (.inr (2, [.ref (g.2.2.1 + 1), .ref (g.2.2.1 + 2), .int (nI T.ns), .int (nI T.nv), .ref (g.2.2.1 + 3), .ref (g.2.2.1 + 4), .ref (g.2.2.1 + 5)])) := (hf5.2 _ (by omega) (by omega) (by omega)).trans h_1
          have h_6 : S5.1 (av j) = some (.inr (1, [.ref (as (T.vw j).st), .int ((T.vw j).sa), .int (nI (T.vw j).ax), .int (nI (T.vw j).it), .ref (av j + 1), .ref (av j + 2)])) := (hf5.2 _ (by omega) (by omega) (by omega)).trans h_2
          have h_7 : S5.1 (av j + 1) = some (.inl (0, 4, .inl fe)) := (hf5.2 _ (by omega) (by omega) (by omega)).trans h_3
          have h_8 : S5.1 (av j + 2) = some (.inl (0, 4, .inl fs)) := (hf5.2 _ (by omega) (by omega) (by omega)).trans h_4
          have hf_9 : ∀ q, q < S.2.1 → S5.1 q = S.1 q := fun q hq => (hf5.2 q (by omega) (by omega) (by omega)).trans (hf1 q hq)
          show am_W g (d + 3) mm_X_diagonal (51, [some (.ref g.2.2.1), some (.int (nI j)), some (.int (nI k)), some (.int (nI l)), some (.ref (av j)), some (.ref S.2.1)], []) S5 _
          have hT51 := hT5.1
          have hT52 := hT5.2.1
          have hT53 := hT5.2.2.1
          refine am_aload d_X_diagonal_51 rfl ?_
          refine am_iloadn d_X_diagonal_53 rfl ?_
          refine am_iloadn d_X_diagonal_54 rfl ?_
          refine am_mmin d_X_diagonal_55 (am_in 311 (by decide +kernel) rfl) (Nat.le_of_ble_eq_true rfl) ?_
          refine am_ti (b := nI (min k l)) (sv_min (by omega) (by omega)) ?_
          refine am_cpsV [.int (nI (min k l))] [] d_X_diagonal_58 cV_X_101 rfl hT51 rfl rfl (Nat.le_of_ble_eq_true rfl) (Nat.le_of_ble_eq_true rfl) (c_remove hT5 (j := min k l) (by omega) (fun S6 fe6 fs6 hT6 hf6 hI6 => ?_))
          have hz7 := congrArg Prod.fst hf6.1
          have hz8 := congrArg Prod.snd hf6.1
          have h_10 : S6.1 g.2.2.1 = some (.inr (2, [.ref (g.2.2.1 + 1), .ref (g.2.2.1 + 2), .int (nI T.ns), .int (nI T.nv), .ref (g.2.2.1 + 3), .ref (g.2.2.1 + 4), .ref (g.2.2.1 + 5)])) := (hf6.2 _ (by omega) (by omega) (by omega)).trans h_5
          have h_11 : S6.1 (av j) = some (.inr (1, [.ref (as (T.vw j).st), .int ((T.vw j).sa), .int (nI (T.vw j).ax), .int (nI (T.vw j).it), .ref (av j + 1), .ref (av j + 2)])) := (hf6.2 _ (by omega) (by omega) (by omega)).trans h_6
          have h_12 : S6.1 (av j + 1) = some (.inl (0, 4, .inl fe)) := (hf6.2 _ (by omega) (by omega) (by omega)).trans h_7
          have h_13 : S6.1 (av j + 2) = some (.inl (0, 4, .inl fs)) := (hf6.2 _ (by omega) (by omega) (by omega)).trans h_8
          have hf_14 : ∀ q, q < S.2.1 → S6.1 q = S.1 q := fun q hq => (hf6.2 q (by omega) (by omega) (by omega)).trans (hf_9 q hq)
          show am_W g (d + 3) mm_X_diagonal (61, [some (.ref g.2.2.1), some (.int (nI j)), some (.int (nI k)), some (.int (nI l)), some (.ref (av j)), some (.ref S.2.1)], []) S6 _
          have hT61 := hT6.1
          have hT62 := hT6.2.1
          have hT63 := hT6.2.2.1
          refine am_aload d_X_diagonal_61 rfl ?_
          refine am_aload d_X_diagonal_63 rfl ?_
          refine am_get d_X_diagonal_65 fl_X_104 hT61 rfl ?_
          refine am_aload d_X_diagonal_68 rfl ?_
          refine am_get d_X_diagonal_70 fl_X_79 h_11 rfl ?_
          refine am_iloadn d_X_diagonal_73 rfl ?_
          refine am_ialdN (t := 0) (k := k) d_X_diagonal_74 rfl h_12 (by omega) (by omega) ?_
          refine am_ti (b := nI ((T.vw j).ex k)) (hE k hk) ?_
          refine am_aload d_X_diagonal_75 rfl ?_
          refine am_get d_X_diagonal_77 fl_X_79 h_11 rfl ?_
          refine am_iloadn d_X_diagonal_80 rfl ?_
          refine am_ialdN (t := 0) (k := l) d_X_diagonal_81 rfl h_12 (by omega) (by omega) ?_
          refine am_ti (b := nI ((T.vw j).ex l)) (hE l hl) ?_
          have hOk := w3 k hk
          have hOl := w3 l hl
          refine am_mmin d_X_diagonal_82 (am_in 311 (by decide +kernel) rfl) (Nat.le_of_ble_eq_true rfl) ?_
          refine am_ti (b := nI (min ((T.vw j).ex k) ((T.vw j).ex l))) (sv_min hOk hOl) ?_
          refine am_aload d_X_diagonal_85 rfl ?_
          refine am_get d_X_diagonal_87 fl_X_93 h_11 rfl ?_
          refine am_iloadn d_X_diagonal_90 rfl ?_
          refine am_ialdN (t := 0) (k := k) d_X_diagonal_91 rfl h_13 (by omega) (by omega) ?_
          refine am_ti (b := (T.vw j).sp k) (hS k hk) ?_
          refine am_aload d_X_diagonal_92 rfl ?_
          refine am_get d_X_diagonal_94 fl_X_93 h_11 rfl ?_
          refine am_iloadn d_X_diagonal_97 rfl ?_
          refine am_ialdN (t := 0) (k := l) d_X_diagonal_98 rfl h_13 (by omega) (by omega) ?_
          refine am_ti (b := (T.vw j).sp l) (hS l hl) ?_
          refine am_iadd d_X_diagonal_99 ?_
          refine am_cpsV [.int (nI m), .int (nI (min ((T.vw j).ex k) ((T.vw j).ex l))), .int (((T.vw j).sp k) + ((T.vw j).sp l))] [] d_X_diagonal_100 cV_X_60 rfl hT61 rfl rfl (Nat.le_of_ble_eq_true rfl) (Nat.le_of_ble_eq_true rfl) (c_insert hT6 (j := m) (nI (min ((T.vw j).ex k) ((T.vw j).ex l))) ((T.vw j).sp k + (T.vw j).sp l) (by omega) (Nat.le_refl m) (fun S7 fe7 fs7 hT7 hf7 hI7 => ?_))
          have hz9 := congrArg Prod.fst hf7.1
          have hz10 := congrArg Prod.snd hf7.1
          have h_15 : S7.1 g.2.2.1 = some (.inr (2, [.ref (g.2.2.1 + 1), .ref (g.2.2.1 + 2), .int (nI T.ns), .int (nI T.nv), .ref (g.2.2.1 + 3), .ref (g.2.2.1 + 4), .ref (g.2.2.1 + 5)])) := (hf7.2 _ (by omega) (by omega) (by omega)).trans h_10
          have h_16 : S7.1 (av j) = some (.inr (1, [.ref (as (T.vw j).st), .int ((T.vw j).sa), .int (nI (T.vw j).ax), .int (nI (T.vw j).it), .ref (av j + 1), .ref (av j + 2)])) := (hf7.2 _ (by omega) (by omega) (by omega)).trans h_11
          have h_17 : S7.1 (av j + 1) = some (.inl (0, 4, .inl fe)) := (hf7.2 _ (by omega) (by omega) (by omega)).trans h_12
          have h_18 : S7.1 (av j + 2) = some (.inl (0, 4, .inl fs)) := (hf7.2 _ (by omega) (by omega) (by omega)).trans h_13
          have hf_19 : ∀ q, q < S.2.1 → S7.1 q = S.1 q := fun q hq => (hf7.2 q (by omega) (by omega) (by omega)).trans (hf_14 q hq)
          show am_W g (d + 3) mm_X_diagonal (103, [some (.ref g.2.2.1), some (.int (nI j)), some (.int (nI k)), some (.int (nI l)), some (.ref (av j)), some (.ref S.2.1)], []) S7 _
          refine am_aloadn d_X_diagonal_103 rfl ?_
          refine am_aload d_X_diagonal_104 rfl ?_
          have hm1 : (T.vw j).ax - 1 = m + 1 := by omega
          have hm2 : (T.vw j).ax - 2 = m := by omega
          have hVn : sv_V S7.1 S.2.1 (as (T.vw j).st) (T.vw j).sa ((T.vw j).ax - 1) 0 (S.2.1 + 1) (S.2.1 + 2) fe7 fs7 := by rw [hm1]; exact hT7
          have hEn : ∀ i, i < (T.vw j).ax - 1 → fe7 i = nI (sv_ins (sv_rem (sv_rem (T.vw j).ex (max k l)) (min k l)) ((T.vw j).ax - 2) (min ((T.vw j).ex k) ((T.vw j).ex l)) i) := fun i hi => by
            rw [(hI7 i (by omega)).1, hm2]; simp only [sv_ins]; split
            · rw [(hI6 i (by omega)).1]; simp only [sv_rem]; split
              · rw [(hI5 i (by omega)).1]; simp only [sv_rem]; split
                · rw [(hI1 i (by omega)).1]; exact hE i (by omega)
                · rw [(hI1 (i + 1) (by omega)).1]; exact hE (i + 1) (by omega)
              · rw [(hI5 (i + 1) (by omega)).1]; simp only [sv_rem]; split
                · rw [(hI1 (i + 1) (by omega)).1]; exact hE (i + 1) (by omega)
                · rw [(hI1 (i + 1 + 1) (by omega)).1]; exact hE (i + 1 + 1) (by omega)
            · split
              · rfl
              · omega
          have hSn : ∀ i, i < (T.vw j).ax - 1 → fs7 i = (sv_ins (sv_rem (sv_rem (T.vw j).sp (max k l)) (min k l)) ((T.vw j).ax - 2) ((T.vw j).sp k + (T.vw j).sp l) i) := fun i hi => by
            rw [(hI7 i (by omega)).2, hm2]; simp only [sv_ins]; split
            · rw [(hI6 i (by omega)).2]; simp only [sv_rem]; split
              · rw [(hI5 i (by omega)).2]; simp only [sv_rem]; split
                · rw [(hI1 i (by omega)).2]; exact hS i (by omega)
                · rw [(hI1 (i + 1) (by omega)).2]; exact hS (i + 1) (by omega)
              · rw [(hI5 (i + 1) (by omega)).2]; simp only [sv_rem]; split
                · rw [(hI1 (i + 1) (by omega)).2]; exact hS (i + 1) (by omega)
                · rw [(hI1 (i + 1 + 1) (by omega)).2]; exact hS (i + 1 + 1) (by omega)
            · split
              · rfl
              · omega
          have hOn : sv_ok (sv_ins (sv_rem (sv_rem (T.vw j).ex (max k l)) (min k l)) ((T.vw j).ax - 2) (min ((T.vw j).ex k) ((T.vw j).ex l))) ((T.vw j).ax - 1) := fun i hi => by
            rw [hm2]; simp only [sv_ins, sv_rem]; split
            · split <;> split <;> exact w3 _ (by omega)
            · split
              · omega
              · omega
          exact am_cpsV [.ref S.2.1] [] d_X_diagonal_106 cV_X_67 rfl h_15 rfl rfl (Nat.le_of_ble_eq_true rfl) (Nat.le_of_ble_eq_true rfl) (am_mono (fun o S9 h9 => am_tailQ d_X_diagonal_109 rfl h9) (c_keepQ (S0 := S) (a := ((T.vw j).st, (T.vw j).sa, (T.vw j).ax - 1, sv_ins (sv_rem (sv_rem (T.vw j).ex (max k l)) (min k l)) ((T.vw j).ax - 2) (min ((T.vw j).ex k) ((T.vw j).ex l)), sv_ins (sv_rem (sv_rem (T.vw j).sp (max k l)) (min k l)) ((T.vw j).ax - 2) ((T.vw j).sp k + (T.vw j).sp l))) (hC.up (fun q hq => hf_19 q (by omega)) (by omega)) hVn hEn hSn hOn w1 (fun _ => sv_in_diag w7 hk hl hkl) (by omega) (by omega) ⟨by omega, by omega⟩ ⟨fun q h1 h2 => hf_19 q (by omega), by omega, by omega, by omega, by omega⟩))
        · rw [if_pos hc]
          exact am_thr d_X_diagonal_24 d_X_diagonal_27 d_X_diagonal_28 d_X_diagonal_30 d_X_diagonal_33 tw_X_44_116_48 rfl (Nat.le_of_ble_eq_true rfl) (by omega) (by omega) (sv_O.thr0 hC (by decide))
