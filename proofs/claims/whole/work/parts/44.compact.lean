/-! compact, fold -/
set_option maxHeartbeats 4000000 in
set_option maxRecDepth 100000 in
/-- writeItems -/
theorem c_writeW {g : am_G} {d : Nat} {S : am_S} {lo : Nat} {T : sv_T} {as av : Nat → Nat} (hC : sv_C g lo S T as av) {k w : Nat} {b : sv_A} (hk : k < T.nv) (hw0 : av k = w) (hb : T.vw k = b) {Fn f : Nat → Int64} (hn : S.1 (g.2.2.1 + 4) = some (.inl (1, 3000, .inr (.inl Fn)))) (hf : ∀ i, i < b.it → Fn i = f i) {P : am_O → am_S → Prop} (hP : ∀ (S1 : am_S), sv_C g lo S1 (T.wr b f).2.2 as av → S1.2 = S.2 → (∀ q, q ≠ g.2.2.1 + 3 → q ≠ as b.st + 1 → S1.1 q = S.1 q) → P (.inl (some (T.wr b f).2.1)) S1) : am_W g (d + 1) mm_X_writeItems (0, am_ent [.ref g.2.2.1, .ref w] 6, []) S P := by
  subst hw0
  subst hb
  exact c_writeC hC hk hn hf hP
set_option maxHeartbeats 4000000 in
set_option maxRecDepth 100000 in
/-- X_compact -/
theorem x_compact {g : am_G} {d : Nat} {S : am_S} {lo : Nat} {T : sv_T} {as av : Nat → Nat} (hC : sv_C g lo S T as av) (hr : sv_R g S 16 700) {i ln : Int32} : am_W g (d + 3) mm_X_compact (0, am_ent [.ref g.2.2.1, .int i, .int ln] 7, []) S (sv_O g S (q_compact T i ln)) := by
  obtain ⟨qs, qv, fp, fn, fm, ⟨hx, hq1, hq2, h3, h4, h5⟩, hs, hv, i1, i2, hB, hlo, hw⟩ := id hC
  have h80 := hw.2.1
  obtain ⟨hr1, hr2⟩ := hr
  show am_W g (d + 3) mm_X_compact (0, [some (.ref g.2.2.1), some (.int i), some (.int ln), none, none, none, none], []) S _
  refine am_aloadn d_X_compact_0 rfl ?_
  refine am_iloadn d_X_compact_1 rfl ?_
  refine am_cpsV [.int i] [] d_X_compact_2 cV_X_71 rfl hx rfl rfl (Nat.le_of_ble_eq_true rfl) (Nat.le_of_ble_eq_true rfl) (c_viewP hC (i := i) (hr := ⟨by omega, by omega⟩) (fun hno => ?_) (fun j hj hi => ?_))
  · rw [q_compact, sv_qv_no hno]
    exact sv_O.thr0 hC (by decide)
  · skip
    show am_W g (d + 3) mm_X_compact (5, [some (.ref g.2.2.1), some (.int i), some (.int ln), none, none, none, none], [.ref (av j)]) S _
    rw [hi, q_compact, sv_qv_j hj h80]
    show am_W g (d + 3) mm_X_compact (5, [some (.ref g.2.2.1), some (.int (nI j)), some (.int ln), none, none, none, none], [.ref (av j)]) S _
    obtain ⟨b1, b2, b3, fe, fs, hV, hE, hS⟩ := hv j hj
    obtain ⟨w1, w2, w3, w4, w5, w6, w7⟩ := hw.2.2.2 j hj
    obtain ⟨s1, s2, s3, s4, s5⟩ := hs (T.vw j).st w1
    have hv1 := hV.1
    refine am_astoren (L' := [some (.ref g.2.2.1), some (.int (nI j)), some (.int ln), some (.ref (av j)), none, none, none]) d_X_compact_5 (by decide) rfl rfl ?_
    refine am_iloadn d_X_compact_6 rfl ?_
    refine am_cpsS [.int ln] [] d_X_compact_7 cS_X_40 rfl rfl rfl (Nat.le_of_ble_eq_true rfl) (Nat.le_of_ble_eq_true rfl) (c_laneP (ln := ln) ⟨by omega, by omega⟩ (fun hno => ?_) (fun hln => ?_))
    · rw [if_neg hno]
      exact sv_O.thr0 hC (by decide)
    · skip
      show am_W g (d + 3) mm_X_compact (10, [some (.ref g.2.2.1), some (.int (nI j)), some (.int ln), some (.ref (av j)), none, none, none], []) S _
      rw [if_pos hln]
      refine am_aloadn d_X_compact_10 rfl ?_
      refine am_get d_X_compact_11 fl_X_139 hv1 rfl ?_
      refine am_cpsS [.int (nI (T.vw j).it)] [] d_X_compact_14 cS_X_158 rfl rfl rfl (Nat.le_of_ble_eq_true rfl) (Nat.le_of_ble_eq_true rfl) (c_fewP (n := (T.vw j).it) (by omega) ⟨by omega, by omega⟩ (fun hno => ?_) (fun h300 => ?_))
      · rw [if_neg (fun h => hno h.1)]
        exact sv_O.thr0 hC (by decide)
      · skip
        show am_W g (d + 3) mm_X_compact (17, [some (.ref g.2.2.1), some (.int (nI j)), some (.int ln), some (.ref (av j)), none, none, none], []) S _
        refine am_aloadn d_X_compact_17 rfl ?_
        refine am_cpsV [] [] d_X_compact_18 cV_X_51 rfl hx rfl rfl (Nat.le_of_ble_eq_true rfl) (Nat.le_of_ble_eq_true rfl) (c_roomP hC ⟨by omega, by omega⟩ (fun hno => ?_) (fun hr12 hr80 => ?_))
        · rw [if_neg (fun h => hno h.2)]
          exact sv_O.thr0 hC (by decide)
        · skip
          show am_W g (d + 3) mm_X_compact (21, [some (.ref g.2.2.1), some (.int (nI j)), some (.int ln), some (.ref (av j)), none, none, none], []) S _
          rw [if_pos ⟨h300, hr12, hr80⟩]
          have hf0 : ∀ q, q < S.2.1 → S.1 q = S.1 q := fun _ _ => rfl
          obtain ⟨a_1, ea_1⟩ : ∃ z : Nat, z = S.2.1 := ⟨_, rfl⟩
          refine am_new d_X_compact_21 nw_X_9 (by omega) (by simp only [List.length]; omega) ?_
          change am_W _ _ _ (_, _, .ref S.2.1 :: _) (am_up S.1 S.2.1 (.inr (0, [.int 0, .int 0, .null, .int 0])), S.2.1 + 1, S.2.2 + 4) _
          rw [← ea_1]
          obtain ⟨S_2, eS_2⟩ : ∃ z : am_S, z = (am_up S.1 a_1 (.inr (0, [.int 0, .int 0, .null, .int 0])), a_1 + 1, S.2.2 + 4) := ⟨_, rfl⟩
          rw [← eS_2]
          have h_3 : S_2.1 g.2.2.1 = some (.inr (2, [.ref (g.2.2.1 + 1), .ref (g.2.2.1 + 2), .int (nI T.ns), .int (nI T.nv), .ref (g.2.2.1 + 3), .ref (g.2.2.1 + 4), .ref (g.2.2.1 + 5)])) := by rw [eS_2]; exact (am_up_n (by omega)).trans hx
          have h_4 : S_2.1 (av j) = some (.inr (1, [.ref (as (T.vw j).st), .int ((T.vw j).sa), .int (nI (T.vw j).ax), .int (nI (T.vw j).it), .ref (av j + 1), .ref (av j + 2)])) := by rw [eS_2]; exact (am_up_n (by omega)).trans hv1
          have h_5 : S_2.1 (av j + 1) = some (.inl (0, 4, .inl fe)) := by rw [eS_2]; exact (am_up_n (by omega)).trans hV.2.1
          have h_6 : S_2.1 (av j + 2) = some (.inl (0, 4, .inl fs)) := by rw [eS_2]; exact (am_up_n (by omega)).trans hV.2.2.1
          have hf_7 : ∀ q, q < S.2.1 → S_2.1 q = S.1 q := by rw [eS_2]; exact fun q hq => (am_up_n (by omega)).trans (hf0 q hq)
          have h_8 : S_2.1 a_1 = some (.inr (0, [.int 0, .int 0, .null, .int 0])) := by rw [eS_2]; exact am_up_s
          have hna_1 : S_2.2.1 = a_1 + 1 := by rw [eS_2]
          have hza_1 : S_2.2.2 = S.2.2 + 4 := by rw [eS_2]
          refine am_dup d_X_compact_24 rfl ?_
          refine am_aloadn d_X_compact_25 rfl ?_
          refine am_get d_X_compact_26 fl_X_33 h_3 rfl ?_
          refine am_iloadn d_X_compact_29 rfl ?_
          refine am_aloadn d_X_compact_30 rfl ?_
          refine am_get d_X_compact_31 fl_X_139 h_4 rfl ?_
          refine am_cpsI [.int (nI T.ns), .int ln, .int (nI (T.vw j).it)] [.ref a_1] d_X_compact_34 cI_X_54 rfl rfl rfl (Nat.le_of_ble_eq_true rfl) (Nat.le_of_ble_eq_true rfl) (c_Sinit h_8 (by omega) (N := (T.vw j).it) (num := nI T.ns) (ln := ln) (by omega) (by omega) (by omega) (fun Sa q1a q2a q3a q4a => ?_))
          rw [hna_1] at q1a q2a q3a q4a
          rw [hza_1] at q3a
          have hna : Sa.2.1 = a_1 + 2 := by rw [q3a]
          have hza : Sa.2.2 = S.2.2 + 4 + ((T.vw j).it) := by rw [q3a]
          have h_9 : Sa.1 g.2.2.1 = some (.inr (2, [.ref (g.2.2.1 + 1), .ref (g.2.2.1 + 2), .int (nI T.ns), .int (nI T.nv), .ref (g.2.2.1 + 3), .ref (g.2.2.1 + 4), .ref (g.2.2.1 + 5)])) := (q4a _ (by omega) (by omega)).trans h_3
          have h_10 : Sa.1 (av j) = some (.inr (1, [.ref (as (T.vw j).st), .int ((T.vw j).sa), .int (nI (T.vw j).ax), .int (nI (T.vw j).it), .ref (av j + 1), .ref (av j + 2)])) := (q4a _ (by omega) (by omega)).trans h_4
          have h_11 : Sa.1 (av j + 1) = some (.inl (0, 4, .inl fe)) := (q4a _ (by omega) (by omega)).trans h_5
          have h_12 : Sa.1 (av j + 2) = some (.inl (0, 4, .inl fs)) := (q4a _ (by omega) (by omega)).trans h_6
          have hf_13 : ∀ q, q < S.2.1 → Sa.1 q = S.1 q := fun q hq => (q4a q (by omega) (by omega)).trans (hf_7 q hq)
          show am_W g (d + 3) mm_X_compact (37, [some (.ref g.2.2.1), some (.int (nI j)), some (.int ln), some (.ref (av j)), none, none, none], [.ref a_1]) Sa _
          refine am_astore (L' := [some (.ref g.2.2.1), some (.int (nI j)), some (.int ln), some (.ref (av j)), some (.ref a_1), none, none]) d_X_compact_37 (by decide) rfl rfl ?_
          obtain ⟨a_14, ea_14⟩ : ∃ z : Nat, z = Sa.2.1 := ⟨_, rfl⟩
          refine am_new d_X_compact_39 nw_X_15 (by omega) (by simp only [List.length]; omega) ?_
          change am_W _ _ _ (_, _, .ref Sa.2.1 :: _) (am_up Sa.1 Sa.2.1 (.inr (1, [.null, .int 0, .int 0, .int 0, .null, .null])), Sa.2.1 + 1, Sa.2.2 + 6) _
          rw [← ea_14]
          obtain ⟨S_15, eS_15⟩ : ∃ z : am_S, z = (am_up Sa.1 a_14 (.inr (1, [.null, .int 0, .int 0, .int 0, .null, .null])), a_14 + 1, Sa.2.2 + 6) := ⟨_, rfl⟩
          rw [← eS_15]
          have h_16 : S_15.1 g.2.2.1 = some (.inr (2, [.ref (g.2.2.1 + 1), .ref (g.2.2.1 + 2), .int (nI T.ns), .int (nI T.nv), .ref (g.2.2.1 + 3), .ref (g.2.2.1 + 4), .ref (g.2.2.1 + 5)])) := by rw [eS_15]; exact (am_up_n (by omega)).trans h_9
          have h_17 : S_15.1 (av j) = some (.inr (1, [.ref (as (T.vw j).st), .int ((T.vw j).sa), .int (nI (T.vw j).ax), .int (nI (T.vw j).it), .ref (av j + 1), .ref (av j + 2)])) := by rw [eS_15]; exact (am_up_n (by omega)).trans h_10
          have h_18 : S_15.1 (av j + 1) = some (.inl (0, 4, .inl fe)) := by rw [eS_15]; exact (am_up_n (by omega)).trans h_11
          have h_19 : S_15.1 (av j + 2) = some (.inl (0, 4, .inl fs)) := by rw [eS_15]; exact (am_up_n (by omega)).trans h_12
          have h_20 : S_15.1 a_1 = some (.inr (0, [.int (nI T.ns), .int ln, .ref (a_1 + 1), .int 0])) := by rw [eS_15]; exact (am_up_n (by omega)).trans q1a
          have h_21 : S_15.1 (a_1 + 1) = some (.inl (1, (T.vw j).it, .inr (.inl (fun _ => 0)))) := by rw [eS_15]; exact (am_up_n (by omega)).trans q2a
          have hf_22 : ∀ q, q < S.2.1 → S_15.1 q = S.1 q := by rw [eS_15]; exact fun q hq => (am_up_n (by omega)).trans (hf_13 q hq)
          have h_23 : S_15.1 a_14 = some (.inr (1, [.null, .int 0, .int 0, .int 0, .null, .null])) := by rw [eS_15]; exact am_up_s
          have hna_14 : S_15.2.1 = a_14 + 1 := by rw [eS_15]
          have hza_14 : S_15.2.2 = Sa.2.2 + 6 := by rw [eS_15]
          refine am_dup d_X_compact_42 rfl ?_
          refine am_aload d_X_compact_43 rfl ?_
          refine am_iconst 0 d_X_compact_45 (by decide) ?_
          have hzwb := hza_14
          refine am_cpsI [.ref a_1, .int 0] [.ref a_14] d_X_compact_46 cI_X_57 rfl rfl rfl (Nat.le_of_ble_eq_true rfl) (Nat.le_of_ble_eq_true rfl) (c_Vinit h_23 (by omega) (by omega) (by omega) (fun Sb q1b q2b q3b q4b q5b => ?_))
          rw [hna_14] at q1b q2b q3b q4b q5b
          have hnb : Sb.2.1 = a_14 + 3 := by rw [q4b]
          have hzb : Sb.2.2 = S_15.2.2 + 8 := by rw [q4b]
          have h_24 : Sb.1 g.2.2.1 = some (.inr (2, [.ref (g.2.2.1 + 1), .ref (g.2.2.1 + 2), .int (nI T.ns), .int (nI T.nv), .ref (g.2.2.1 + 3), .ref (g.2.2.1 + 4), .ref (g.2.2.1 + 5)])) := (q5b _ (by omega) (by omega)).trans h_16
          have h_25 : Sb.1 (av j) = some (.inr (1, [.ref (as (T.vw j).st), .int ((T.vw j).sa), .int (nI (T.vw j).ax), .int (nI (T.vw j).it), .ref (av j + 1), .ref (av j + 2)])) := (q5b _ (by omega) (by omega)).trans h_17
          have h_26 : Sb.1 (av j + 1) = some (.inl (0, 4, .inl fe)) := (q5b _ (by omega) (by omega)).trans h_18
          have h_27 : Sb.1 (av j + 2) = some (.inl (0, 4, .inl fs)) := (q5b _ (by omega) (by omega)).trans h_19
          have h_28 : Sb.1 a_1 = some (.inr (0, [.int (nI T.ns), .int ln, .ref (a_1 + 1), .int 0])) := (q5b _ (by omega) (by omega)).trans h_20
          have h_29 : Sb.1 (a_1 + 1) = some (.inl (1, (T.vw j).it, .inr (.inl (fun _ => 0)))) := (q5b _ (by omega) (by omega)).trans h_21
          have hf_30 : ∀ q, q < S.2.1 → Sb.1 q = S.1 q := fun q hq => (q5b q (by omega) (by omega)).trans (hf_22 q hq)
          have hTb : sv_V Sb.1 a_14 a_1 0 0 0 (a_14 + 1) (a_14 + 2) (fun _ => 0) (fun _ => 0) := ⟨q1b, q2b, q3b, by omega, by omega⟩
          have hTb1 := hTb.1
          have hTb2 := hTb.2.1
          have hTb3 := hTb.2.2.1
          show am_W g (d + 3) mm_X_compact (49, [some (.ref g.2.2.1), some (.int (nI j)), some (.int ln), some (.ref (av j)), some (.ref a_1), none, none], [.ref a_14]) Sb _
          refine am_astore (L' := [some (.ref g.2.2.1), some (.int (nI j)), some (.int ln), some (.ref (av j)), some (.ref a_1), some (.ref a_14), none]) d_X_compact_49 (by decide) rfl rfl ?_
          refine am_aload d_X_compact_51 rfl ?_
          refine am_aloadn d_X_compact_53 rfl ?_
          refine am_iconst (-1) d_X_compact_54 (by decide) ?_
          have hVf1 : sv_V Sb.1 (av j) (as (T.vw j).st) (T.vw j).sa (T.vw j).ax (nI (T.vw j).it) (av j + 1) (av j + 2) fe fs := ⟨h_25, h_26, h_27, hV.2.2.2⟩
          refine am_cpsV [.ref (av j), .int (-1)] [] d_X_compact_55 cV_X_161 rfl hTb1 rfl rfl (Nat.le_of_ble_eq_true rfl) (Nat.le_of_ble_eq_true rfl) (c_addExt hTb hVf1 ⟨by omega, by omega, by omega⟩ ⟨by omega, by omega, by omega⟩ (-1) (fun Sc fec fsc hTc hfc hIc => ?_))
          have hnc := congrArg Prod.fst hfc.1
          have hzc := congrArg Prod.snd hfc.1
          have h_31 : Sc.1 g.2.2.1 = some (.inr (2, [.ref (g.2.2.1 + 1), .ref (g.2.2.1 + 2), .int (nI T.ns), .int (nI T.nv), .ref (g.2.2.1 + 3), .ref (g.2.2.1 + 4), .ref (g.2.2.1 + 5)])) := (hfc.2 _ (by omega) (by omega) (by omega)).trans h_24
          have h_32 : Sc.1 (av j) = some (.inr (1, [.ref (as (T.vw j).st), .int ((T.vw j).sa), .int (nI (T.vw j).ax), .int (nI (T.vw j).it), .ref (av j + 1), .ref (av j + 2)])) := (hfc.2 _ (by omega) (by omega) (by omega)).trans h_25
          have h_33 : Sc.1 (av j + 1) = some (.inl (0, 4, .inl fe)) := (hfc.2 _ (by omega) (by omega) (by omega)).trans h_26
          have h_34 : Sc.1 (av j + 2) = some (.inl (0, 4, .inl fs)) := (hfc.2 _ (by omega) (by omega) (by omega)).trans h_27
          have h_35 : Sc.1 a_1 = some (.inr (0, [.int (nI T.ns), .int ln, .ref (a_1 + 1), .int 0])) := (hfc.2 _ (by omega) (by omega) (by omega)).trans h_28
          have h_36 : Sc.1 (a_1 + 1) = some (.inl (1, (T.vw j).it, .inr (.inl (fun _ => 0)))) := (hfc.2 _ (by omega) (by omega) (by omega)).trans h_29
          have hf_37 : ∀ q, q < S.2.1 → Sc.1 q = S.1 q := fun q hq => (hfc.2 q (by omega) (by omega) (by omega)).trans (hf_30 q hq)
          show am_W g (d + 3) mm_X_compact (58, [some (.ref g.2.2.1), some (.int (nI j)), some (.int ln), some (.ref (av j)), some (.ref a_1), some (.ref a_14), none], []) Sc _
          rw [sv_cnt_none _ (by omega)] at hTc
          have hTc1 := hTc.1
          have hTc2 := hTc.2.1
          have hTc3 := hTc.2.2.1
          have hEc : ∀ k, k < (T.vw j).ax → fec k = nI ((T.vw j).ex k) := fun k hk => by
            have h7 := (hIc k hk (sv_neg1 (by omega))).1
            rw [sv_cnt_none _ (by omega)] at h7
            rw [h7]; exact hE k hk
          refine am_aload d_X_compact_58 rfl ?_
          refine am_cpsV [] [] d_X_compact_60 cV_X_164 rfl hTc1 rfl rfl (Nat.le_of_ble_eq_true rfl) (Nat.le_of_ble_eq_true rfl) (c_lie hTc (fun Sd fsd hTd hfd hId => ?_))
          have hnd := congrArg Prod.fst hfd.1
          have hzd := congrArg Prod.snd hfd.1
          have h_38 : Sd.1 g.2.2.1 = some (.inr (2, [.ref (g.2.2.1 + 1), .ref (g.2.2.1 + 2), .int (nI T.ns), .int (nI T.nv), .ref (g.2.2.1 + 3), .ref (g.2.2.1 + 4), .ref (g.2.2.1 + 5)])) := (hfd.2 _ (by omega) (by omega) (by omega)).trans h_31
          have h_39 : Sd.1 (av j) = some (.inr (1, [.ref (as (T.vw j).st), .int ((T.vw j).sa), .int (nI (T.vw j).ax), .int (nI (T.vw j).it), .ref (av j + 1), .ref (av j + 2)])) := (hfd.2 _ (by omega) (by omega) (by omega)).trans h_32
          have h_40 : Sd.1 (av j + 1) = some (.inl (0, 4, .inl fe)) := (hfd.2 _ (by omega) (by omega) (by omega)).trans h_33
          have h_41 : Sd.1 (av j + 2) = some (.inl (0, 4, .inl fs)) := (hfd.2 _ (by omega) (by omega) (by omega)).trans h_34
          have h_42 : Sd.1 a_1 = some (.inr (0, [.int (nI T.ns), .int ln, .ref (a_1 + 1), .int 0])) := (hfd.2 _ (by omega) (by omega) (by omega)).trans h_35
          have h_43 : Sd.1 (a_1 + 1) = some (.inl (1, (T.vw j).it, .inr (.inl (fun _ => 0)))) := (hfd.2 _ (by omega) (by omega) (by omega)).trans h_36
          have hf_44 : ∀ q, q < S.2.1 → Sd.1 q = S.1 q := fun q hq => (hfd.2 q (by omega) (by omega) (by omega)).trans (hf_37 q hq)
          show am_W g (d + 3) mm_X_compact (63, [some (.ref g.2.2.1), some (.int (nI j)), some (.int ln), some (.ref (av j)), some (.ref a_1), some (.ref a_14), none], []) Sd _
          have hTd1 := hTd.1
          have hTd2 := hTd.2.1
          have hTd3 := hTd.2.2.1
          have hSd : ∀ k, k < (T.vw j).ax → fsd k = sv_rs (T.vw j).ex (T.vw j).ax k := fun k hk => by rw [hId k hk, sv_bk_dp hEc _ (by omega)]; rfl
          refine am_aloadn d_X_compact_63 rfl ?_
          refine am_aloadn d_X_compact_64 rfl ?_
          refine am_aloadn d_X_compact_65 rfl ?_
          have hCd : sv_C g lo Sd T as av := hC.up (fun q hq => hf_44 q (by omega)) (by omega)
          refine am_cpsV [.ref (av j), .ref (av j)] [] d_X_compact_66 cV_X_167 rfl h_38 rfl rfl (Nat.le_of_ble_eq_true rfl) (Nat.le_of_ble_eq_true rfl) (c_readC hCd hj hj ⟨Nat.le_refl _, fun k hk => Or.inr (by rw [Nat.sub_self]; rfl)⟩ (fun Se Fp Fn hCe hze hfe hpe hne hGe => ?_))
          have hne1 := congrArg Prod.fst hze
          have hze1 := congrArg Prod.snd hze
          have hTe := hTd.of (M' := Se.1) (hfe _ (by omega) (by omega)) (hfe _ (by omega) (by omega)) (hfe _ (by omega) (by omega))
          have h_45 : Se.1 g.2.2.1 = some (.inr (2, [.ref (g.2.2.1 + 1), .ref (g.2.2.1 + 2), .int (nI T.ns), .int (nI T.nv), .ref (g.2.2.1 + 3), .ref (g.2.2.1 + 4), .ref (g.2.2.1 + 5)])) := (hfe _ (by omega) (by omega)).trans h_38
          have h_46 : Se.1 a_1 = some (.inr (0, [.int (nI T.ns), .int ln, .ref (a_1 + 1), .int 0])) := (hfe _ (by omega) (by omega)).trans h_42
          have h_47 : Se.1 (a_1 + 1) = some (.inl (1, (T.vw j).it, .inr (.inl (fun _ => 0)))) := (hfe _ (by omega) (by omega)).trans h_43
          show am_W g (d + 3) mm_X_compact (69, [some (.ref g.2.2.1), some (.int (nI j)), some (.int ln), some (.ref (av j)), some (.ref a_1), some (.ref a_14), none], []) Se _
          refine am_aloadn d_X_compact_69 rfl ?_
          refine am_aload d_X_compact_70 rfl ?_
          refine am_cpsV [.ref a_1] [] d_X_compact_72 cV_X_63 rfl h_45 rfl rfl (Nat.le_of_ble_eq_true rfl) (Nat.le_of_ble_eq_true rfl) (c_keepS hCe hr12 (sz := (T.vw j).it) (ln := ln) (f := fun _ => 0) h300 ⟨h_46, h_47⟩ (by omega) (by omega) (fun Sf hCf hzf hff => ?_))
          have hnf := congrArg Prod.fst hzf
          have hzf1 := congrArg Prod.snd hzf
          show am_W g (d + 3) mm_X_compact (75, [some (.ref g.2.2.1), some (.int (nI j)), some (.int ln), some (.ref (av j)), some (.ref a_1), some (.ref a_14), none], []) Sf _
          obtain ⟨qsf, qvf, fpf, fnf, fmf, ⟨hxf, -, -, -, -, -⟩, -, -, -, -, -, -, -⟩ := id hCf
          refine am_aloadn d_X_compact_75 rfl ?_
          refine am_aload d_X_compact_76 rfl ?_
          have hVn : sv_V Sf.1 a_14 (if T.ns = T.ns then a_1 else as T.ns) 0 (T.vw j).ax 0 (a_14 + 1) (a_14 + 2) fec fsd := by rw [if_pos rfl]; exact hTe.of (hff _ (by omega) (by omega)) (hff _ (by omega) (by omega)) (hff _ (by omega) (by omega))
          have hinn : sv_in ((T.ns, 0, (T.vw j).ax, (T.vw j).ex, sv_rs (T.vw j).ex (T.vw j).ax) : sv_A) (T.vw j).it := sv_in_row h300
          refine am_cpsV [.ref a_14] [] d_X_compact_78 cV_X_67 rfl hxf rfl rfl (Nat.le_of_ble_eq_true rfl) (Nat.le_of_ble_eq_true rfl) (c_keepV (a := (T.ns, 0, (T.vw j).ax, (T.vw j).ex, sv_rs (T.vw j).ex (T.vw j).ax)) hCf hVn hEc hSd w3 (show T.ns < T.ns + 1 by omega) (fun _ i hi => by show vp_in _ (if T.ns = T.ns then (T.vw j).it else _); rw [if_pos rfl]; exact hinn i hi) (by omega) (by omega) ⟨by omega, by omega⟩ (fun hno => absurd ⟨hr80, (show sv_pr (T.vw j).ex (T.vw j).ax ≤ 3000 by omega)⟩ hno) (fun _ _ Sg hCg hzg hfg => ?_))
          have hng := congrArg Prod.fst hzg
          have hzg1 := congrArg Prod.snd hzg
          show am_W g (d + 3) mm_X_compact (81, [some (.ref g.2.2.1), some (.int (nI j)), some (.int ln), some (.ref (av j)), some (.ref a_1), some (.ref a_14), none], [.int (nI T.nv)]) Sg _
          obtain ⟨qsg, qvg, fpg, fng, fmg, ⟨hxg, -, -, -, -, -⟩, -, -, -, -, -, -, -⟩ := id hCg
          refine am_istore (L' := [some (.ref g.2.2.1), some (.int (nI j)), some (.int ln), some (.ref (av j)), some (.ref a_1), some (.ref a_14), some (.int (nI T.nv))]) d_X_compact_81 (by decide) rfl rfl ?_
          refine am_aloadn d_X_compact_83 rfl ?_
          refine am_aload d_X_compact_84 rfl ?_
          have hstn : (fun i => if i = T.ns then a_1 else as i) T.ns = a_1 := if_pos rfl
          have hfg : ∀ q, q ≠ g.2.2.1 → q ≠ g.2.2.1 + 2 → q ≠ a_1 → q ≠ a_14 → q ≠ a_14 + 1 → q ≠ a_14 + 2 → Sg.1 q = Sf.1 q := fun q h1 h2 h3 h4 h5 h6 => hfg q h1 h2 (by show q ≠ (if T.ns = T.ns then a_1 else as T.ns); rw [if_pos rfl]; exact h3) h4 h5 h6
          have hng4 : Sg.1 (g.2.2.1 + 4) = some (.inl (1, 3000, .inr (.inl Fn))) := (hfg _ (by omega) (by omega) (by omega) (by omega) (by omega) (by omega)).trans ((hff _ (by omega) (by omega)).trans hne)
          have hgn : ∀ i, i < (sv_set ((T.ns, 0, (T.vw j).ax, (T.vw j).ex, sv_rs (T.vw j).ex (T.vw j).ax) : sv_A)).it → Fn i = T.at (T.vw j) i := fun i hi => (hGe i hi).trans (by show T.nu (T.vw j).st _ = T.nu (T.vw j).st _; rw [sv_sh_self])
          refine am_cpsV [.ref a_14] [] d_X_compact_86 cV_X_170 rfl hxg rfl rfl (Nat.le_of_ble_eq_true rfl) (Nat.le_of_ble_eq_true rfl) (c_writeW hCg (k := T.nv) (show T.nv < T.nv + 1 by omega) (if_pos rfl) (b := sv_set ((T.ns, 0, (T.vw j).ax, (T.vw j).ex, sv_rs (T.vw j).ex (T.vw j).ax) : sv_A)) (if_pos rfl) hng4 hgn (fun Sh hCh hzh hfh => ?_))
          have hnh := congrArg Prod.fst hzh
          have hzh1 := congrArg Prod.snd hzh
          show am_W g (d + 3) mm_X_compact (89, [some (.ref g.2.2.1), some (.int (nI j)), some (.int ln), some (.ref (av j)), some (.ref a_1), some (.ref a_14), some (.int (nI T.nv))], [.int (nI (sv_wr (((T.addS ln (T.vw j).it (fun _ => 0)).addV (sv_set (T.ns, 0, (T.vw j).ax, (T.vw j).ex, sv_rs (T.vw j).ex (T.vw j).ax))).ln (sv_set ((T.ns, 0, (T.vw j).ax, (T.vw j).ex, sv_rs (T.vw j).ex (T.vw j).ax) : sv_A)).st) (sv_set ((T.ns, 0, (T.vw j).ax, (T.vw j).ex, sv_rs (T.vw j).ex (T.vw j).ax) : sv_A)).pl (T.at (T.vw j)) (((T.addS ln (T.vw j).it (fun _ => 0)).addV (sv_set (T.ns, 0, (T.vw j).ax, (T.vw j).ex, sv_rs (T.vw j).ex (T.vw j).ax))).nu (sv_set ((T.ns, 0, (T.vw j).ax, (T.vw j).ex, sv_rs (T.vw j).ex (T.vw j).ax) : sv_A)).st) (sv_set ((T.ns, 0, (T.vw j).ax, (T.vw j).ex, sv_rs (T.vw j).ex (T.vw j).ax) : sv_A)).it).2)]) Sh _
          refine am_pop d_X_compact_89 rfl ?_
          refine am_iload d_X_compact_90 rfl ?_
          have hln : ((T.addS ln (T.vw j).it (fun _ => 0)).addV (sv_set (T.ns, 0, (T.vw j).ax, (T.vw j).ex, sv_rs (T.vw j).ex (T.vw j).ax))).ln (sv_set ((T.ns, 0, (T.vw j).ax, (T.vw j).ex, sv_rs (T.vw j).ex (T.vw j).ax) : sv_A)).st = ln := if_pos rfl
          have hnu : ((T.addS ln (T.vw j).it (fun _ => 0)).addV (sv_set (T.ns, 0, (T.vw j).ax, (T.vw j).ex, sv_rs (T.vw j).ex (T.vw j).ax))).nu (sv_set ((T.ns, 0, (T.vw j).ax, (T.vw j).ex, sv_rs (T.vw j).ex (T.vw j).ax) : sv_A)).st = (fun _ => 0) := if_pos rfl
          have hrow : (sv_wr (((T.addS ln (T.vw j).it (fun _ => 0)).addV (sv_set (T.ns, 0, (T.vw j).ax, (T.vw j).ex, sv_rs (T.vw j).ex (T.vw j).ax))).ln (sv_set ((T.ns, 0, (T.vw j).ax, (T.vw j).ex, sv_rs (T.vw j).ex (T.vw j).ax) : sv_A)).st) (sv_set ((T.ns, 0, (T.vw j).ax, (T.vw j).ex, sv_rs (T.vw j).ex (T.vw j).ax) : sv_A)).pl (T.at (T.vw j)) (((T.addS ln (T.vw j).it (fun _ => 0)).addV (sv_set (T.ns, 0, (T.vw j).ax, (T.vw j).ex, sv_rs (T.vw j).ex (T.vw j).ax))).nu (sv_set ((T.ns, 0, (T.vw j).ax, (T.vw j).ex, sv_rs (T.vw j).ex (T.vw j).ax) : sv_A)).st) (sv_set ((T.ns, 0, (T.vw j).ax, (T.vw j).ex, sv_rs (T.vw j).ex (T.vw j).ax) : sv_A)).it).1 = fun i => if i < (T.vw j).it then sv_low ln (T.at (T.vw j) i) else 0 := by
            rw [hln, hnu]
            exact sv_wr_row (N := (T.vw j).it) (by omega) (T.vw j).it (Nat.le_refl _) (fun i hi => (sv_set_pl (a := (T.ns, 0, (T.vw j).ax, (T.vw j).ex, sv_rs (T.vw j).ex (T.vw j).ax)) hi).trans (by show 0 + sv_pl (T.vw j).ex (sv_rs (T.vw j).ex (T.vw j).ax) (T.vw j).ax i = nI i; rw [sv_rs_pl hi, Int32.zero_add]))
          have hTT : (((T.addS ln (T.vw j).it (fun _ => 0)).addV (sv_set (T.ns, 0, (T.vw j).ax, (T.vw j).ex, sv_rs (T.vw j).ex (T.vw j).ax))).wr (sv_set (T.ns, 0, (T.vw j).ax, (T.vw j).ex, sv_rs (T.vw j).ex (T.vw j).ax)) (T.at (T.vw j))).2.2 = (T.addS ln (T.vw j).it (fun i => if i < (T.vw j).it then sv_low ln (T.at (T.vw j) i) else 0)).addV (sv_set (T.ns, 0, (T.vw j).ax, (T.vw j).ex, sv_rs (T.vw j).ex (T.vw j).ax)) := by
            show ((T.addS ln (T.vw j).it (fun _ => 0)).addV (sv_set (T.ns, 0, (T.vw j).ax, (T.vw j).ex, sv_rs (T.vw j).ex (T.vw j).ax))).setS T.ns (sv_wr (((T.addS ln (T.vw j).it (fun _ => 0)).addV (sv_set (T.ns, 0, (T.vw j).ax, (T.vw j).ex, sv_rs (T.vw j).ex (T.vw j).ax))).ln (sv_set ((T.ns, 0, (T.vw j).ax, (T.vw j).ex, sv_rs (T.vw j).ex (T.vw j).ax) : sv_A)).st) (sv_set ((T.ns, 0, (T.vw j).ax, (T.vw j).ex, sv_rs (T.vw j).ex (T.vw j).ax) : sv_A)).pl (T.at (T.vw j)) (((T.addS ln (T.vw j).it (fun _ => 0)).addV (sv_set (T.ns, 0, (T.vw j).ax, (T.vw j).ex, sv_rs (T.vw j).ex (T.vw j).ax))).nu (sv_set ((T.ns, 0, (T.vw j).ax, (T.vw j).ex, sv_rs (T.vw j).ex (T.vw j).ax) : sv_A)).st) (sv_set ((T.ns, 0, (T.vw j).ax, (T.vw j).ex, sv_rs (T.vw j).ex (T.vw j).ax) : sv_A)).it).1 = _
            rw [hrow]
            exact sv_addS_setS
          rw [hTT] at hCh
          rw [sv_kp, if_pos ⟨(show T.nv < 80 from hr80), (show sv_pr (T.vw j).ex (T.vw j).ax ≤ 3000 by omega)⟩]
          have hfh : ∀ q, q ≠ g.2.2.1 + 3 → q ≠ a_1 + 1 → Sh.1 q = Sg.1 q := fun q h1 h2 => hfh q h1 (by show q ≠ (if T.ns = T.ns then a_1 else as T.ns) + 1; rw [if_pos rfl]; exact h2)
          exact am_iret d_X_compact_92 rfl (sv_O.ret hCh ⟨fun q h1 h2 => (hfh q (by omega) (by omega)).trans ((hfg q (by omega) (by omega) (by omega) (by omega) (by omega) (by omega)).trans ((hff q (by omega) (by omega)).trans ((hfe q (by omega) (by omega)).trans (hf_44 q (by omega))))), by omega, by omega, by omega, by omega⟩)
