/-! fold -/
set_option maxHeartbeats 4000000 in
set_option maxRecDepth 100000 in
/-- foldInto -/
theorem c_foldC {g : am_G} {d : Nat} {S : am_S} {lo : Nat} {T : sv_T} {as av : Nat → Nat} (hC : sv_C g lo S T as av) {j k s : Nat} (hj : j < T.nv) (hk : k < (T.vw j).ax) {num ln vo t0 : Int32} (hs0 : S.1 s = some (.inr (0, [.int num, .int ln, .ref (s + 1), .int vo]))) (hr0 : S.1 (s + 1) = some (.inl (1, (sv_pr (sv_rem (T.vw j).ex k) ((T.vw j).ax - 1)), .inr (.inl (fun _ => 0))))) (hN : (sv_pr (sv_rem (T.vw j).ex k) ((T.vw j).ax - 1)) ≤ 300) (hsl : lo ≤ s) {w sw : Nat} {fe2 fs2 : Nat → Int32} (hW : sv_V S.1 w sw 0 ((T.vw j).ax - 1) 0 (w + 1) (w + 2) fe2 fs2) (hWE : ∀ i, i < (T.vw j).ax - 1 → fe2 i = nI (sv_rem (T.vw j).ex k i)) (hWS : ∀ i, i < (T.vw j).ax - 1 → fs2 i = sv_rs (sv_rem (T.vw j).ex k) ((T.vw j).ax - 1) i) (hwl : s + 2 ≤ w) (hwh : w + 3 ≤ S.2.1) (hr : sv_R g S 3 14) {P : am_O → am_S → Prop} (hP : ∀ S1 : am_S, S1.1 (s + 1) = some (.inl (1, (sv_pr (sv_rem (T.vw j).ex k) ((T.vw j).ax - 1)), .inr (.inl (sv_fo t0 (sv_wo (T.vw j).ex k (T.vw j).ax) (T.at (T.vw j)) (fun i => if i < (sv_pr (sv_rem (T.vw j).ex k) ((T.vw j).ax - 1)) then sv_neu t0 else 0) (T.vw j).it)))) → S1.2 = (S.2.1 + 3, S.2.2 + 14) → (∀ q, q < S.2.1 → q ≠ g.2.2.1 + 3 → q ≠ g.2.2.1 + 4 → q ≠ s + 1 → S1.1 q = S.1 q) → ∀ fp1, S1.1 (g.2.2.1 + 3) = some (.inl (0, 3000, .inl fp1)) → ∀ fn1, S1.1 (g.2.2.1 + 4) = some (.inl (1, 3000, .inr (.inl fn1))) → P (.inl none) S1) : am_W g (d + 2) mm_X_foldInto (0, am_ent [.ref g.2.2.1, .ref s, .int t0, .ref (av j), .ref w, .int (nI k)] 8, []) S P := by
  obtain ⟨qs, qv, fp, fn, fm, ⟨hx, hq1, hq2, h3, h4, h5⟩, hs, hv, i1, i2, hB, hlo, hw⟩ := id hC
  have h80 := hw.2.1
  obtain ⟨hr1, hr2⟩ := hr
  show am_W g (d + 2) mm_X_foldInto (0, [some (.ref g.2.2.1), some (.ref s), some (.int t0), some (.ref (av j)), some (.ref w), some (.int (nI k)), none, none], []) S _
  obtain ⟨b1, b2, b3, fe, fs, hV, hE, hS⟩ := hv j hj
  obtain ⟨w1, w2, w3, w4, w5, w6, w7⟩ := hw.2.2.2 j hj
  obtain ⟨s1, s2, s3, s4, s5⟩ := hs (T.vw j).st w1
  have hv1 := hV.1
  refine am_iconst 0 d_X_foldInto_0 (by decide) ?_
  refine am_istore (L' := [some (.ref g.2.2.1), some (.ref s), some (.int t0), some (.ref (av j)), some (.ref w), some (.int (nI k)), some (.int 0), none]) d_X_foldInto_1 (by decide) rfl rfl ?_
  have hrr := hw.2.2.1 _ w1
  refine c_fold_1 hs0 hr0 hN (fun S1 hr1 hf1 z8 => ?_) (sv_pr (sv_rem (T.vw j).ex k) ((T.vw j).ax - 1)) 0 (Nat.zero_add _) S _ hr0 sv_f1.rf (by funext i; rw [if_neg (Nat.not_lt_zero i)])
  show am_W g (d + 2) mm_X_foldInto (30, [some (.ref g.2.2.1), some (.ref s), some (.int t0), some (.ref (av j)), some (.ref w), some (.int (nI k)), some (.int z8), none], []) S1 _
  have hn1 := congrArg Prod.fst hf1.1
  have hz1 := congrArg Prod.snd hf1.1
  have hC1 : sv_C g lo S1 T as av := hC.up (fun q hq => hf1.2 q (by omega)) (by omega)
  obtain ⟨qsb, qvb, fpb, fnb, fmb, ⟨hxb, hq1b, hq2b, h3b, h4b, h5b⟩, hsb, hvb, -, -, -, hlob, -⟩ := id hC1
  refine am_aloadn d_X_foldInto_30 rfl ?_
  refine am_aloadn d_X_foldInto_31 rfl ?_
  refine am_aloadn d_X_foldInto_32 rfl ?_
  refine am_cpsV [.ref (av j), .ref (av j)] [] d_X_foldInto_33 cV_X_167 rfl hxb rfl rfl (Nat.le_of_ble_eq_true rfl) (Nat.le_of_ble_eq_true rfl) (c_readC hC1 hj hj ⟨Nat.le_refl _, fun k hk => Or.inr (by rw [Nat.sub_self]; rfl)⟩ (fun S2 Fp2 Fn2 hC2 hz2 hf2 hp2 hn2 hG2 => ?_))
  show am_W g (d + 2) mm_X_foldInto (36, [some (.ref g.2.2.1), some (.ref s), some (.int t0), some (.ref (av j)), some (.ref w), some (.int (nI k)), some (.int z8), none], []) S2 _
  have hn2a := congrArg Prod.fst hz2
  have hz2a := congrArg Prod.snd hz2
  have hfa : ∀ q, q ≠ g.2.2.1 + 3 → q ≠ g.2.2.1 + 4 → q ≠ s + 1 → S2.1 q = S.1 q := fun q h1 h2 h3 => (hf2 q h1 h2).trans (hf1.2 q h3)
  have hW2 := hW.of (M' := S2.1) (hfa _ (by omega) (by omega) (by omega)) (hfa _ (by omega) (by omega) (by omega)) (hfa _ (by omega) (by omega) (by omega))
  have hW21 := hW2.1
  have hW22 := hW2.2.1
  have hW23 := hW2.2.2.1
  refine am_aload d_X_foldInto_36 rfl ?_
  refine am_cpsV [] [] d_X_foldInto_38 cV_X_86 rfl hW21 rfl rfl (Nat.le_of_ble_eq_true rfl) (Nat.le_of_ble_eq_true rfl) (c_twin hW2 (by omega) (by omega) (by omega) (by omega) (by omega) (fun S3 fe3 fs3 hT3 hz3 hf3 hI3 => ?_))
  rw [hn2a, hn1] at hT3 hz3 hf3
  rw [hz2a, hz1] at hz3
  rw [hn2a, hn1]
  show am_W g (d + 2) mm_X_foldInto (41, [some (.ref g.2.2.1), some (.ref s), some (.int t0), some (.ref (av j)), some (.ref w), some (.int (nI k)), some (.int z8), none], [.ref S.2.1]) S3 _
  have hn3a : S3.2.1 = S.2.1 + 3 := by rw [hz3]
  have hz3a : S3.2.2 = S.2.2 + 14 := by rw [hz3]
  have hC3 : sv_C g lo S3 T as av := hC2.up (fun q hq => hf3 q (by omega)) (by omega)
  obtain ⟨qsd, qvd, fpd, fnd, fmd, ⟨hxd, hq1d, hq2d, h3d, h4d, h5d⟩, hsd, hvd, -, -, -, hlod, -⟩ := id hC3
  obtain ⟨b1d, b2d, b3d, fed, fsd, hVd, hEd, hSd⟩ := hvd j hj
  obtain ⟨s1d, s2d, s3d, s4d, s5d⟩ := hsd (T.vw j).st w1
  have hv1d := hVd.1
  have hT31 := hT3.1
  have hT32 := hT3.2.1
  have hT33 := hT3.2.2.1
  refine am_astore (L' := [some (.ref g.2.2.1), some (.ref s), some (.int t0), some (.ref (av j)), some (.ref w), some (.int (nI k)), some (.ref S.2.1), none]) d_X_foldInto_41 (by decide) rfl rfl ?_
  refine am_aload d_X_foldInto_43 rfl ?_
  refine am_iload d_X_foldInto_45 rfl ?_
  refine am_aloadn d_X_foldInto_47 rfl ?_
  refine am_get d_X_foldInto_48 fl_X_79 hv1d rfl ?_
  refine am_iload d_X_foldInto_51 rfl ?_
  refine am_ialdN (t := 0) (k := k) d_X_foldInto_53 rfl hVd.2.1 (by omega) (by omega) ?_
  refine am_ti (b := nI ((T.vw j).ex k)) (hEd k hk) ?_
  refine am_iconst 0 d_X_foldInto_54 (by decide) ?_
  refine am_cpsV [.int (nI k), .int (nI ((T.vw j).ex k)), .int 0] [] d_X_foldInto_55 cV_X_60 rfl hT31 rfl rfl (Nat.le_of_ble_eq_true rfl) (Nat.le_of_ble_eq_true rfl) (c_insert hT3 (j := k) (nI ((T.vw j).ex k)) 0 (by omega) (by omega) (fun S4 fe4 fs4 hT4 hf4 hI4 => ?_))
  show am_W g (d + 2) mm_X_foldInto (58, [some (.ref g.2.2.1), some (.ref s), some (.int t0), some (.ref (av j)), some (.ref w), some (.int (nI k)), some (.ref S.2.1), none], []) S4 _
  have hn4a := congrArg Prod.fst hf4.1
  have hz4a := congrArg Prod.snd hf4.1
  have hax : (T.vw j).ax - 1 + 1 = (T.vw j).ax := by omega
  rw [hax] at hT4 hI4
  have hE4 : ∀ i, i < (T.vw j).ax → fe4 i = nI ((T.vw j).ex i) := fun i hi => by
    rw [(hI4 i hi).1, ← congrFun (sv_ins_rem (T.vw j).ex k) i]
    simp only [sv_ins]; split
    · rw [(hI3 i (by omega)).1]; exact hWE i (by omega)
    · split
      · rfl
      · rw [(hI3 (i - 1) (by omega)).1]; exact hWE (i - 1) (by omega)
  have hS4 : ∀ i, i < (T.vw j).ax → fs4 i = sv_ins (sv_rs (sv_rem (T.vw j).ex k) ((T.vw j).ax - 1)) k 0 i := fun i hi => by
    rw [(hI4 i hi).2]
    simp only [sv_ins]; split
    · rw [(hI3 i (by omega)).2]; exact hWS i (by omega)
    · split
      · rfl
      · rw [(hI3 (i - 1) (by omega)).2]; exact hWS (i - 1) (by omega)
  have hT41 := hT4.1
  have hT42 := hT4.2.1
  have hT43 := hT4.2.2.1
  refine am_aload d_X_foldInto_58 rfl ?_
  refine am_cpsV [] [] d_X_foldInto_60 cV_X_136 rfl hT41 rfl rfl (Nat.le_of_ble_eq_true rfl) (Nat.le_of_ble_eq_true rfl) (c_settle hT4 (T.vw j).ex hE4 w3 (fun S5 fs5 hT5 hf5 hI5 => ?_))
  show am_W g (d + 2) mm_X_foldInto (63, [some (.ref g.2.2.1), some (.ref s), some (.int t0), some (.ref (av j)), some (.ref w), some (.int (nI k)), some (.ref S.2.1), none], []) S5 _
  have hn5a := congrArg Prod.fst hf5.1
  have hz5a := congrArg Prod.snd hf5.1
  have hmn : min (sv_pr (T.vw j).ex (T.vw j).ax) 2147483647 = (T.vw j).it := Nat.min_eq_left (by show (T.vw j).it ≤ _; omega)
  rw [hmn] at hT5 hI5
  have hsa : (if (T.vw j).it = 0 then (0 : Int32) else 0) = 0 := by split <;> rfl
  rw [hsa] at hT5
  have hfb : ∀ q, q ≠ S.2.1 → q ≠ S.2.1 + 1 → q ≠ S.2.1 + 2 → S5.1 q = S3.1 q := fun q h1 h2 h3 => (hf5.2 q h1 h2 h3).trans (hf4.2 q h1 h2 h3)
  have hC5 : sv_C g lo S5 T as av := hC3.up (fun q hq => hfb q (by omega) (by omega) (by omega)) (by omega)
  obtain ⟨qse, qve, fpe, fne, fme, ⟨hxe, hq1e, hq2e, h3e, h4e, h5e⟩, hse, hve, -, -, -, hloe, -⟩ := id hC5
  refine am_aloadn d_X_foldInto_63 rfl ?_
  refine am_aload d_X_foldInto_64 rfl ?_
  refine am_aload d_X_foldInto_66 rfl ?_
  refine am_cpsV [.ref S.2.1, .ref S.2.1] [] d_X_foldInto_68 cV_X_144 rfl hxe rfl rfl (Nat.le_of_ble_eq_true rfl) (Nat.le_of_ble_eq_true rfl) (c_layOut hxe h3e hT5 hT5 (T.vw j).ex hE4 w3 rfl w4 (Nat.le_refl _) (fun S6 Fp6 hp6 hf6 hG6 => ?_))
  show am_W g (d + 2) mm_X_foldInto (71, [some (.ref g.2.2.1), some (.ref s), some (.int t0), some (.ref (av j)), some (.ref w), some (.int (nI k)), some (.ref S.2.1), none], []) S6 _
  have hn6a := congrArg Prod.fst hf6.1
  have hz6a := congrArg Prod.snd hf6.1
  have hA6 : ∀ t, t < (T.vw j).it → Fp6 t = nI (sv_wo (T.vw j).ex k (T.vw j).ax t) := fun t ht => by
    rw [hG6 t ht, Nat.sub_self, sv_sh_0, ← sv_wo_pl hk]
    have h7 := sv_set_pl (a := (0, 0, (T.vw j).ax, (T.vw j).ex, sv_ins (sv_rs (sv_rem (T.vw j).ex k) ((T.vw j).ax - 1)) k 0)) ht
    have h8 : (0 : Int32) + sv_pl (T.vw j).ex fs5 (T.vw j).ax t = 0 + sv_pl (T.vw j).ex (fun i => if (sv_pr (T.vw j).ex (T.vw j).ax = 0 ∨ (T.vw j).ex i < 2) then 0 else sv_ins (sv_rs (sv_rem (T.vw j).ex k) ((T.vw j).ax - 1)) k 0 i) (T.vw j).ax t := congrArg _ (sv_pl_congr (fun _ _ => rfl) (fun i hi => by rw [hI5 i hi, hS4 i hi]))
    rw [h8]
    have h9 : (if sv_pr (T.vw j).ex (T.vw j).ax = 0 then (0 : Int32) else 0) + sv_pl (T.vw j).ex (fun i => if (sv_pr (T.vw j).ex (T.vw j).ax = 0 ∨ (T.vw j).ex i < 2) then 0 else sv_ins (sv_rs (sv_rem (T.vw j).ex k) ((T.vw j).ax - 1)) k 0 i) (T.vw j).ax t = 0 + sv_pl (T.vw j).ex (sv_ins (sv_rs (sv_rem (T.vw j).ex k) ((T.vw j).ax - 1)) k 0) (T.vw j).ax t := h7
    rw [show (if sv_pr (T.vw j).ex (T.vw j).ax = 0 then (0 : Int32) else 0) = 0 by split <;> rfl] at h9
    rw [h9, Int32.zero_add]
  have hfc : ∀ q, q < S.2.1 → q ≠ g.2.2.1 + 3 → q ≠ g.2.2.1 + 4 → S6.1 q = S1.1 q := fun q h1 h2 h3 => (hf6.2 q h2).trans ((hfb q (by omega) (by omega) (by omega)).trans ((hf3 q h1).trans (hf2 q h2 h3)))
  have hx6 := (hf6.2 _ (by omega)).trans hxe
  have hs6 := (hfc s (by omega) (by omega) (by omega)).trans ((hf1.2 s (by omega)).trans hs0)
  have hr6 := (hfc (s + 1) (by omega) (by omega) (by omega)).trans hr1
  have hn6 := (hf6.2 (g.2.2.1 + 4) (by omega)).trans ((hfb _ (by omega) (by omega) (by omega)).trans ((hf3 _ (by omega)).trans hn2))
  have hu6 := (hf6.2 S.2.1 (by omega)).trans hT5.1
  refine am_iconst 0 d_X_foldInto_71 (by decide) ?_
  refine am_istore (L' := [some (.ref g.2.2.1), some (.ref s), some (.int t0), some (.ref (av j)), some (.ref w), some (.int (nI k)), some (.ref S.2.1), some (.int 0)]) d_X_foldInto_72 (by decide) rfl rfl ?_
  refine c_fold_2 hx6 hs6 hr6 hN hp6 (nu := T.at (T.vw j)) hn6 hu6 w4 (A := sv_wo (T.vw j).ex k (T.vw j).ax) hA6 (fun t ht => (hG2 t ht).trans (by show T.nu (T.vw j).st _ = T.nu (T.vw j).st _; rw [sv_sh_self])) (fun t ht => sv_wo_lt hk ht) (by omega) (fun S7 hr7 hf7 => ?_) (T.vw j).it 0 (Nat.zero_add _) S6 hr6 sv_f1.rf
  have hn7a := congrArg Prod.fst hf7.1
  have hz7a := congrArg Prod.snd hf7.1
  exact hP S7 hr7 (Prod.ext (by show S7.2.1 = S.2.1 + 3; omega) (by show S7.2.2 = S.2.2 + 14; omega)) (fun q h1 h2 h3 h4 => (hf7.2 q h4).trans ((hfc q h1 h2 h3).trans (hf1.2 q h4))) Fp6 ((hf7.2 _ (by omega)).trans hp6) Fn2 ((hf7.2 _ (by omega)).trans hn6)
set_option maxHeartbeats 4000000 in
set_option maxRecDepth 100000 in
/-- X_fold -/
theorem x_fold {g : am_G} {d : Nat} {S : am_S} {lo : Nat} {T : sv_T} {as av : Nat → Nat} (hC : sv_C g lo S T as av) (hr : sv_R g S 16 700) {t0 i x : Int32} : am_W g (d + 3) mm_X_fold (0, am_ent [.ref g.2.2.1, .int t0, .int i, .int x] 8, []) S (sv_O g S (q_fold T t0 i x)) := by
  obtain ⟨qs, qv, fp, fn, fm, ⟨hx, hq1, hq2, h3, h4, h5⟩, hs, hv, i1, i2, hB, hlo, hw⟩ := id hC
  have h80 := hw.2.1
  obtain ⟨hr1, hr2⟩ := hr
  show am_W g (d + 3) mm_X_fold (0, [some (.ref g.2.2.1), some (.int t0), some (.int i), some (.int x), none, none, none, none], []) S _
  refine am_aloadn d_X_fold_0 rfl ?_
  refine am_iloadn d_X_fold_1 rfl ?_
  refine am_cpsV [.int i] [] d_X_fold_2 cV_X_71 rfl hx rfl rfl (Nat.le_of_ble_eq_true rfl) (Nat.le_of_ble_eq_true rfl) (c_viewP hC (i := i) (hr := ⟨by omega, by omega⟩) (fun hno => ?_) (fun j hj hi => ?_))
  · rw [q_fold, sv_qv_no hno]
    exact sv_O.thr0 hC (by decide)
  · skip
    show am_W g (d + 3) mm_X_fold (5, [some (.ref g.2.2.1), some (.int t0), some (.int i), some (.int x), none, none, none, none], [.ref (av j)]) S _
    rw [hi, q_fold, sv_qv_j hj h80]
    show am_W g (d + 3) mm_X_fold (5, [some (.ref g.2.2.1), some (.int t0), some (.int (nI j)), some (.int x), none, none, none, none], [.ref (av j)]) S _
    obtain ⟨b1, b2, b3, fe, fs, hV, hE, hS⟩ := hv j hj
    obtain ⟨w1, w2, w3, w4, w5, w6, w7⟩ := hw.2.2.2 j hj
    obtain ⟨s1, s2, s3, s4, s5⟩ := hs (T.vw j).st w1
    have hv1 := hV.1
    refine am_astore (L' := [some (.ref g.2.2.1), some (.int t0), some (.int (nI j)), some (.int x), some (.ref (av j)), none, none, none]) d_X_fold_5 (by decide) rfl rfl ?_
    refine am_aload d_X_fold_7 rfl ?_
    refine am_iloadn d_X_fold_9 rfl ?_
    refine am_cpsS [.ref (av j), .int x] [] d_X_fold_10 cS_X_75 rfl rfl rfl (Nat.le_of_ble_eq_true rfl) (Nat.le_of_ble_eq_true rfl) (c_axisP hv1 w2 (x := x) ⟨by omega, by omega⟩ (fun hno => ?_) (fun k hk hxk => ?_))
    · rw [sv_qa_no hno]
      exact sv_O.thr0 hC (by decide)
    · skip
      rw [hxk, sv_qa_j hk w2]
      show am_W g (d + 3) mm_X_fold (13, [some (.ref g.2.2.1), some (.int t0), some (.int (nI j)), some (.int (nI k)), some (.ref (av j)), none, none, none], []) S _
      refine am_iloadn d_X_fold_13 rfl ?_
      refine am_iflt (tgt := 27) d_X_fold_14 (by decide) (fun hc1 => ?_) (fun hc1 => ?_)
      · rw [if_neg (fun h => Int32.not_lt.mpr h.1.1 hc1)]
        exact am_thr d_X_fold_27 d_X_fold_30 d_X_fold_31 d_X_fold_33 d_X_fold_36 tw_X_44_199_48 rfl (Nat.le_of_ble_eq_true rfl) (by omega) (by omega) (sv_O.thr0 hC (by decide))
      · refine am_iloadn d_X_fold_17 rfl ?_
        refine am_iconst 4 d_X_fold_18 (by decide) ?_
        refine am_icgt (tgt := 27) d_X_fold_19 (by decide) (fun hc2 => ?_) (fun hc2 => ?_)
        · rw [if_neg (fun h => Int32.not_lt.mpr h.1.2 hc2)]
          exact am_thr d_X_fold_27 d_X_fold_30 d_X_fold_31 d_X_fold_33 d_X_fold_36 tw_X_44_199_48 rfl (Nat.le_of_ble_eq_true rfl) (by omega) (by omega) (sv_O.thr0 hC (by decide))
        · refine am_iloadn d_X_fold_22 rfl ?_
          refine am_iconst 1 d_X_fold_23 (by decide) ?_
          refine am_icne (tgt := 37) d_X_fold_24 (by decide) (fun hc3 => ?_) (fun hc3 => ?_)
          · rw [if_pos ⟨⟨Int32.not_lt.mp hc1, Int32.not_lt.mp hc2⟩, hc3⟩]
            refine am_aload d_X_fold_37 rfl ?_
            refine am_iloadn d_X_fold_39 rfl ?_
            refine am_cpsV [.int (nI k)] [] d_X_fold_40 cV_X_201 rfl hv1 rfl rfl (Nat.le_of_ble_eq_true rfl) (Nat.le_of_ble_eq_true rfl) (c_itemsBut hV (T.vw j).ex hE w3 (nI k) ?_)
            show am_W g (d + 3) mm_X_fold (43, [some (.ref g.2.2.1), some (.int t0), some (.int (nI j)), some (.int (nI k)), some (.ref (av j)), none, none, none], [.int (nI (min (sv_prs (T.vw j).ex (nI k) (T.vw j).ax) 2147483647))]) S _
            have hprs : sv_prs (T.vw j).ex (nI k) (T.vw j).ax = (sv_pr (sv_rem (T.vw j).ex k) ((T.vw j).ax - 1)) := (sv_prs_rem (by omega) (by omega)).2 hk
            refine am_ti (b := nI (min (sv_pr (sv_rem (T.vw j).ex k) ((T.vw j).ax - 1)) 2147483647)) (by rw [hprs]) ?_
            refine am_istore (L' := [some (.ref g.2.2.1), some (.int t0), some (.int (nI j)), some (.int (nI k)), some (.ref (av j)), some (.int (nI (min (sv_pr (sv_rem (T.vw j).ex k) ((T.vw j).ax - 1)) 2147483647))), none, none]) d_X_fold_43 (by decide) rfl rfl ?_
            refine am_iload d_X_fold_45 rfl ?_
            refine am_cpsS [.int (nI (min (sv_pr (sv_rem (T.vw j).ex k) ((T.vw j).ax - 1)) 2147483647))] [] d_X_fold_47 cS_X_158 rfl rfl rfl (Nat.le_of_ble_eq_true rfl) (Nat.le_of_ble_eq_true rfl) (c_fewP (n := min (sv_pr (sv_rem (T.vw j).ex k) ((T.vw j).ax - 1)) 2147483647) (by omega) ⟨by omega, by omega⟩ (fun hno => ?_) (fun h300a => ?_))
            · rw [if_neg (fun h => hno (by omega))]
              exact sv_O.thr0 hC (by decide)
            · skip
              show am_W g (d + 3) mm_X_fold (50, [some (.ref g.2.2.1), some (.int t0), some (.int (nI j)), some (.int (nI k)), some (.ref (av j)), some (.int (nI (min (sv_pr (sv_rem (T.vw j).ex k) ((T.vw j).ax - 1)) 2147483647))), none, none], []) S _
              have h300 : (sv_pr (sv_rem (T.vw j).ex k) ((T.vw j).ax - 1)) ≤ 300 := by omega
              have hmm : min (sv_pr (sv_rem (T.vw j).ex k) ((T.vw j).ax - 1)) 2147483647 = (sv_pr (sv_rem (T.vw j).ex k) ((T.vw j).ax - 1)) := Nat.min_eq_left (by omega)
              rw [hmm]
              show am_W g (d + 3) mm_X_fold (50, [some (.ref g.2.2.1), some (.int t0), some (.int (nI j)), some (.int (nI k)), some (.ref (av j)), some (.int (nI ((sv_pr (sv_rem (T.vw j).ex k) ((T.vw j).ax - 1))))), none, none], []) S _
              refine am_aloadn d_X_fold_50 rfl ?_
              refine am_cpsV [] [] d_X_fold_51 cV_X_51 rfl hx rfl rfl (Nat.le_of_ble_eq_true rfl) (Nat.le_of_ble_eq_true rfl) (c_roomP hC ⟨by omega, by omega⟩ (fun hno => ?_) (fun hr12 hr80 => ?_))
              · rw [if_neg (fun h => hno h.2)]
                exact sv_O.thr0 hC (by decide)
              · skip
                show am_W g (d + 3) mm_X_fold (54, [some (.ref g.2.2.1), some (.int t0), some (.int (nI j)), some (.int (nI k)), some (.ref (av j)), some (.int (nI ((sv_pr (sv_rem (T.vw j).ex k) ((T.vw j).ax - 1))))), none, none], []) S _
                rw [if_pos ⟨h300, hr12, hr80⟩]
                have hf0 : ∀ q, q < S.2.1 → S.1 q = S.1 q := fun _ _ => rfl
                obtain ⟨a_1, ea_1⟩ : ∃ z : Nat, z = S.2.1 := ⟨_, rfl⟩
                refine am_new d_X_fold_54 nw_X_9 (by omega) (by simp only [List.length]; omega) ?_
                change am_W _ _ _ (_, _, .ref S.2.1 :: _) (am_up S.1 S.2.1 (.inr (0, [.int 0, .int 0, .null, .int 0])), S.2.1 + 1, S.2.2 + 4) _
                rw [← ea_1]
                obtain ⟨S_2, eS_2⟩ : ∃ z : am_S, z = (am_up S.1 a_1 (.inr (0, [.int 0, .int 0, .null, .int 0])), a_1 + 1, S.2.2 + 4) := ⟨_, rfl⟩
                rw [← eS_2]
                have h_3 : S_2.1 g.2.2.1 = some (.inr (2, [.ref (g.2.2.1 + 1), .ref (g.2.2.1 + 2), .int (nI T.ns), .int (nI T.nv), .ref (g.2.2.1 + 3), .ref (g.2.2.1 + 4), .ref (g.2.2.1 + 5)])) := by rw [eS_2]; exact (am_up_n (by omega)).trans hx
                have h_4 : S_2.1 (av j) = some (.inr (1, [.ref (as (T.vw j).st), .int ((T.vw j).sa), .int (nI (T.vw j).ax), .int (nI (T.vw j).it), .ref (av j + 1), .ref (av j + 2)])) := by rw [eS_2]; exact (am_up_n (by omega)).trans hv1
                have h_5 : S_2.1 (av j + 1) = some (.inl (0, 4, .inl fe)) := by rw [eS_2]; exact (am_up_n (by omega)).trans hV.2.1
                have h_6 : S_2.1 (av j + 2) = some (.inl (0, 4, .inl fs)) := by rw [eS_2]; exact (am_up_n (by omega)).trans hV.2.2.1
                have hf_7 : ∀ q, q < S.2.1 → S_2.1 q = S.1 q := by rw [eS_2]; exact fun q hq => (am_up_n (by omega)).trans (hf0 q hq)
                have h_8 : S_2.1 a_1 = some (.inr (0, [.int 0, .int 0, .null, .int 0])) := by rw [eS_2]; exact am_up_s
                have hna_1 : S_2.2.1 = a_1 + 1 := by rw [eS_2]
                have hza_1 : S_2.2.2 = S.2.2 + 4 := by rw [eS_2]
                refine am_dup d_X_fold_57 rfl ?_
                refine am_aloadn d_X_fold_58 rfl ?_
                refine am_get d_X_fold_59 fl_X_33 h_3 rfl ?_
                refine am_iconst 3 d_X_fold_62 (by decide) ?_
                refine am_iload d_X_fold_63 rfl ?_
                refine am_cpsI [.int (nI T.ns), .int 3, .int (nI ((sv_pr (sv_rem (T.vw j).ex k) ((T.vw j).ax - 1))))] [.ref a_1] d_X_fold_65 cI_X_54 rfl rfl rfl (Nat.le_of_ble_eq_true rfl) (Nat.le_of_ble_eq_true rfl) (c_Sinit h_8 (by omega) (N := (sv_pr (sv_rem (T.vw j).ex k) ((T.vw j).ax - 1))) (num := nI T.ns) (ln := 3) (by omega) (by omega) (by omega) (fun Sa q1a q2a q3a q4a => ?_))
                rw [hna_1] at q1a q2a q3a q4a
                rw [hza_1] at q3a
                have hna : Sa.2.1 = a_1 + 2 := by rw [q3a]
                have hza : Sa.2.2 = S.2.2 + 4 + (sv_pr (sv_rem (T.vw j).ex k) ((T.vw j).ax - 1)) := by rw [q3a]
                have h_9 : Sa.1 g.2.2.1 = some (.inr (2, [.ref (g.2.2.1 + 1), .ref (g.2.2.1 + 2), .int (nI T.ns), .int (nI T.nv), .ref (g.2.2.1 + 3), .ref (g.2.2.1 + 4), .ref (g.2.2.1 + 5)])) := (q4a _ (by omega) (by omega)).trans h_3
                have h_10 : Sa.1 (av j) = some (.inr (1, [.ref (as (T.vw j).st), .int ((T.vw j).sa), .int (nI (T.vw j).ax), .int (nI (T.vw j).it), .ref (av j + 1), .ref (av j + 2)])) := (q4a _ (by omega) (by omega)).trans h_4
                have h_11 : Sa.1 (av j + 1) = some (.inl (0, 4, .inl fe)) := (q4a _ (by omega) (by omega)).trans h_5
                have h_12 : Sa.1 (av j + 2) = some (.inl (0, 4, .inl fs)) := (q4a _ (by omega) (by omega)).trans h_6
                have hf_13 : ∀ q, q < S.2.1 → Sa.1 q = S.1 q := fun q hq => (q4a q (by omega) (by omega)).trans (hf_7 q hq)
                show am_W g (d + 3) mm_X_fold (68, [some (.ref g.2.2.1), some (.int t0), some (.int (nI j)), some (.int (nI k)), some (.ref (av j)), some (.int (nI ((sv_pr (sv_rem (T.vw j).ex k) ((T.vw j).ax - 1))))), none, none], [.ref a_1]) Sa _
                refine am_astore (L' := [some (.ref g.2.2.1), some (.int t0), some (.int (nI j)), some (.int (nI k)), some (.ref (av j)), some (.int (nI ((sv_pr (sv_rem (T.vw j).ex k) ((T.vw j).ax - 1))))), some (.ref a_1), none]) d_X_fold_68 (by decide) rfl rfl ?_
                obtain ⟨a_14, ea_14⟩ : ∃ z : Nat, z = Sa.2.1 := ⟨_, rfl⟩
                refine am_new d_X_fold_70 nw_X_15 (by omega) (by simp only [List.length]; omega) ?_
                change am_W _ _ _ (_, _, .ref Sa.2.1 :: _) (am_up Sa.1 Sa.2.1 (.inr (1, [.null, .int 0, .int 0, .int 0, .null, .null])), Sa.2.1 + 1, Sa.2.2 + 6) _
                rw [← ea_14]
                obtain ⟨S_15, eS_15⟩ : ∃ z : am_S, z = (am_up Sa.1 a_14 (.inr (1, [.null, .int 0, .int 0, .int 0, .null, .null])), a_14 + 1, Sa.2.2 + 6) := ⟨_, rfl⟩
                rw [← eS_15]
                have h_16 : S_15.1 g.2.2.1 = some (.inr (2, [.ref (g.2.2.1 + 1), .ref (g.2.2.1 + 2), .int (nI T.ns), .int (nI T.nv), .ref (g.2.2.1 + 3), .ref (g.2.2.1 + 4), .ref (g.2.2.1 + 5)])) := by rw [eS_15]; exact (am_up_n (by omega)).trans h_9
                have h_17 : S_15.1 (av j) = some (.inr (1, [.ref (as (T.vw j).st), .int ((T.vw j).sa), .int (nI (T.vw j).ax), .int (nI (T.vw j).it), .ref (av j + 1), .ref (av j + 2)])) := by rw [eS_15]; exact (am_up_n (by omega)).trans h_10
                have h_18 : S_15.1 (av j + 1) = some (.inl (0, 4, .inl fe)) := by rw [eS_15]; exact (am_up_n (by omega)).trans h_11
                have h_19 : S_15.1 (av j + 2) = some (.inl (0, 4, .inl fs)) := by rw [eS_15]; exact (am_up_n (by omega)).trans h_12
                have h_20 : S_15.1 a_1 = some (.inr (0, [.int (nI T.ns), .int 3, .ref (a_1 + 1), .int 0])) := by rw [eS_15]; exact (am_up_n (by omega)).trans q1a
                have h_21 : S_15.1 (a_1 + 1) = some (.inl (1, (sv_pr (sv_rem (T.vw j).ex k) ((T.vw j).ax - 1)), .inr (.inl (fun _ => 0)))) := by rw [eS_15]; exact (am_up_n (by omega)).trans q2a
                have hf_22 : ∀ q, q < S.2.1 → S_15.1 q = S.1 q := by rw [eS_15]; exact fun q hq => (am_up_n (by omega)).trans (hf_13 q hq)
                have h_23 : S_15.1 a_14 = some (.inr (1, [.null, .int 0, .int 0, .int 0, .null, .null])) := by rw [eS_15]; exact am_up_s
                have hna_14 : S_15.2.1 = a_14 + 1 := by rw [eS_15]
                have hza_14 : S_15.2.2 = Sa.2.2 + 6 := by rw [eS_15]
                refine am_dup d_X_fold_73 rfl ?_
                refine am_aload d_X_fold_74 rfl ?_
                refine am_iconst 0 d_X_fold_76 (by decide) ?_
                have hzwb := hza_14
                refine am_cpsI [.ref a_1, .int 0] [.ref a_14] d_X_fold_77 cI_X_57 rfl rfl rfl (Nat.le_of_ble_eq_true rfl) (Nat.le_of_ble_eq_true rfl) (c_Vinit h_23 (by omega) (by omega) (by omega) (fun Sb q1b q2b q3b q4b q5b => ?_))
                rw [hna_14] at q1b q2b q3b q4b q5b
                have hnb : Sb.2.1 = a_14 + 3 := by rw [q4b]
                have hzb : Sb.2.2 = S_15.2.2 + 8 := by rw [q4b]
                have h_24 : Sb.1 g.2.2.1 = some (.inr (2, [.ref (g.2.2.1 + 1), .ref (g.2.2.1 + 2), .int (nI T.ns), .int (nI T.nv), .ref (g.2.2.1 + 3), .ref (g.2.2.1 + 4), .ref (g.2.2.1 + 5)])) := (q5b _ (by omega) (by omega)).trans h_16
                have h_25 : Sb.1 (av j) = some (.inr (1, [.ref (as (T.vw j).st), .int ((T.vw j).sa), .int (nI (T.vw j).ax), .int (nI (T.vw j).it), .ref (av j + 1), .ref (av j + 2)])) := (q5b _ (by omega) (by omega)).trans h_17
                have h_26 : Sb.1 (av j + 1) = some (.inl (0, 4, .inl fe)) := (q5b _ (by omega) (by omega)).trans h_18
                have h_27 : Sb.1 (av j + 2) = some (.inl (0, 4, .inl fs)) := (q5b _ (by omega) (by omega)).trans h_19
                have h_28 : Sb.1 a_1 = some (.inr (0, [.int (nI T.ns), .int 3, .ref (a_1 + 1), .int 0])) := (q5b _ (by omega) (by omega)).trans h_20
                have h_29 : Sb.1 (a_1 + 1) = some (.inl (1, (sv_pr (sv_rem (T.vw j).ex k) ((T.vw j).ax - 1)), .inr (.inl (fun _ => 0)))) := (q5b _ (by omega) (by omega)).trans h_21
                have hf_30 : ∀ q, q < S.2.1 → Sb.1 q = S.1 q := fun q hq => (q5b q (by omega) (by omega)).trans (hf_22 q hq)
                have hTb : sv_V Sb.1 a_14 a_1 0 0 0 (a_14 + 1) (a_14 + 2) (fun _ => 0) (fun _ => 0) := ⟨q1b, q2b, q3b, by omega, by omega⟩
                have hTb1 := hTb.1
                have hTb2 := hTb.2.1
                have hTb3 := hTb.2.2.1
                show am_W g (d + 3) mm_X_fold (80, [some (.ref g.2.2.1), some (.int t0), some (.int (nI j)), some (.int (nI k)), some (.ref (av j)), some (.int (nI ((sv_pr (sv_rem (T.vw j).ex k) ((T.vw j).ax - 1))))), some (.ref a_1), none], [.ref a_14]) Sb _
                refine am_astore (L' := [some (.ref g.2.2.1), some (.int t0), some (.int (nI j)), some (.int (nI k)), some (.ref (av j)), some (.int (nI ((sv_pr (sv_rem (T.vw j).ex k) ((T.vw j).ax - 1))))), some (.ref a_1), some (.ref a_14)]) d_X_fold_80 (by decide) rfl rfl ?_
                refine am_aload d_X_fold_82 rfl ?_
                refine am_aload d_X_fold_84 rfl ?_
                refine am_iloadn d_X_fold_86 rfl ?_
                have hVf1 : sv_V Sb.1 (av j) (as (T.vw j).st) (T.vw j).sa (T.vw j).ax (nI (T.vw j).it) (av j + 1) (av j + 2) fe fs := ⟨h_25, h_26, h_27, hV.2.2.2⟩
                refine am_cpsV [.ref (av j), .int (nI k)] [] d_X_fold_87 cV_X_161 rfl hTb1 rfl rfl (Nat.le_of_ble_eq_true rfl) (Nat.le_of_ble_eq_true rfl) (c_addExt hTb hVf1 ⟨by omega, by omega, by omega⟩ ⟨by omega, by omega, by omega⟩ (nI k) (fun Sc fec fsc hTc hfc hIc => ?_))
                have hnc := congrArg Prod.fst hfc.1
                have hzc := congrArg Prod.snd hfc.1
                have h_31 : Sc.1 g.2.2.1 = some (.inr (2, [.ref (g.2.2.1 + 1), .ref (g.2.2.1 + 2), .int (nI T.ns), .int (nI T.nv), .ref (g.2.2.1 + 3), .ref (g.2.2.1 + 4), .ref (g.2.2.1 + 5)])) := (hfc.2 _ (by omega) (by omega) (by omega)).trans h_24
                have h_32 : Sc.1 (av j) = some (.inr (1, [.ref (as (T.vw j).st), .int ((T.vw j).sa), .int (nI (T.vw j).ax), .int (nI (T.vw j).it), .ref (av j + 1), .ref (av j + 2)])) := (hfc.2 _ (by omega) (by omega) (by omega)).trans h_25
                have h_33 : Sc.1 (av j + 1) = some (.inl (0, 4, .inl fe)) := (hfc.2 _ (by omega) (by omega) (by omega)).trans h_26
                have h_34 : Sc.1 (av j + 2) = some (.inl (0, 4, .inl fs)) := (hfc.2 _ (by omega) (by omega) (by omega)).trans h_27
                have h_35 : Sc.1 a_1 = some (.inr (0, [.int (nI T.ns), .int 3, .ref (a_1 + 1), .int 0])) := (hfc.2 _ (by omega) (by omega) (by omega)).trans h_28
                have h_36 : Sc.1 (a_1 + 1) = some (.inl (1, (sv_pr (sv_rem (T.vw j).ex k) ((T.vw j).ax - 1)), .inr (.inl (fun _ => 0)))) := (hfc.2 _ (by omega) (by omega) (by omega)).trans h_29
                have hf_37 : ∀ q, q < S.2.1 → Sc.1 q = S.1 q := fun q hq => (hfc.2 q (by omega) (by omega) (by omega)).trans (hf_30 q hq)
                show am_W g (d + 3) mm_X_fold (90, [some (.ref g.2.2.1), some (.int t0), some (.int (nI j)), some (.int (nI k)), some (.ref (av j)), some (.int (nI ((sv_pr (sv_rem (T.vw j).ex k) ((T.vw j).ax - 1))))), some (.ref a_1), some (.ref a_14)], []) Sc _
                rw [sv_cnt_gt (by omega) _ hk (by omega)] at hTc
                have hTc1 := hTc.1
                have hTc2 := hTc.2.1
                have hTc3 := hTc.2.2.1
                have hEc : ∀ i, i < (T.vw j).ax - 1 → fec i = nI (sv_rem (T.vw j).ex k i) := fun i hi => by
                  simp only [sv_rem]; split
                  · rename_i h6
                    have h7 := (hIc i (by omega) (fun q => by have := (nI_eq (by omega) (by omega)).mp q; omega)).1
                    rw [sv_cnt_lo (by omega) _ (by omega)] at h7
                    rw [h7]; exact hE i (by omega)
                  · have h7 := (hIc (i + 1) (by omega) (fun q => by have := (nI_eq (by omega) (by omega)).mp q; omega)).1
                    rw [sv_cnt_gt (by omega) _ (by omega) (by omega), Nat.add_sub_cancel] at h7
                    rw [h7]; exact hE (i + 1) (by omega)
                refine am_aload d_X_fold_90 rfl ?_
                refine am_cpsV [] [] d_X_fold_92 cV_X_164 rfl hTc1 rfl rfl (Nat.le_of_ble_eq_true rfl) (Nat.le_of_ble_eq_true rfl) (c_lie hTc (fun Sd fsd hTd hfd hId => ?_))
                have hnd := congrArg Prod.fst hfd.1
                have hzd := congrArg Prod.snd hfd.1
                have h_38 : Sd.1 g.2.2.1 = some (.inr (2, [.ref (g.2.2.1 + 1), .ref (g.2.2.1 + 2), .int (nI T.ns), .int (nI T.nv), .ref (g.2.2.1 + 3), .ref (g.2.2.1 + 4), .ref (g.2.2.1 + 5)])) := (hfd.2 _ (by omega) (by omega) (by omega)).trans h_31
                have h_39 : Sd.1 (av j) = some (.inr (1, [.ref (as (T.vw j).st), .int ((T.vw j).sa), .int (nI (T.vw j).ax), .int (nI (T.vw j).it), .ref (av j + 1), .ref (av j + 2)])) := (hfd.2 _ (by omega) (by omega) (by omega)).trans h_32
                have h_40 : Sd.1 (av j + 1) = some (.inl (0, 4, .inl fe)) := (hfd.2 _ (by omega) (by omega) (by omega)).trans h_33
                have h_41 : Sd.1 (av j + 2) = some (.inl (0, 4, .inl fs)) := (hfd.2 _ (by omega) (by omega) (by omega)).trans h_34
                have h_42 : Sd.1 a_1 = some (.inr (0, [.int (nI T.ns), .int 3, .ref (a_1 + 1), .int 0])) := (hfd.2 _ (by omega) (by omega) (by omega)).trans h_35
                have h_43 : Sd.1 (a_1 + 1) = some (.inl (1, (sv_pr (sv_rem (T.vw j).ex k) ((T.vw j).ax - 1)), .inr (.inl (fun _ => 0)))) := (hfd.2 _ (by omega) (by omega) (by omega)).trans h_36
                have hf_44 : ∀ q, q < S.2.1 → Sd.1 q = S.1 q := fun q hq => (hfd.2 q (by omega) (by omega) (by omega)).trans (hf_37 q hq)
                show am_W g (d + 3) mm_X_fold (95, [some (.ref g.2.2.1), some (.int t0), some (.int (nI j)), some (.int (nI k)), some (.ref (av j)), some (.int (nI ((sv_pr (sv_rem (T.vw j).ex k) ((T.vw j).ax - 1))))), some (.ref a_1), some (.ref a_14)], []) Sd _
                have hTd1 := hTd.1
                have hTd2 := hTd.2.1
                have hTd3 := hTd.2.2.1
                have hSd : ∀ i, i < (T.vw j).ax - 1 → fsd i = sv_rs (sv_rem (T.vw j).ex k) ((T.vw j).ax - 1) i := fun i hi => by rw [hId i hi, sv_bk_dp hEc _ (by omega)]; rfl
                refine am_aloadn d_X_fold_95 rfl ?_
                refine am_aload d_X_fold_96 rfl ?_
                refine am_iloadn d_X_fold_98 rfl ?_
                refine am_aload d_X_fold_99 rfl ?_
                refine am_aload d_X_fold_101 rfl ?_
                refine am_iloadn d_X_fold_103 rfl ?_
                have hCd : sv_C g lo Sd T as av := hC.up (fun q hq => hf_44 q (by omega)) (by omega)
                refine am_cpsV [.ref a_1, .int t0, .ref (av j), .ref a_14, .int (nI k)] [] d_X_fold_104 cV_X_204 rfl h_38 rfl rfl (Nat.le_of_ble_eq_true rfl) (Nat.le_of_ble_eq_true rfl) (c_foldC hCd hj hk h_42 h_43 h300 (by omega) hTd hEc hSd (by omega) (by omega) ⟨by omega, by omega⟩ (fun Se hre hze hfe fp1 hpe fn1 hne => ?_))
                have hne1 : Se.2.1 = Sd.2.1 + 3 := by rw [hze]
                have hze1 : Se.2.2 = Sd.2.2 + 14 := by rw [hze]
                obtain ⟨_, _, _, _, fm9, ⟨_, _, _, _, _, x5⟩, _⟩ := id hCd
                have hCe : sv_C g lo Se T as av := hCd.keep (fun q h1 h2 h3 _ => hfe q (by omega) h2 h3 (by omega)) hpe hne ((hfe _ (by omega) (by omega) (by omega) (by omega)).trans x5) (by omega)
                have hTe := hTd.of (M' := Se.1) (hfe _ (by omega) (by omega) (by omega) (by omega)) (hfe _ (by omega) (by omega) (by omega) (by omega)) (hfe _ (by omega) (by omega) (by omega) (by omega))
                have hse := (hfe a_1 (by omega) (by omega) (by omega) (by omega)).trans h_42
                show am_W g (d + 3) mm_X_fold (107, [some (.ref g.2.2.1), some (.int t0), some (.int (nI j)), some (.int (nI k)), some (.ref (av j)), some (.int (nI ((sv_pr (sv_rem (T.vw j).ex k) ((T.vw j).ax - 1))))), some (.ref a_1), some (.ref a_14)], []) Se _
                obtain ⟨qse, qve, fpe, fne, fme, ⟨hxe, -, -, -, -, -⟩, -, -, -, -, -, -, -⟩ := id hCe
                refine am_aloadn d_X_fold_107 rfl ?_
                refine am_aload d_X_fold_108 rfl ?_
                refine am_cpsV [.ref a_1] [] d_X_fold_110 cV_X_63 rfl hxe rfl rfl (Nat.le_of_ble_eq_true rfl) (Nat.le_of_ble_eq_true rfl) (c_keepS hCe hr12 (sz := (sv_pr (sv_rem (T.vw j).ex k) ((T.vw j).ax - 1))) (ln := 3) (f := (sv_fo t0 (sv_wo (T.vw j).ex k (T.vw j).ax) (T.at (T.vw j)) (fun i => if i < (sv_pr (sv_rem (T.vw j).ex k) ((T.vw j).ax - 1)) then sv_neu t0 else 0) (T.vw j).it)) h300 ⟨hse, hre⟩ (by omega) (by omega) (fun Sf hCf hzf hff => ?_))
                have hnf := congrArg Prod.fst hzf
                have hzf1 := congrArg Prod.snd hzf
                show am_W g (d + 3) mm_X_fold (113, [some (.ref g.2.2.1), some (.int t0), some (.int (nI j)), some (.int (nI k)), some (.ref (av j)), some (.int (nI ((sv_pr (sv_rem (T.vw j).ex k) ((T.vw j).ax - 1))))), some (.ref a_1), some (.ref a_14)], []) Sf _
                obtain ⟨qsf, qvf, fpf, fnf, fmf, ⟨hxf, -, -, -, -, -⟩, -, -, -, -, -, -, -⟩ := id hCf
                refine am_aloadn d_X_fold_113 rfl ?_
                refine am_aload d_X_fold_114 rfl ?_
                have hVn : sv_V Sf.1 a_14 (if T.ns = T.ns then a_1 else as T.ns) 0 ((T.vw j).ax - 1) 0 (a_14 + 1) (a_14 + 2) fec fsd := by rw [if_pos rfl]; exact hTe.of (hff _ (by omega) (by omega)) (hff _ (by omega) (by omega)) (hff _ (by omega) (by omega))
                have hinn : sv_in ((T.ns, 0, (T.vw j).ax - 1, sv_rem (T.vw j).ex k, sv_rs (sv_rem (T.vw j).ex k) ((T.vw j).ax - 1)) : sv_A) (sv_pr (sv_rem (T.vw j).ex k) ((T.vw j).ax - 1)) := sv_in_row h300
                have hOn : sv_ok (sv_rem (T.vw j).ex k) ((T.vw j).ax - 1) := fun i hi => by simp only [sv_rem]; split <;> exact w3 _ (by omega)
                exact am_cpsV [.ref a_14] [] d_X_fold_116 cV_X_67 rfl hxf rfl rfl (Nat.le_of_ble_eq_true rfl) (Nat.le_of_ble_eq_true rfl) (am_mono (fun o S9 h9 => am_tailQ d_X_fold_119 rfl h9) (c_keepQ (S0 := S) (a := (T.ns, 0, (T.vw j).ax - 1, sv_rem (T.vw j).ex k, sv_rs (sv_rem (T.vw j).ex k) ((T.vw j).ax - 1))) hCf hVn hEc hSd hOn (show T.ns < T.ns + 1 by omega) (fun _ i hi => by show vp_in _ (if T.ns = T.ns then (sv_pr (sv_rem (T.vw j).ex k) ((T.vw j).ax - 1)) else _); rw [if_pos rfl]; exact hinn i hi) (by omega) (by omega) ⟨by omega, by omega⟩ ⟨fun q h1 h2 => (hff q (by omega) (by omega)).trans ((hfe q (by omega) (by omega) (by omega) (by omega)).trans (hf_44 q (by omega))), by omega, by omega, by omega, by omega⟩))
          · rw [if_neg (fun q => q.2 hc3)]
            exact am_thr d_X_fold_27 d_X_fold_30 d_X_fold_31 d_X_fold_33 d_X_fold_36 tw_X_44_199_48 rfl (Nat.le_of_ble_eq_true rfl) (by omega) (by omega) (sv_O.thr0 hC (by decide))
