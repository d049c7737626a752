/-! the calls that read and put -/
set_option maxHeartbeats 4000000 in
set_option maxRecDepth 100000 in
/-- X_at -/
theorem x_at {g : am_G} {d : Nat} {S : am_S} {lo : Nat} {T : sv_T} {as av : Nat → Nat} (hC : sv_C g lo S T as av) (hr : sv_R g S 16 700) {i n : Int32} : am_W g (d + 3) mm_X_at (0, am_ent [.ref g.2.2.1, .int i, .int n] 4, []) S (sv_O g S (q_at T i n)) := by
  obtain ⟨qs, qv, fp, fn, fm, ⟨hx, hq1, hq2, h3, h4, h5⟩, hs, hv, i1, i2, hB, hlo, hw⟩ := id hC
  have h80 := hw.2.1
  obtain ⟨hr1, hr2⟩ := hr
  show am_W g (d + 3) mm_X_at (0, [some (.ref g.2.2.1), some (.int i), some (.int n), none], []) S _
  refine am_aloadn d_X_at_0 rfl ?_
  refine am_iloadn d_X_at_1 rfl ?_
  refine am_cpsV [.int i] [] d_X_at_2 cV_X_71 rfl hx rfl rfl (Nat.le_of_ble_eq_true rfl) (Nat.le_of_ble_eq_true rfl) (c_viewP hC (i := i) (hr := ⟨by omega, by omega⟩) (fun hno => ?_) (fun j hj hi => ?_))
  · rw [q_at, sv_qv_no hno]
    exact sv_O.thr0 hC (by decide)
  · skip
    show am_W g (d + 3) mm_X_at (5, [some (.ref g.2.2.1), some (.int i), some (.int n), none], [.ref (av j)]) S _
    rw [hi, q_at, sv_qv_j hj h80]
    show am_W g (d + 3) mm_X_at (5, [some (.ref g.2.2.1), some (.int (nI j)), some (.int n), none], [.ref (av j)]) S _
    obtain ⟨b1, b2, b3, fe, fs, hV, hE, hS⟩ := hv j hj
    obtain ⟨w1, w2, w3, w4, w5, w6, w7⟩ := hw.2.2.2 j hj
    obtain ⟨s1, s2, s3, s4, s5⟩ := hs (T.vw j).st w1
    have hv1 := hV.1
    refine am_astoren (L' := [some (.ref g.2.2.1), some (.int (nI j)), some (.int n), some (.ref (av j))]) d_X_at_5 (by decide) rfl rfl ?_
    refine am_aloadn d_X_at_6 rfl ?_
    refine am_iloadn d_X_at_7 rfl ?_
    refine am_cpsS [.ref (av j), .int n] [] d_X_at_8 cS_X_173 rfl rfl rfl (Nat.le_of_ble_eq_true rfl) (Nat.le_of_ble_eq_true rfl) (c_itemP hv1 w4 (x := n) ⟨by omega, by omega⟩ (fun hno => ?_) (fun k hk hxk => ?_))
    · rw [if_neg hno]
      exact sv_O.thr0 hC (by decide)
    · skip
      rw [hxk, if_pos ⟨Int32.not_lt.mp (nI_pos (by omega)), (nI_ltI (by omega) (by omega)).mpr hk⟩, nI_clamp (by omega)]
      show am_W g (d + 3) mm_X_at (11, [some (.ref g.2.2.1), some (.int (nI j)), some (.int (nI k)), some (.ref (av j))], []) S _
      have hZ : ∀ t, t < (T.vw j).ax → 0 < (T.vw j).ex t := sv_pr_pos (Nat.lt_of_le_of_lt (Nat.zero_le k) hk)
      refine am_aloadn d_X_at_11 rfl ?_
      refine am_get d_X_at_12 fl_X_129 hv1 rfl ?_
      refine am_get d_X_at_15 fl_X_176 s4 rfl ?_
      refine am_aloadn d_X_at_18 rfl ?_
      refine am_iloadn d_X_at_19 rfl ?_
      refine am_cpsV [.int (nI k)] [.ref (as (T.vw j).st + 1)] d_X_at_20 cV_X_179 rfl hv1 rfl rfl (Nat.le_of_ble_eq_true rfl) (Nat.le_of_ble_eq_true rfl) (c_placeOf hV (T.vw j).ex hE w3 hZ (i := k) (by omega) ?_)
      show am_W g (d + 3) mm_X_at (23, [some (.ref g.2.2.1), some (.int (nI j)), some (.int (nI k)), some (.ref (av j))], [.int ((T.vw j).sa + sv_pl (T.vw j).ex fs (T.vw j).ax k), .ref (as (T.vw j).st + 1)]) S _
      refine am_ti (b := (T.vw j).pl k) (congrArg _ (sv_pl_congr (fun _ _ => rfl) hS)) ?_
      refine am_lald (t := 1) d_X_at_23 rfl s5 (w7 k hk) ?_
      exact am_lret d_X_at_24 rfl (sv_O.ret hC (sv_D.rf.le (by omega) (by omega)))
set_option maxHeartbeats 4000000 in
set_option maxRecDepth 100000 in
/-- X_put -/
theorem x_put {g : am_G} {d : Nat} {S : am_S} {lo : Nat} {T : sv_T} {as av : Nat → Nat} (hC : sv_C g lo S T as av) (hr : sv_R g S 16 700) {i n : Int32} {y : Int64} : am_W g (d + 3) mm_X_put (0, am_ent [.ref g.2.2.1, .int i, .int n, .long y] 9, []) S (sv_O g S (q_put T i n y)) := by
  obtain ⟨qs, qv, fp, fn, fm, ⟨hx, hq1, hq2, h3, h4, h5⟩, hs, hv, i1, i2, hB, hlo, hw⟩ := id hC
  have h80 := hw.2.1
  obtain ⟨hr1, hr2⟩ := hr
  show am_W g (d + 3) mm_X_put (0, [some (.ref g.2.2.1), some (.int i), some (.int n), some (.long y), none, none, none, none, none], []) S _
  refine am_aloadn d_X_put_0 rfl ?_
  refine am_iloadn d_X_put_1 rfl ?_
  refine am_cpsV [.int i] [] d_X_put_2 cV_X_71 rfl hx rfl rfl (Nat.le_of_ble_eq_true rfl) (Nat.le_of_ble_eq_true rfl) (c_viewP hC (i := i) (hr := ⟨by omega, by omega⟩) (fun hno => ?_) (fun j hj hi => ?_))
  · rw [q_put, sv_qv_no hno]
    exact sv_O.thr0 hC (by decide)
  · skip
    show am_W g (d + 3) mm_X_put (5, [some (.ref g.2.2.1), some (.int i), some (.int n), some (.long y), none, none, none, none, none], [.ref (av j)]) S _
    rw [hi, q_put, sv_qv_j hj h80]
    show am_W g (d + 3) mm_X_put (5, [some (.ref g.2.2.1), some (.int (nI j)), some (.int n), some (.long y), none, none, none, none, none], [.ref (av j)]) S _
    obtain ⟨b1, b2, b3, fe, fs, hV, hE, hS⟩ := hv j hj
    obtain ⟨w1, w2, w3, w4, w5, w6, w7⟩ := hw.2.2.2 j hj
    obtain ⟨s1, s2, s3, s4, s5⟩ := hs (T.vw j).st w1
    have hv1 := hV.1
    refine am_astore (L' := [some (.ref g.2.2.1), some (.int (nI j)), some (.int n), some (.long y), none, some (.ref (av j)), none, none, none]) d_X_put_5 (by decide) rfl rfl ?_
    refine am_aload d_X_put_7 rfl ?_
    refine am_iloadn d_X_put_9 rfl ?_
    refine am_cpsS [.ref (av j), .int n] [] d_X_put_10 cS_X_173 rfl rfl rfl (Nat.le_of_ble_eq_true rfl) (Nat.le_of_ble_eq_true rfl) (c_itemP hv1 w4 (x := n) ⟨by omega, by omega⟩ (fun hno => ?_) (fun k hk hxk => ?_))
    · rw [if_neg hno]
      exact sv_O.thr0 hC (by decide)
    · skip
      rw [hxk, if_pos ⟨Int32.not_lt.mp (nI_pos (by omega)), (nI_ltI (by omega) (by omega)).mpr hk⟩, nI_clamp (by omega)]
      show am_W g (d + 3) mm_X_put (13, [some (.ref g.2.2.1), some (.int (nI j)), some (.int (nI k)), some (.long y), none, some (.ref (av j)), none, none, none], []) S _
      refine am_aload d_X_put_13 rfl ?_
      refine am_cpsS [.ref (av j)] [] d_X_put_15 cS_X_183 rfl rfl rfl (Nat.le_of_ble_eq_true rfl) (Nat.le_of_ble_eq_true rfl) (c_needFree hV (by omega) (by omega) (fun hno => ?_) (fun hfr => ?_))
      · rw [sv_if_y ((sv_fx_iff hE hS w3).mp hno)]
        exact sv_O.thr0 hC (by decide)
      · skip
        show am_W g (d + 3) mm_X_put (18, [some (.ref g.2.2.1), some (.int (nI j)), some (.int (nI k)), some (.long y), none, some (.ref (av j)), none, none, none], []) S _
        rw [sv_if_n (fun h => hfr ((sv_fx_iff hE hS w3).mpr h))]
        have hZ : ∀ t, t < (T.vw j).ax → 0 < (T.vw j).ex t := sv_pr_pos (Nat.lt_of_le_of_lt (Nat.zero_le k) hk)
        refine am_aload d_X_put_18 rfl ?_
        refine am_iloadn d_X_put_20 rfl ?_
        refine am_cpsV [.int (nI k)] [] d_X_put_21 cV_X_179 rfl hv1 rfl rfl (Nat.le_of_ble_eq_true rfl) (Nat.le_of_ble_eq_true rfl) (c_placeOf hV (T.vw j).ex hE w3 hZ (i := k) (by omega) ?_)
        show am_W g (d + 3) mm_X_put (24, [some (.ref g.2.2.1), some (.int (nI j)), some (.int (nI k)), some (.long y), none, some (.ref (av j)), none, none, none], [.int ((T.vw j).sa + sv_pl (T.vw j).ex fs (T.vw j).ax k)]) S _
        refine am_ti (b := (T.vw j).pl k) (congrArg _ (sv_pl_congr (fun _ _ => rfl) hS)) ?_
        refine am_istore (L' := [some (.ref g.2.2.1), some (.int (nI j)), some (.int (nI k)), some (.long y), none, some (.ref (av j)), some (.int ((T.vw j).pl k)), none, none]) d_X_put_24 (by decide) rfl rfl ?_
        refine am_aload d_X_put_26 rfl ?_
        refine am_get d_X_put_28 fl_X_129 hv1 rfl ?_
        refine am_get d_X_put_31 fl_X_176 s4 rfl ?_
        refine am_iload d_X_put_34 rfl ?_
        refine am_lald (t := 1) d_X_put_36 rfl s5 (w7 k hk) ?_
        refine am_lstore (L' := [some (.ref g.2.2.1), some (.int (nI j)), some (.int (nI k)), some (.long y), none, some (.ref (av j)), some (.int ((T.vw j).pl k)), some (.long ((T.nu (T.vw j).st) ((T.vw j).pl k).toNatClampNeg)), none]) d_X_put_37 (by decide) rfl rfl ?_
        refine am_aload d_X_put_39 rfl ?_
        refine am_get d_X_put_41 fl_X_129 hv1 rfl ?_
        refine am_get d_X_put_44 fl_X_176 s4 rfl ?_
        refine am_iload d_X_put_47 rfl ?_
        refine am_aload d_X_put_49 rfl ?_
        refine am_get d_X_put_51 fl_X_129 hv1 rfl ?_
        refine am_lloadn d_X_put_54 rfl ?_
        refine am_cpsV [.long y] [.int ((T.vw j).pl k), .ref (as (T.vw j).st + 1)] d_X_put_55 cV_X_186 rfl s4 rfl rfl (Nat.le_of_ble_eq_true rfl) (Nat.le_of_ble_eq_true rfl) (c_low s4 y ?_)
        show am_W g (d + 3) mm_X_put (58, [some (.ref g.2.2.1), some (.int (nI j)), some (.int (nI k)), some (.long y), none, some (.ref (av j)), some (.int ((T.vw j).pl k)), some (.long ((T.nu (T.vw j).st) ((T.vw j).pl k).toNatClampNeg)), none], [.long (sv_low (T.ln (T.vw j).st) y), .int ((T.vw j).pl k), .ref (as (T.vw j).st + 1)]) S _
        refine am_last (t := 1) d_X_put_58 rfl s5 (w7 k hk) ?_
        obtain ⟨S_1, eS_1⟩ : ∃ z : am_S, z = (am_up S.1 (as (T.vw j).st + 1) (.inl (1, (T.sz (T.vw j).st), .inr (.inl (vp_updL (T.nu (T.vw j).st) ((T.vw j).pl k).toNatClampNeg (sv_low (T.ln (T.vw j).st) y))))), S.2) := ⟨_, rfl⟩
        change am_W _ _ _ _ (am_up S.1 (as (T.vw j).st + 1) (.inl (1, (T.sz (T.vw j).st), .inr (.inl (vp_updL (T.nu (T.vw j).st) ((T.vw j).pl k).toNatClampNeg (sv_low (T.ln (T.vw j).st) y))))), S.2) _
        rw [← eS_1]
        have h_2 : S_1.1 (as (T.vw j).st + 1) = some (.inl (1, (T.sz (T.vw j).st), .inr (.inl (vp_updL (T.nu (T.vw j).st) ((T.vw j).pl k).toNatClampNeg (sv_low (T.ln (T.vw j).st) y))))) := by rw [eS_1]; exact am_up_s
        have hnS_1 : S_1.2.1 = S.2.1 := by rw [eS_1]
        have hzS_1 : S_1.2.2 = S.2.2 := by rw [eS_1]
        refine am_lload d_X_put_59 rfl ?_
        exact am_lret d_X_put_61 rfl (sv_O.ret (hC.setS w1 h_2 (fun q _ h1 _ => by rw [eS_1]; exact am_up_n h1) (fp := fp) (by rw [eS_1]; exact (am_up_n (by omega)).trans h3) (by rw [eS_1])) ⟨fun q h1 h2 => by rw [eS_1]; exact am_up_n (by omega), by omega, by omega, by omega, by omega⟩)
set_option maxHeartbeats 4000000 in
set_option maxRecDepth 100000 in
/-- X_runs -/
theorem x_runs {g : am_G} {d : Nat} {S : am_S} {lo : Nat} {T : sv_T} {as av : Nat → Nat} (hC : sv_C g lo S T as av) (hr : sv_R g S 16 700) {i : Int32} : am_W g (d + 3) mm_X_runs (0, am_ent [.ref g.2.2.1, .int i] 5, []) S (sv_O g S (q_runs T i)) := by
  obtain ⟨qs, qv, fp, fn, fm, ⟨hx, hq1, hq2, h3, h4, h5⟩, hs, hv, i1, i2, hB, hlo, hw⟩ := id hC
  have h80 := hw.2.1
  obtain ⟨hr1, hr2⟩ := hr
  show am_W g (d + 3) mm_X_runs (0, [some (.ref g.2.2.1), some (.int i), none, none, none], []) S _
  refine am_aloadn d_X_runs_0 rfl ?_
  refine am_iloadn d_X_runs_1 rfl ?_
  refine am_cpsV [.int i] [] d_X_runs_2 cV_X_71 rfl hx rfl rfl (Nat.le_of_ble_eq_true rfl) (Nat.le_of_ble_eq_true rfl) (c_viewP hC (i := i) (hr := ⟨by omega, by omega⟩) (fun hno => ?_) (fun j hj hi => ?_))
  · rw [q_runs, sv_qv_no hno]
    exact sv_O.thr0 hC (by decide)
  · skip
    show am_W g (d + 3) mm_X_runs (5, [some (.ref g.2.2.1), some (.int i), none, none, none], [.ref (av j)]) S _
    rw [hi, q_runs, sv_qv_j hj h80]
    show am_W g (d + 3) mm_X_runs (5, [some (.ref g.2.2.1), some (.int (nI j)), none, none, none], [.ref (av j)]) S _
    obtain ⟨b1, b2, b3, fe, fs, hV, hE, hS⟩ := hv j hj
    obtain ⟨w1, w2, w3, w4, w5, w6, w7⟩ := hw.2.2.2 j hj
    obtain ⟨s1, s2, s3, s4, s5⟩ := hs (T.vw j).st w1
    have hv1 := hV.1
    refine am_astoren (L' := [some (.ref g.2.2.1), some (.int (nI j)), some (.ref (av j)), none, none]) d_X_runs_5 (by decide) rfl rfl ?_
    refine am_aloadn d_X_runs_6 rfl ?_
    refine am_aloadn d_X_runs_7 rfl ?_
    refine am_aloadn d_X_runs_8 rfl ?_
    refine am_cpsV [.ref (av j), .ref (av j)] [] d_X_runs_9 cV_X_144 rfl hx rfl rfl (Nat.le_of_ble_eq_true rfl) (Nat.le_of_ble_eq_true rfl) (c_layC hC hj hj (Nat.le_refl _) (fun S1 Fp hC1 hz1 hf1 hp1 hG => ?_))
    show am_W g (d + 3) mm_X_runs (12, [some (.ref g.2.2.1), some (.int (nI j)), some (.ref (av j)), none, none], []) S1 _
    obtain ⟨qsb, qvb, fpb, fnb, fmb, ⟨hxb, hq1b, hq2b, h3b, h4b, h5b⟩, hsb, hvb, -, -, -, hlob, -⟩ := id hC1
    obtain ⟨b1b, b2b, b3b, feb, fsb, hVb, hEb, hSb⟩ := hvb j hj
    obtain ⟨s1b, s2b, s3b, s4b, s5b⟩ := hsb (T.vw j).st w1
    have hv1b := hVb.1
    refine am_iconst 0 d_X_runs_12 (by decide) ?_
    refine am_istoren (L' := [some (.ref g.2.2.1), some (.int (nI j)), some (.ref (av j)), some (.int 0), none]) d_X_runs_13 (by decide) rfl rfl ?_
    refine am_iconst 0 d_X_runs_14 (by decide) ?_
    refine am_istore (L' := [some (.ref g.2.2.1), some (.int (nI j)), some (.ref (av j)), some (.int 0), some (.int 0)]) d_X_runs_15 (by decide) rfl rfl ?_
    refine c_runs_l hxb hv1b w4 (G := (T.vw j).pl) hp1 (fun t ht => (hG t ht).trans sv_sh_self) ?_ (T.vw j).it 0 (Nat.zero_add _)
    exact sv_O.ret hC1 ⟨fun q h1 h2 => hf1 q (by omega), by have := congrArg Prod.fst hz1; omega, by have := congrArg Prod.fst hz1; omega, by have := congrArg Prod.snd hz1; omega, by have := congrArg Prod.snd hz1; omega⟩
set_option maxHeartbeats 4000000 in
set_option maxRecDepth 100000 in
/-- X_same -/
theorem x_same {g : am_G} {d : Nat} {S : am_S} {lo : Nat} {T : sv_T} {as av : Nat → Nat} (hC : sv_C g lo S T as av) (hr : sv_R g S 16 700) {i n : Int32} : am_W g (d + 3) mm_X_same (0, am_ent [.ref g.2.2.1, .int i, .int n] 6, []) S (sv_O g S (q_same T i n)) := by
  obtain ⟨qs, qv, fp, fn, fm, ⟨hx, hq1, hq2, h3, h4, h5⟩, hs, hv, i1, i2, hB, hlo, hw⟩ := id hC
  have h80 := hw.2.1
  obtain ⟨hr1, hr2⟩ := hr
  show am_W g (d + 3) mm_X_same (0, [some (.ref g.2.2.1), some (.int i), some (.int n), none, none, none], []) S _
  refine am_aloadn d_X_same_0 rfl ?_
  refine am_iloadn d_X_same_1 rfl ?_
  refine am_cpsV [.int i] [] d_X_same_2 cV_X_71 rfl hx rfl rfl (Nat.le_of_ble_eq_true rfl) (Nat.le_of_ble_eq_true rfl) (c_viewP hC (i := i) (hr := ⟨by omega, by omega⟩) (fun hno => ?_) (fun j1 hj1 hi1 => ?_))
  · rw [q_same, sv_qv_no hno]
    exact sv_O.thr0 hC (by decide)
  · skip
    show am_W g (d + 3) mm_X_same (5, [some (.ref g.2.2.1), some (.int i), some (.int n), none, none, none], [.ref (av j1)]) S _
    rw [hi1, q_same, sv_qv_j hj1 h80]
    show am_W g (d + 3) mm_X_same (5, [some (.ref g.2.2.1), some (.int (nI j1)), some (.int n), none, none, none], [.ref (av j1)]) S _
    obtain ⟨b11, b21, b31, fe1, fs1, hV1, hE1, hS1⟩ := hv j1 hj1
    obtain ⟨w11, w21, w31, w41, w51, w61, w71⟩ := hw.2.2.2 j1 hj1
    obtain ⟨s11, s21, s31, s41, s51⟩ := hs (T.vw j1).st w11
    have hv11 := hV1.1
    refine am_astoren (L' := [some (.ref g.2.2.1), some (.int (nI j1)), some (.int n), some (.ref (av j1)), none, none]) d_X_same_5 (by decide) rfl rfl ?_
    refine am_aloadn d_X_same_6 rfl ?_
    refine am_iloadn d_X_same_7 rfl ?_
    refine am_cpsV [.int n] [] d_X_same_8 cV_X_71 rfl hx rfl rfl (Nat.le_of_ble_eq_true rfl) (Nat.le_of_ble_eq_true rfl) (c_viewP hC (i := n) (hr := ⟨by omega, by omega⟩) (fun hno => ?_) (fun j2 hj2 hi2 => ?_))
    · rw [sv_qv_no hno]
      exact sv_O.thr0 hC (by decide)
    · skip
      show am_W g (d + 3) mm_X_same (11, [some (.ref g.2.2.1), some (.int (nI j1)), some (.int n), some (.ref (av j1)), none, none], [.ref (av j2)]) S _
      rw [hi2, sv_qv_j hj2 h80]
      show am_W g (d + 3) mm_X_same (11, [some (.ref g.2.2.1), some (.int (nI j1)), some (.int (nI j2)), some (.ref (av j1)), none, none], [.ref (av j2)]) S _
      obtain ⟨b12, b22, b32, fe2, fs2, hV2, hE2, hS2⟩ := hv j2 hj2
      obtain ⟨w12, w22, w32, w42, w52, w62, w72⟩ := hw.2.2.2 j2 hj2
      obtain ⟨s12, s22, s32, s42, s52⟩ := hs (T.vw j2).st w12
      have hv12 := hV2.1
      refine am_astore (L' := [some (.ref g.2.2.1), some (.int (nI j1)), some (.int (nI j2)), some (.ref (av j1)), some (.ref (av j2)), none]) d_X_same_11 (by decide) rfl rfl ?_
      refine am_aloadn d_X_same_13 rfl ?_
      refine am_aload d_X_same_14 rfl ?_
      refine am_cpsV [.ref (av j2)] [] d_X_same_16 cV_X_211 rfl hv11 rfl rfl (Nat.le_of_ble_eq_true rfl) (Nat.le_of_ble_eq_true rfl) (c_hasExt hV1 hV2 (fun he => ?_) (fun he => ?_))
      · show am_W g (d + 3) mm_X_same (19, [some (.ref g.2.2.1), some (.int (nI j1)), some (.int (nI j2)), some (.ref (av j1)), some (.ref (av j2)), none], [.int 1]) S _
        refine am_ifne (tgt := 24) d_X_same_19 (by decide) (fun hc => ?_) (fun hc => ?_)
        · have hee := (sv_he_iff hE1 hE2 w31 w32).mp he
          have hit : (T.vw j1).it = (T.vw j2).it := by show sv_pr (T.vw j1).ex (T.vw j1).ax = sv_pr (T.vw j2).ex (T.vw j2).ax; rw [← hee.1]; exact sv_pr_congr hee.2
          refine am_aloadn d_X_same_24 rfl ?_
          refine am_aloadn d_X_same_25 rfl ?_
          refine am_aloadn d_X_same_26 rfl ?_
          refine am_cpsV [.ref (av j1), .ref (av j1)] [] d_X_same_27 cV_X_167 rfl hx rfl rfl (Nat.le_of_ble_eq_true rfl) (Nat.le_of_ble_eq_true rfl) (c_readC hC hj1 hj1 ⟨Nat.le_refl _, fun k hk => Or.inr (by rw [Nat.sub_self]; rfl)⟩ (fun S1 Fp Fn hC1 hz1 hf1 hp1 hn1 hG1 => ?_))
          show am_W g (d + 3) mm_X_same (30, [some (.ref g.2.2.1), some (.int (nI j1)), some (.int (nI j2)), some (.ref (av j1)), some (.ref (av j2)), none], []) S1 _
          obtain ⟨qsb, qvb, fpb, fnb, fmb, ⟨hxb, hq1b, hq2b, h3b, h4b, h5b⟩, hsb, hvb, -, -, -, hlob, -⟩ := id hC1
          refine am_aloadn d_X_same_30 rfl ?_
          refine am_aload d_X_same_31 rfl ?_
          refine am_aload d_X_same_33 rfl ?_
          refine am_cpsV [.ref (av j2), .ref (av j2)] [] d_X_same_35 cV_X_144 rfl hxb rfl rfl (Nat.le_of_ble_eq_true rfl) (Nat.le_of_ble_eq_true rfl) (c_layC hC1 hj2 hj2 (Nat.le_refl _) (fun S2 Fp2 hC2 hz2 hf2 hp2 hG2 => ?_))
          show am_W g (d + 3) mm_X_same (38, [some (.ref g.2.2.1), some (.int (nI j1)), some (.int (nI j2)), some (.ref (av j1)), some (.ref (av j2)), none], []) S2 _
          obtain ⟨qsc, qvc, fpc, fnc, fmc, ⟨hxc, hq1c, hq2c, h3c, h4c, h5c⟩, hsc, hvc, -, -, -, hloc, -⟩ := id hC2
          obtain ⟨b12c, b22c, b32c, fe2c, fs2c, hV2c, hE2c, hS2c⟩ := hvc j2 hj2
          obtain ⟨s12c, s22c, s32c, s42c, s52c⟩ := hsc (T.vw j2).st w12
          have hv12c := hV2c.1
          refine am_iconst 0 d_X_same_38 (by decide) ?_
          refine am_istore (L' := [some (.ref g.2.2.1), some (.int (nI j1)), some (.int (nI j2)), some (.ref (av j1)), some (.ref (av j2)), some (.int 0)]) d_X_same_39 (by decide) rfl rfl ?_
          refine c_same_l hxc hv12c w42 (G := (T.vw j2).pl) hp2 (fun t ht => (hG2 t ht).trans sv_sh_self) s42c s52c (nu := fun t => T.at (T.vw j1) t) ((hf2 _ (by omega)).trans hn1) (fun t ht => (hG1 t (by omega)).trans (by show T.nu (T.vw j1).st _ = T.nu (T.vw j1).st _; rw [sv_sh_self])) w72 (fun h => ?_) (fun h => ?_) (T.vw j2).it 0 (Nat.zero_add _) (fun t ht => absurd ht (Nat.not_lt_zero t))
          · rw [sv_if_y ⟨hee, fun t ht => h t (by omega)⟩]
            exact sv_O.ret hC2 ⟨fun q h1 h2 => (hf2 q (by omega)).trans (hf1 q (by omega) (by omega)), by have := congrArg Prod.fst (hz2.trans hz1); omega, by have := congrArg Prod.fst (hz2.trans hz1); omega, by have := congrArg Prod.snd (hz2.trans hz1); omega, by have := congrArg Prod.snd (hz2.trans hz1); omega⟩
          · rw [sv_if_n (fun q => h (fun t ht => q.2 t (by omega)))]
            exact sv_O.ret hC2 ⟨fun q h1 h2 => (hf2 q (by omega)).trans (hf1 q (by omega) (by omega)), by have := congrArg Prod.fst (hz2.trans hz1); omega, by have := congrArg Prod.fst (hz2.trans hz1); omega, by have := congrArg Prod.snd (hz2.trans hz1); omega, by have := congrArg Prod.snd (hz2.trans hz1); omega⟩
        · exact absurd hc (by decide)
      · show am_W g (d + 3) mm_X_same (19, [some (.ref g.2.2.1), some (.int (nI j1)), some (.int (nI j2)), some (.ref (av j1)), some (.ref (av j2)), none], [.int 0]) S _
        refine am_ifne (tgt := 24) d_X_same_19 (by decide) (fun hc => ?_) (fun hc => ?_)
        · exact absurd rfl hc
        · refine am_iconst 0 d_X_same_22 (by decide) ?_
          rw [sv_if_n (fun h => he ((sv_he_iff hE1 hE2 w31 w32).mpr h.1))]
          exact am_zret d_X_same_23 rfl rfl (sv_O.ret hC (sv_D.rf.le (by omega) (by omega)))
set_option maxHeartbeats 4000000 in
set_option maxRecDepth 100000 in
/-- X_shared -/
theorem x_shared {g : am_G} {d : Nat} {S : am_S} {lo : Nat} {T : sv_T} {as av : Nat → Nat} (hC : sv_C g lo S T as av) (hr : sv_R g S 16 700) {i n : Int32} : am_W g (d + 3) mm_X_shared (0, am_ent [.ref g.2.2.1, .int i, .int n] 7, []) S (sv_O g S (q_shared T i n)) := by
  obtain ⟨qs, qv, fp, fn, fm, ⟨hx, hq1, hq2, h3, h4, h5⟩, hs, hv, i1, i2, hB, hlo, hw⟩ := id hC
  have h80 := hw.2.1
  obtain ⟨hr1, hr2⟩ := hr
  show am_W g (d + 3) mm_X_shared (0, [some (.ref g.2.2.1), some (.int i), some (.int n), none, none, none, none], []) S _
  refine am_aloadn d_X_shared_0 rfl ?_
  refine am_iloadn d_X_shared_1 rfl ?_
  refine am_cpsV [.int i] [] d_X_shared_2 cV_X_71 rfl hx rfl rfl (Nat.le_of_ble_eq_true rfl) (Nat.le_of_ble_eq_true rfl) (c_viewP hC (i := i) (hr := ⟨by omega, by omega⟩) (fun hno => ?_) (fun j1 hj1 hi1 => ?_))
  · rw [q_shared, sv_qv_no hno]
    exact sv_O.thr0 hC (by decide)
  · skip
    show am_W g (d + 3) mm_X_shared (5, [some (.ref g.2.2.1), some (.int i), some (.int n), none, none, none, none], [.ref (av j1)]) S _
    rw [hi1, q_shared, sv_qv_j hj1 h80]
    show am_W g (d + 3) mm_X_shared (5, [some (.ref g.2.2.1), some (.int (nI j1)), some (.int n), none, none, none, none], [.ref (av j1)]) S _
    obtain ⟨b11, b21, b31, fe1, fs1, hV1, hE1, hS1⟩ := hv j1 hj1
    obtain ⟨w11, w21, w31, w41, w51, w61, w71⟩ := hw.2.2.2 j1 hj1
    obtain ⟨s11, s21, s31, s41, s51⟩ := hs (T.vw j1).st w11
    have hv11 := hV1.1
    refine am_astoren (L' := [some (.ref g.2.2.1), some (.int (nI j1)), some (.int n), some (.ref (av j1)), none, none, none]) d_X_shared_5 (by decide) rfl rfl ?_
    refine am_aloadn d_X_shared_6 rfl ?_
    refine am_iloadn d_X_shared_7 rfl ?_
    refine am_cpsV [.int n] [] d_X_shared_8 cV_X_71 rfl hx rfl rfl (Nat.le_of_ble_eq_true rfl) (Nat.le_of_ble_eq_true rfl) (c_viewP hC (i := n) (hr := ⟨by omega, by omega⟩) (fun hno => ?_) (fun j2 hj2 hi2 => ?_))
    · rw [sv_qv_no hno]
      exact sv_O.thr0 hC (by decide)
    · skip
      show am_W g (d + 3) mm_X_shared (11, [some (.ref g.2.2.1), some (.int (nI j1)), some (.int n), some (.ref (av j1)), none, none, none], [.ref (av j2)]) S _
      rw [hi2, sv_qv_j hj2 h80]
      show am_W g (d + 3) mm_X_shared (11, [some (.ref g.2.2.1), some (.int (nI j1)), some (.int (nI j2)), some (.ref (av j1)), none, none, none], [.ref (av j2)]) S _
      obtain ⟨b12, b22, b32, fe2, fs2, hV2, hE2, hS2⟩ := hv j2 hj2
      obtain ⟨w12, w22, w32, w42, w52, w62, w72⟩ := hw.2.2.2 j2 hj2
      obtain ⟨s12, s22, s32, s42, s52⟩ := hs (T.vw j2).st w12
      have hv12 := hV2.1
      refine am_astore (L' := [some (.ref g.2.2.1), some (.int (nI j1)), some (.int (nI j2)), some (.ref (av j1)), some (.ref (av j2)), none, none]) d_X_shared_11 (by decide) rfl rfl ?_
      refine am_aloadn d_X_shared_13 rfl ?_
      refine am_get d_X_shared_14 fl_X_129 hv11 rfl ?_
      refine am_aload d_X_shared_17 rfl ?_
      refine am_get d_X_shared_19 fl_X_129 hv12 rfl ?_
      refine am_aceq (tgt := 27) d_X_shared_22 (by decide) (fun hc => ?_) (fun hc => ?_)
      · have hst : (T.vw j1).st = (T.vw j2).st := i1 _ _ w11 w12 hc
        rw [if_pos hst]
        refine am_aloadn d_X_shared_27 rfl ?_
        refine am_cpsV [] [] d_X_shared_28 cV_X_208 rfl hx rfl rfl (Nat.le_of_ble_eq_true rfl) (Nat.le_of_ble_eq_true rfl) (c_clear hx h5 (fun S1 Fm hm1 hf1 hI1 => ?_))
        show am_W g (d + 3) mm_X_shared (31, [some (.ref g.2.2.1), some (.int (nI j1)), some (.int (nI j2)), some (.ref (av j1)), some (.ref (av j2)), none, none], []) S1 _
        have hz1 := hf1.1
        have hzz := congrArg Prod.fst hz1
        have hC1 : sv_C g lo S1 T as av := hC.keep (fun q _ _ _ h => hf1.2 q h) ((hf1.2 _ (by omega)).trans h3) ((hf1.2 _ (by omega)).trans h4) hm1 (by omega)
        obtain ⟨qsb, qvb, fpb, fnb, fmb, ⟨hxb, hq1b, hq2b, h3b, h4b, h5b⟩, hsb, hvb, -, -, -, hlob, -⟩ := id hC1
        refine am_aloadn d_X_shared_31 rfl ?_
        refine am_aloadn d_X_shared_32 rfl ?_
        refine am_aloadn d_X_shared_33 rfl ?_
        refine am_cpsV [.ref (av j1), .ref (av j1)] [] d_X_shared_34 cV_X_144 rfl hxb rfl rfl (Nat.le_of_ble_eq_true rfl) (Nat.le_of_ble_eq_true rfl) (c_layC hC1 hj1 hj1 (Nat.le_refl _) (fun S2 Fp2 hC2 hz2 hf2 hp2 hG2 => ?_))
        show am_W g (d + 3) mm_X_shared (37, [some (.ref g.2.2.1), some (.int (nI j1)), some (.int (nI j2)), some (.ref (av j1)), some (.ref (av j2)), none, none], []) S2 _
        obtain ⟨qsc, qvc, fpc, fnc, fmc, ⟨hxc, hq1c, hq2c, h3c, h4c, h5c⟩, hsc, hvc, -, -, -, hloc, -⟩ := id hC2
        obtain ⟨b11c, b21c, b31c, fe1c, fs1c, hV1c, hE1c, hS1c⟩ := hvc j1 hj1
        obtain ⟨s11c, s21c, s31c, s41c, s51c⟩ := hsc (T.vw j1).st w11
        have hv11c := hV1c.1
        refine am_iconst 0 d_X_shared_37 (by decide) ?_
        refine am_istore (L' := [some (.ref g.2.2.1), some (.int (nI j1)), some (.int (nI j2)), some (.ref (av j1)), some (.ref (av j2)), some (.int 0), none]) d_X_shared_38 (by decide) rfl rfl ?_
        have hsz := hw.2.2.1 _ w11
        have hsz2 := hw.2.2.1 _ w12
        refine c_shared_1 hxc hv11c w41 (G := (T.vw j1).pl) hp2 (fun t ht => (hG2 t ht).trans sv_sh_self) ((hf2 _ (by omega)).trans hm1) (fun t ht => vp_in_mono (w71 t ht) hsz) (fun S3 Fm3 hm3 hf3 hI3 z8 => ?_) (T.vw j1).it 0 (Nat.zero_add _) S2 Fm ((hf2 _ (by omega)).trans hm1) sv_f1.rf (fun t ht => hI1 t ht)
        show am_W g (d + 3) mm_X_shared (68, [some (.ref g.2.2.1), some (.int (nI j1)), some (.int (nI j2)), some (.ref (av j1)), some (.ref (av j2)), some (.int z8), none], []) S3 _
        have hz3 := hf3.1
        have hzz3 := congrArg Prod.fst hz3
        have hzz2 := congrArg Prod.fst hz2
        have hC3 : sv_C g lo S3 T as av := hC2.keep (fun q _ _ _ h => hf3.2 q h) ((hf3.2 _ (by omega)).trans hp2) ((hf3.2 _ (by omega)).trans h4c) hm3 (by omega)
        obtain ⟨qsd, qvd, fpd, fnd, fmd, ⟨hxd, hq1d, hq2d, h3d, h4d, h5d⟩, hsd, hvd, -, -, -, hlod, -⟩ := id hC3
        refine am_aloadn d_X_shared_68 rfl ?_
        refine am_aload d_X_shared_69 rfl ?_
        refine am_aload d_X_shared_71 rfl ?_
        refine am_cpsV [.ref (av j2), .ref (av j2)] [] d_X_shared_73 cV_X_144 rfl hxd rfl rfl (Nat.le_of_ble_eq_true rfl) (Nat.le_of_ble_eq_true rfl) (c_layC hC3 hj2 hj2 (Nat.le_refl _) (fun S4 Fp4 hC4 hz4 hf4 hp4 hG4 => ?_))
        show am_W g (d + 3) mm_X_shared (76, [some (.ref g.2.2.1), some (.int (nI j1)), some (.int (nI j2)), some (.ref (av j1)), some (.ref (av j2)), some (.int z8), none], []) S4 _
        obtain ⟨qse, qve, fpe, fne, fme, ⟨hxe, hq1e, hq2e, h3e, h4e, h5e⟩, hse, hve, -, -, -, hloe, -⟩ := id hC4
        obtain ⟨b12e, b22e, b32e, fe2e, fs2e, hV2e, hE2e, hS2e⟩ := hve j2 hj2
        obtain ⟨s12e, s22e, s32e, s42e, s52e⟩ := hse (T.vw j2).st w12
        have hv12e := hV2e.1
        refine am_iconst 0 d_X_shared_76 (by decide) ?_
        refine am_istore (L' := [some (.ref g.2.2.1), some (.int (nI j1)), some (.int (nI j2)), some (.ref (av j1)), some (.ref (av j2)), some (.int 0), none]) d_X_shared_77 (by decide) rfl rfl ?_
        refine am_iconst 0 d_X_shared_79 (by decide) ?_
        refine am_istore (L' := [some (.ref g.2.2.1), some (.int (nI j1)), some (.int (nI j2)), some (.ref (av j1)), some (.ref (av j2)), some (.int 0), some (.int 0)]) d_X_shared_80 (by decide) rfl rfl ?_
        refine c_shared_2 hxe hv12e w42 (G := (T.vw j2).pl) (m0 := sv_mk (fun i => ((T.vw j1).pl i).toNatClampNeg) (T.vw j1).it) hp4 (fun t ht => (hG4 t ht).trans sv_sh_self) ((hf4 _ (by omega)).trans hm3) (fun t ht => vp_in_mono (w72 t ht) hsz2) (fun S5 Fm5 hm5 hf5 => ?_) (T.vw j2).it 0 (Nat.zero_add _) S4 Fm3 ((hf4 _ (by omega)).trans hm3) sv_f1.rf hI3
        have hz5 := hf5.1
        have hzz5 := congrArg Prod.fst hz5
        have hzz4 := congrArg Prod.fst hz4
        refine sv_O.ret (hC4.keep (fun q _ _ _ h => hf5.2 q h) ((hf5.2 _ (by omega)).trans hp4) ((hf5.2 _ (by omega)).trans h4e) hm5 (by omega)) ⟨fun q h1 h2 => (hf5.2 q (by omega)).trans ((hf4 q (by omega)).trans ((hf3.2 q (by omega)).trans ((hf2 q (by omega)).trans (hf1.2 q (by omega))))), by have := congrArg Prod.fst (hz5.trans (hz4.trans (hz3.trans (hz2.trans hz1)))); omega, by have := congrArg Prod.fst (hz5.trans (hz4.trans (hz3.trans (hz2.trans hz1)))); omega, by have := congrArg Prod.snd (hz5.trans (hz4.trans (hz3.trans (hz2.trans hz1)))); omega, by have := congrArg Prod.snd (hz5.trans (hz4.trans (hz3.trans (hz2.trans hz1)))); omega⟩
      · rw [if_neg (fun h => hc (by rw [h]))]
        refine am_iconst 0 d_X_shared_25 (by decide) ?_
        exact am_iret d_X_shared_26 rfl (sv_O.ret hC (sv_D.rf.le (by omega) (by omega)))
set_option maxHeartbeats 4000000 in
set_option maxRecDepth 100000 in
/-- X_copy -/
theorem x_copy {g : am_G} {d : Nat} {S : am_S} {lo : Nat} {T : sv_T} {as av : Nat → Nat} (hC : sv_C g lo S T as av) (hr : sv_R g S 16 700) {i n : Int32} : am_W g (d + 3) mm_X_copy (0, am_ent [.ref g.2.2.1, .int i, .int n] 5, []) S (sv_O g S (q_copy T i n)) := by
  obtain ⟨qs, qv, fp, fn, fm, ⟨hx, hq1, hq2, h3, h4, h5⟩, hs, hv, i1, i2, hB, hlo, hw⟩ := id hC
  have h80 := hw.2.1
  obtain ⟨hr1, hr2⟩ := hr
  show am_W g (d + 3) mm_X_copy (0, [some (.ref g.2.2.1), some (.int i), some (.int n), none, none], []) S _
  refine am_aloadn d_X_copy_0 rfl ?_
  refine am_iloadn d_X_copy_1 rfl ?_
  refine am_cpsV [.int i] [] d_X_copy_2 cV_X_71 rfl hx rfl rfl (Nat.le_of_ble_eq_true rfl) (Nat.le_of_ble_eq_true rfl) (c_viewP hC (i := i) (hr := ⟨by omega, by omega⟩) (fun hno => ?_) (fun j1 hj1 hi1 => ?_))
  · rw [q_copy, sv_qv_no hno]
    exact sv_O.thr0 hC (by decide)
  · skip
    show am_W g (d + 3) mm_X_copy (5, [some (.ref g.2.2.1), some (.int i), some (.int n), none, none], [.ref (av j1)]) S _
    rw [hi1, q_copy, sv_qv_j hj1 h80]
    show am_W g (d + 3) mm_X_copy (5, [some (.ref g.2.2.1), some (.int (nI j1)), some (.int n), none, none], [.ref (av j1)]) S _
    obtain ⟨b11, b21, b31, fe1, fs1, hV1, hE1, hS1⟩ := hv j1 hj1
    obtain ⟨w11, w21, w31, w41, w51, w61, w71⟩ := hw.2.2.2 j1 hj1
    obtain ⟨s11, s21, s31, s41, s51⟩ := hs (T.vw j1).st w11
    have hv11 := hV1.1
    refine am_astoren (L' := [some (.ref g.2.2.1), some (.int (nI j1)), some (.int n), some (.ref (av j1)), none]) d_X_copy_5 (by decide) rfl rfl ?_
    refine am_aloadn d_X_copy_6 rfl ?_
    refine am_iloadn d_X_copy_7 rfl ?_
    refine am_cpsV [.int n] [] d_X_copy_8 cV_X_71 rfl hx rfl rfl (Nat.le_of_ble_eq_true rfl) (Nat.le_of_ble_eq_true rfl) (c_viewP hC (i := n) (hr := ⟨by omega, by omega⟩) (fun hno => ?_) (fun j2 hj2 hi2 => ?_))
    · rw [sv_qv_no hno]
      exact sv_O.thr0 hC (by decide)
    · skip
      show am_W g (d + 3) mm_X_copy (11, [some (.ref g.2.2.1), some (.int (nI j1)), some (.int n), some (.ref (av j1)), none], [.ref (av j2)]) S _
      rw [hi2, sv_qv_j hj2 h80]
      show am_W g (d + 3) mm_X_copy (11, [some (.ref g.2.2.1), some (.int (nI j1)), some (.int (nI j2)), some (.ref (av j1)), none], [.ref (av j2)]) S _
      obtain ⟨b12, b22, b32, fe2, fs2, hV2, hE2, hS2⟩ := hv j2 hj2
      obtain ⟨w12, w22, w32, w42, w52, w62, w72⟩ := hw.2.2.2 j2 hj2
      obtain ⟨s12, s22, s32, s42, s52⟩ := hs (T.vw j2).st w12
      have hv12 := hV2.1
      refine am_astore (L' := [some (.ref g.2.2.1), some (.int (nI j1)), some (.int (nI j2)), some (.ref (av j1)), some (.ref (av j2))]) d_X_copy_11 (by decide) rfl rfl ?_
      refine am_aloadn d_X_copy_13 rfl ?_
      refine am_aload d_X_copy_14 rfl ?_
      refine am_cpsS [.ref (av j1), .ref (av j2)] [] d_X_copy_16 cS_X_190 rfl rfl rfl (Nat.le_of_ble_eq_true rfl) (Nat.le_of_ble_eq_true rfl) (c_needGoing hV1 hV2 (by omega) (by omega) (fun hno => ?_) (fun hgo => ?_))
      · rw [sv_if_n (fun h => hno ((sv_go_iff hE1 hE2 w31 w32).mpr h))]
        exact sv_O.thr0 hC (by decide)
      · skip
        show am_W g (d + 3) mm_X_copy (19, [some (.ref g.2.2.1), some (.int (nI j1)), some (.int (nI j2)), some (.ref (av j1)), some (.ref (av j2))], []) S _
        have hgg := (sv_go_iff hE1 hE2 w31 w32).mp hgo
        rw [sv_if_y hgg]
        refine am_aload d_X_copy_19 rfl ?_
        refine am_cpsS [.ref (av j2)] [] d_X_copy_21 cS_X_183 rfl rfl rfl (Nat.le_of_ble_eq_true rfl) (Nat.le_of_ble_eq_true rfl) (c_needFree hV2 (by omega) (by omega) (fun hno => ?_) (fun hfr => ?_))
        · rw [sv_if_y ((sv_fx_iff hE2 hS2 w32).mp hno)]
          exact sv_O.thr0 hC (by decide)
        · skip
          show am_W g (d + 3) mm_X_copy (24, [some (.ref g.2.2.1), some (.int (nI j1)), some (.int (nI j2)), some (.ref (av j1)), some (.ref (av j2))], []) S _
          rw [sv_if_n (fun h => hfr ((sv_fx_iff hE2 hS2 w32).mpr h))]
          refine am_aloadn d_X_copy_24 rfl ?_
          refine am_aloadn d_X_copy_25 rfl ?_
          refine am_aload d_X_copy_26 rfl ?_
          refine am_cpsV [.ref (av j1), .ref (av j2)] [] d_X_copy_28 cV_X_167 rfl hx rfl rfl (Nat.le_of_ble_eq_true rfl) (Nat.le_of_ble_eq_true rfl) (c_readC hC hj1 hj2 hgg (fun S1 Fp Fn hC1 hz1 hf1 hp1 hn1 hG1 => ?_))
          show am_W g (d + 3) mm_X_copy (31, [some (.ref g.2.2.1), some (.int (nI j1)), some (.int (nI j2)), some (.ref (av j1)), some (.ref (av j2))], []) S1 _
          obtain ⟨qsb, qvb, fpb, fnb, fmb, ⟨hxb, hq1b, hq2b, h3b, h4b, h5b⟩, hsb, hvb, -, -, -, hlob, -⟩ := id hC1
          refine am_aloadn d_X_copy_31 rfl ?_
          refine am_aload d_X_copy_32 rfl ?_
          refine am_cpsV [.ref (av j2)] [] d_X_copy_34 cV_X_170 rfl hxb rfl rfl (Nat.le_of_ble_eq_true rfl) (Nat.le_of_ble_eq_true rfl) (c_writeC hC1 hj2 hn1 hG1 (fun S2 hC2 hz2 hf2 => ?_))
          show am_W g (d + 3) mm_X_copy (37, [some (.ref g.2.2.1), some (.int (nI j1)), some (.int (nI j2)), some (.ref (av j1)), some (.ref (av j2))], [.int (nI (sv_wr (T.ln (T.vw j2).st) (T.vw j2).pl (T.gn (T.vw j1) (T.vw j2)) (T.nu (T.vw j2).st) (T.vw j2).it).2)]) S2 _
          exact am_iret d_X_copy_37 rfl (sv_O.ret hC2 ⟨fun q h1 h2 => (hf2 q (by omega) (by omega)).trans (hf1 q (by omega) (by omega)), by have := congrArg Prod.fst (hz2.trans hz1); omega, by have := congrArg Prod.fst (hz2.trans hz1); omega, by have := congrArg Prod.snd (hz2.trans hz1); omega, by have := congrArg Prod.snd (hz2.trans hz1); omega⟩)
set_option maxHeartbeats 4000000 in
set_option maxRecDepth 100000 in
/-- X_act -/
theorem x_act {g : am_G} {d : Nat} {S : am_S} {lo : Nat} {T : sv_T} {as av : Nat → Nat} (hC : sv_C g lo S T as av) (hr : sv_R g S 16 700) {t i n m : Int32} : am_W g (d + 3) mm_X_act (0, am_ent [.ref g.2.2.1, .int t, .int i, .int n, .int m] 9, []) S (sv_O g S (q_act T t i n m)) := by
  obtain ⟨qs, qv, fp, fn, fm, ⟨hx, hq1, hq2, h3, h4, h5⟩, hs, hv, i1, i2, hB, hlo, hw⟩ := id hC
  have h80 := hw.2.1
  obtain ⟨hr1, hr2⟩ := hr
  show am_W g (d + 3) mm_X_act (0, [some (.ref g.2.2.1), some (.int t), some (.int i), some (.int n), some (.int m), none, none, none, none], []) S _
  refine am_aloadn d_X_act_0 rfl ?_
  refine am_iloadn d_X_act_1 rfl ?_
  refine am_cpsV [.int i] [] d_X_act_2 cV_X_71 rfl hx rfl rfl (Nat.le_of_ble_eq_true rfl) (Nat.le_of_ble_eq_true rfl) (c_viewP hC (i := i) (hr := ⟨by omega, by omega⟩) (fun hno => ?_) (fun j1 hj1 hi1 => ?_))
  · rw [q_act, sv_qv_no hno]
    exact sv_O.thr0 hC (by decide)
  · skip
    show am_W g (d + 3) mm_X_act (5, [some (.ref g.2.2.1), some (.int t), some (.int i), some (.int n), some (.int m), none, none, none, none], [.ref (av j1)]) S _
    rw [hi1, q_act, sv_qv_j hj1 h80]
    show am_W g (d + 3) mm_X_act (5, [some (.ref g.2.2.1), some (.int t), some (.int (nI j1)), some (.int n), some (.int m), none, none, none, none], [.ref (av j1)]) S _
    obtain ⟨b11, b21, b31, fe1, fs1, hV1, hE1, hS1⟩ := hv j1 hj1
    obtain ⟨w11, w21, w31, w41, w51, w61, w71⟩ := hw.2.2.2 j1 hj1
    obtain ⟨s11, s21, s31, s41, s51⟩ := hs (T.vw j1).st w11
    have hv11 := hV1.1
    refine am_astore (L' := [some (.ref g.2.2.1), some (.int t), some (.int (nI j1)), some (.int n), some (.int m), some (.ref (av j1)), none, none, none]) d_X_act_5 (by decide) rfl rfl ?_
    refine am_aloadn d_X_act_7 rfl ?_
    refine am_iloadn d_X_act_8 rfl ?_
    refine am_cpsV [.int n] [] d_X_act_9 cV_X_71 rfl hx rfl rfl (Nat.le_of_ble_eq_true rfl) (Nat.le_of_ble_eq_true rfl) (c_viewP hC (i := n) (hr := ⟨by omega, by omega⟩) (fun hno => ?_) (fun j2 hj2 hi2 => ?_))
    · rw [sv_qv_no hno]
      exact sv_O.thr0 hC (by decide)
    · skip
      show am_W g (d + 3) mm_X_act (12, [some (.ref g.2.2.1), some (.int t), some (.int (nI j1)), some (.int n), some (.int m), some (.ref (av j1)), none, none, none], [.ref (av j2)]) S _
      rw [hi2, sv_qv_j hj2 h80]
      show am_W g (d + 3) mm_X_act (12, [some (.ref g.2.2.1), some (.int t), some (.int (nI j1)), some (.int (nI j2)), some (.int m), some (.ref (av j1)), none, none, none], [.ref (av j2)]) S _
      obtain ⟨b12, b22, b32, fe2, fs2, hV2, hE2, hS2⟩ := hv j2 hj2
      obtain ⟨w12, w22, w32, w42, w52, w62, w72⟩ := hw.2.2.2 j2 hj2
      obtain ⟨s12, s22, s32, s42, s52⟩ := hs (T.vw j2).st w12
      have hv12 := hV2.1
      refine am_astore (L' := [some (.ref g.2.2.1), some (.int t), some (.int (nI j1)), some (.int (nI j2)), some (.int m), some (.ref (av j1)), some (.ref (av j2)), none, none]) d_X_act_12 (by decide) rfl rfl ?_
      refine am_aloadn d_X_act_14 rfl ?_
      refine am_iload d_X_act_15 rfl ?_
      refine am_cpsV [.int m] [] d_X_act_17 cV_X_71 rfl hx rfl rfl (Nat.le_of_ble_eq_true rfl) (Nat.le_of_ble_eq_true rfl) (c_viewP hC (i := m) (hr := ⟨by omega, by omega⟩) (fun hno => ?_) (fun j3 hj3 hi3 => ?_))
      · rw [sv_qv_no hno]
        exact sv_O.thr0 hC (by decide)
      · skip
        show am_W g (d + 3) mm_X_act (20, [some (.ref g.2.2.1), some (.int t), some (.int (nI j1)), some (.int (nI j2)), some (.int m), some (.ref (av j1)), some (.ref (av j2)), none, none], [.ref (av j3)]) S _
        rw [hi3, sv_qv_j hj3 h80]
        show am_W g (d + 3) mm_X_act (20, [some (.ref g.2.2.1), some (.int t), some (.int (nI j1)), some (.int (nI j2)), some (.int (nI j3)), some (.ref (av j1)), some (.ref (av j2)), none, none], [.ref (av j3)]) S _
        obtain ⟨b13, b23, b33, fe3, fs3, hV3, hE3, hS3⟩ := hv j3 hj3
        obtain ⟨w13, w23, w33, w43, w53, w63, w73⟩ := hw.2.2.2 j3 hj3
        obtain ⟨s13, s23, s33, s43, s53⟩ := hs (T.vw j3).st w13
        have hv13 := hV3.1
        refine am_astore (L' := [some (.ref g.2.2.1), some (.int t), some (.int (nI j1)), some (.int (nI j2)), some (.int (nI j3)), some (.ref (av j1)), some (.ref (av j2)), some (.ref (av j3)), none]) d_X_act_20 (by decide) rfl rfl ?_
        refine am_iloadn d_X_act_22 rfl ?_
        refine am_iflt (tgt := 31) d_X_act_23 (by decide) (fun hc => ?_) (fun hc => ?_)
        · rw [sv_if_n (fun h => Int32.not_lt.mpr h.1.1 hc)]
          exact am_thr d_X_act_31 d_X_act_34 d_X_act_35 d_X_act_37 d_X_act_40 tw_X_44_193_48 rfl (Nat.le_of_ble_eq_true rfl) (by omega) (by omega) (sv_O.thr0 hC (by decide))
        · refine am_iloadn d_X_act_26 rfl ?_
          refine am_iconst 4 d_X_act_27 (by decide) ?_
          refine am_icle (tgt := 41) d_X_act_28 (by decide) (fun hd => ?_) (fun hd => ?_)
          · skip
            refine am_aload d_X_act_41 rfl ?_
            refine am_aload d_X_act_43 rfl ?_
            refine am_cpsS [.ref (av j1), .ref (av j3)] [] d_X_act_45 cS_X_190 rfl rfl rfl (Nat.le_of_ble_eq_true rfl) (Nat.le_of_ble_eq_true rfl) (c_needGoing hV1 hV3 (by omega) (by omega) (fun hno => ?_) (fun hgo => ?_))
            · rw [sv_if_n (fun h => hno ((sv_go_iff hE1 hE3 w31 w33).mpr h.2.1))]
              exact sv_O.thr0 hC (by decide)
            · skip
              show am_W g (d + 3) mm_X_act (48, [some (.ref g.2.2.1), some (.int t), some (.int (nI j1)), some (.int (nI j2)), some (.int (nI j3)), some (.ref (av j1)), some (.ref (av j2)), some (.ref (av j3)), none], []) S _
              refine am_aload d_X_act_48 rfl ?_
              refine am_aload d_X_act_50 rfl ?_
              refine am_cpsS [.ref (av j2), .ref (av j3)] [] d_X_act_52 cS_X_190 rfl rfl rfl (Nat.le_of_ble_eq_true rfl) (Nat.le_of_ble_eq_true rfl) (c_needGoing hV2 hV3 (by omega) (by omega) (fun hno => ?_) (fun hgo2 => ?_))
              · rw [sv_if_n (fun h => hno ((sv_go_iff hE2 hE3 w32 w33).mpr h.2.2))]
                exact sv_O.thr0 hC (by decide)
              · skip
                show am_W g (d + 3) mm_X_act (55, [some (.ref g.2.2.1), some (.int t), some (.int (nI j1)), some (.int (nI j2)), some (.int (nI j3)), some (.ref (av j1)), some (.ref (av j2)), some (.ref (av j3)), none], []) S _
                have hgg := (sv_go_iff hE1 hE3 w31 w33).mp hgo
                have hgg2 := (sv_go_iff hE2 hE3 w32 w33).mp hgo2
                rw [sv_if_y ⟨⟨Int32.not_lt.mp hc, hd⟩, hgg, hgg2⟩]
                refine am_aload d_X_act_55 rfl ?_
                refine am_cpsS [.ref (av j3)] [] d_X_act_57 cS_X_183 rfl rfl rfl (Nat.le_of_ble_eq_true rfl) (Nat.le_of_ble_eq_true rfl) (c_needFree hV3 (by omega) (by omega) (fun hno => ?_) (fun hfr => ?_))
                · rw [sv_if_y ((sv_fx_iff hE3 hS3 w33).mp hno)]
                  exact sv_O.thr0 hC (by decide)
                · skip
                  show am_W g (d + 3) mm_X_act (60, [some (.ref g.2.2.1), some (.int t), some (.int (nI j1)), some (.int (nI j2)), some (.int (nI j3)), some (.ref (av j1)), some (.ref (av j2)), some (.ref (av j3)), none], []) S _
                  rw [sv_if_n (fun h => hfr ((sv_fx_iff hE3 hS3 w33).mpr h))]
                  refine am_aloadn d_X_act_60 rfl ?_
                  refine am_aload d_X_act_61 rfl ?_
                  refine am_aload d_X_act_63 rfl ?_
                  refine am_cpsV [.ref (av j1), .ref (av j3)] [] d_X_act_65 cV_X_167 rfl hx rfl rfl (Nat.le_of_ble_eq_true rfl) (Nat.le_of_ble_eq_true rfl) (c_readC hC hj1 hj3 hgg (fun S1 Fp Fn hC1 hz1 hf1 hp1 hn1 hG1 => ?_))
                  show am_W g (d + 3) mm_X_act (68, [some (.ref g.2.2.1), some (.int t), some (.int (nI j1)), some (.int (nI j2)), some (.int (nI j3)), some (.ref (av j1)), some (.ref (av j2)), some (.ref (av j3)), none], []) S1 _
                  obtain ⟨qsb, qvb, fpb, fnb, fmb, ⟨hxb, hq1b, hq2b, h3b, h4b, h5b⟩, hsb, hvb, -, -, -, hlob, -⟩ := id hC1
                  refine am_aloadn d_X_act_68 rfl ?_
                  refine am_aload d_X_act_69 rfl ?_
                  refine am_aload d_X_act_71 rfl ?_
                  refine am_cpsV [.ref (av j2), .ref (av j3)] [] d_X_act_73 cV_X_144 rfl hxb rfl rfl (Nat.le_of_ble_eq_true rfl) (Nat.le_of_ble_eq_true rfl) (c_layC hC1 hj2 hj3 hgg2.1 (fun S2 Fp2 hC2 hz2 hf2 hp2 hG2 => ?_))
                  show am_W g (d + 3) mm_X_act (76, [some (.ref g.2.2.1), some (.int t), some (.int (nI j1)), some (.int (nI j2)), some (.int (nI j3)), some (.ref (av j1)), some (.ref (av j2)), some (.ref (av j3)), none], []) S2 _
                  obtain ⟨qsc, qvc, fpc, fnc, fmc, ⟨hxc, hq1c, hq2c, h3c, h4c, h5c⟩, hsc, hvc, -, -, -, hloc, -⟩ := id hC2
                  obtain ⟨b12c, b22c, b32c, fe2c, fs2c, hV2c, hE2c, hS2c⟩ := hvc j2 hj2
                  obtain ⟨s12c, s22c, s32c, s42c, s52c⟩ := hsc (T.vw j2).st w12
                  have hv12c := hV2c.1
                  obtain ⟨b13c, b23c, b33c, fe3c, fs3c, hV3c, hE3c, hS3c⟩ := hvc j3 hj3
                  obtain ⟨s13c, s23c, s33c, s43c, s53c⟩ := hsc (T.vw j3).st w13
                  have hv13c := hV3c.1
                  refine am_iconst 0 d_X_act_76 (by decide) ?_
                  refine am_istore (L' := [some (.ref g.2.2.1), some (.int t), some (.int (nI j1)), some (.int (nI j2)), some (.int (nI j3)), some (.ref (av j1)), some (.ref (av j2)), some (.ref (av j3)), some (.int 0)]) d_X_act_77 (by decide) rfl rfl ?_
                  refine c_act_l hxc hv13c w43 (G := fun i => (T.vw j2).sa + sv_pl (T.vw j3).ex (sv_sh ((T.vw j3).ax - (T.vw j2).ax) (T.vw j2).sp) (T.vw j3).ax i) hp2 hG2 s42c s52c hv12c (nu := T.gn (T.vw j1) (T.vw j3)) ((hf2 _ (by omega)).trans hn1) (fun t ht => sv_go_in hgg2 w62 w72 t ht) (by omega) (fun S3 Fn3 hn3 hf3 hI3 z8 => ?_) (T.vw j3).it 0 (Nat.zero_add _) S2 Fn ((hf2 _ (by omega)).trans hn1) sv_f1.rf (fun t ht => (hG1 t ht).trans (if_neg (by omega)).symm)
                  show am_W g (d + 3) mm_X_act (129, [some (.ref g.2.2.1), some (.int t), some (.int (nI j1)), some (.int (nI j2)), some (.int (nI j3)), some (.ref (av j1)), some (.ref (av j2)), some (.ref (av j3)), some (.int z8)], []) S3 _
                  have hz3 := hf3.1
                  have hzz3 := congrArg Prod.fst hz3
                  have hC3 : sv_C g lo S3 T as av := hC2.keep (fun q _ _ h _ => hf3.2 q h) ((hf3.2 _ (by omega)).trans hp2) hn3 ((hf3.2 _ (by omega)).trans h5c) (by omega)
                  obtain ⟨qsd, qvd, fpd, fnd, fmd, ⟨hxd, hq1d, hq2d, h3d, h4d, h5d⟩, hsd, hvd, -, -, -, hlod, -⟩ := id hC3
                  refine am_aloadn d_X_act_129 rfl ?_
                  refine am_aload d_X_act_130 rfl ?_
                  refine am_cpsV [.ref (av j3)] [] d_X_act_132 cV_X_170 rfl hxd rfl rfl (Nat.le_of_ble_eq_true rfl) (Nat.le_of_ble_eq_true rfl) (c_writeC hC3 hj3 hn3 (f := fun i => sv_act t (T.gn (T.vw j1) (T.vw j3) i) (T.gn (T.vw j2) (T.vw j3) i)) hI3 (fun S4 hC4 hz4 hf4 => ?_))
                  show am_W g (d + 3) mm_X_act (135, [some (.ref g.2.2.1), some (.int t), some (.int (nI j1)), some (.int (nI j2)), some (.int (nI j3)), some (.ref (av j1)), some (.ref (av j2)), some (.ref (av j3)), some (.int z8)], [.int (nI (sv_wr (T.ln (T.vw j3).st) (T.vw j3).pl (fun i => sv_act t (T.gn (T.vw j1) (T.vw j3) i) (T.gn (T.vw j2) (T.vw j3) i)) (T.nu (T.vw j3).st) (T.vw j3).it).2)]) S4 _
                  exact am_iret d_X_act_135 rfl (sv_O.ret hC4 ⟨fun q h1 h2 => (hf4 q (by omega) (by omega)).trans ((hf3.2 q (by omega)).trans ((hf2 q (by omega)).trans (hf1 q (by omega) (by omega)))), by have := congrArg Prod.fst (hz4.trans (hz3.trans (hz2.trans hz1))); omega, by have := congrArg Prod.fst (hz4.trans (hz3.trans (hz2.trans hz1))); omega, by have := congrArg Prod.snd (hz4.trans (hz3.trans (hz2.trans hz1))); omega, by have := congrArg Prod.snd (hz4.trans (hz3.trans (hz2.trans hz1))); omega⟩)
          · rw [sv_if_n (fun h => hd h.1.2)]
            exact am_thr d_X_act_31 d_X_act_34 d_X_act_35 d_X_act_37 d_X_act_40 tw_X_44_193_48 rfl (Nat.le_of_ble_eq_true rfl) (by omega) (by omega) (sv_O.thr0 hC (by decide))
