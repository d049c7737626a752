/-! store, shape, compact, fold -/
theorem sv_kp_0 {T : sv_T} {st ax : Nat} {sa : Int32} {ex : Nat → Nat} {sp sp2 : Nat → Int32} (h : sv_pr ex ax = 0) : sv_kp T (st, sa, ax, ex, sp) = sv_kp T (st, sa, ax, ex, sp2) := by
  have e : sv_set (st, sa, ax, ex, sp) = sv_set (st, sa, ax, ex, sp2) := by
    unfold sv_set
    congr 4
    funext k
    rw [if_pos (Or.inl h), if_pos (Or.inl h)]
  unfold sv_kp
  rw [e]
theorem sv_addS_setS {T : sv_T} {ln : Int32} {sz : Nat} {f f2 : Nat → Int64} {a : sv_A} : ((T.addS ln sz f).addV a).setS T.ns f2 = (T.addS ln sz f2).addV a := by
  have e : (fun i => if i = T.ns then f2 else (if i = T.ns then f else T.nu i)) = (fun i => if i = T.ns then f2 else T.nu i) := by
    funext i
    split
    · rfl
    · rfl
  show (T.ns + 1, _, _, (fun i => if i = T.ns then f2 else (if i = T.ns then f else T.nu i)), T.nv + 1, _) = _
  rw [e]
  rfl
set_option maxHeartbeats 4000000 in
set_option maxRecDepth 100000 in
/-- X_store -/
theorem x_store {g : am_G} {d : Nat} {S : am_S} {lo : Nat} {T : sv_T} {as av : Nat → Nat} (hC : sv_C g lo S T as av) (hr : sv_R g S 16 700) {ln n : Int32} : am_W g (d + 3) mm_X_store (0, am_ent [.ref g.2.2.1, .int ln, .int n] 5, []) S (sv_O g S (q_store T ln n)) := by
  obtain ⟨qs, qv, fp, fn, fm, ⟨hx, hq1, hq2, h3, h4, h5⟩, hs, hv, i1, i2, hB, hlo, hw⟩ := id hC
  have h80 := hw.2.1
  obtain ⟨hr1, hr2⟩ := hr
  show am_W g (d + 3) mm_X_store (0, [some (.ref g.2.2.1), some (.int ln), some (.int n), none, none], []) S _
  refine am_iloadn d_X_store_0 rfl ?_
  have h12 := hw.1
  refine am_cpsS [.int ln] [] d_X_store_1 cS_X_40 rfl rfl rfl (Nat.le_of_ble_eq_true rfl) (Nat.le_of_ble_eq_true rfl) (c_laneP (ln := ln) ⟨by omega, by omega⟩ (fun hno => ?_) (fun hln => ?_))
  · rw [q_store, if_neg (fun h => hno h.1)]
    exact sv_O.thr0 hC (by decide)
  · skip
    show am_W g (d + 3) mm_X_store (4, [some (.ref g.2.2.1), some (.int ln), some (.int n), none, none], []) S _
    refine am_iloadn d_X_store_4 rfl ?_
    refine am_iflt (tgt := 15) d_X_store_5 (by decide) (fun hc => ?_) (fun hc => ?_)
    · rw [q_store, if_neg (fun h => Int32.not_lt.mpr h.2.1 hc)]
      exact am_thr d_X_store_15 d_X_store_18 d_X_store_19 d_X_store_21 d_X_store_24 tw_X_44_46_48 rfl (Nat.le_of_ble_eq_true rfl) (by omega) (by omega) (sv_O.thr0 hC (by decide))
    · refine am_iloadn d_X_store_8 rfl ?_
      refine am_sipush 300 d_X_store_9 (by decide) ?_
      refine am_icle (tgt := 25) d_X_store_12 (by decide) (fun hd => ?_) (fun hd => ?_)
      · rw [q_store, if_pos ⟨hln, Int32.not_lt.mp hc, hd⟩]
        obtain ⟨N, hN0, hnN⟩ := nI_of hc
        rw [hnN] at hd ⊢
        have hN : N ≤ 300 := (nI_leI (b := 300) hN0 (by decide)).mp hd
        rw [nI_clamp hN0]
        refine am_aloadn d_X_store_25 rfl ?_
        refine am_cpsV [] [] d_X_store_26 cV_X_51 rfl hx rfl rfl (Nat.le_of_ble_eq_true rfl) (Nat.le_of_ble_eq_true rfl) (c_roomP hC ⟨by omega, by omega⟩ (fun hno => ?_) (fun hr12 hr80 => ?_))
        · rw [if_neg hno]
          exact sv_O.thr0 hC (by decide)
        · show am_W g (d + 3) mm_X_store (29, [some (.ref g.2.2.1), some (.int ln), some (.int (nI N)), none, none], []) S _
          rw [if_pos ⟨hr12, hr80⟩]
          have hf0 : ∀ q, q < S.2.1 → S.1 q = S.1 q := fun _ _ => rfl
          obtain ⟨a_1, ea_1⟩ : ∃ z : Nat, z = S.2.1 := ⟨_, rfl⟩
          refine am_new d_X_store_29 nw_X_9 (by omega) (by simp only [List.length]; omega) ?_
          change am_W _ _ _ (_, _, .ref S.2.1 :: _) (am_up S.1 S.2.1 (.inr (0, [.int 0, .int 0, .null, .int 0])), S.2.1 + 1, S.2.2 + 4) _
          rw [← ea_1]
          obtain ⟨S_2, eS_2⟩ : ∃ z : am_S, z = (am_up S.1 a_1 (.inr (0, [.int 0, .int 0, .null, .int 0])), a_1 + 1, S.2.2 + 4) := ⟨_, rfl⟩
          rw [← eS_2]
          have h_3 : S_2.1 g.2.2.1 = some (.inr (2, [.ref (g.2.2.1 + 1), .ref (g.2.2.1 + 2), .int (nI T.ns), .int (nI T.nv), .ref (g.2.2.1 + 3), .ref (g.2.2.1 + 4), .ref (g.2.2.1 + 5)])) := by rw [eS_2]; exact (am_up_n (by omega)).trans hx
          have hf_4 : ∀ q, q < S.2.1 → S_2.1 q = S.1 q := by rw [eS_2]; exact fun q hq => (am_up_n (by omega)).trans (hf0 q hq)
          have h_5 : S_2.1 a_1 = some (.inr (0, [.int 0, .int 0, .null, .int 0])) := by rw [eS_2]; exact am_up_s
          have hna_1 : S_2.2.1 = a_1 + 1 := by rw [eS_2]
          have hza_1 : S_2.2.2 = S.2.2 + 4 := by rw [eS_2]
          refine am_dup d_X_store_32 rfl ?_
          refine am_aloadn d_X_store_33 rfl ?_
          refine am_get d_X_store_34 fl_X_33 h_3 rfl ?_
          refine am_iloadn d_X_store_37 rfl ?_
          refine am_iloadn d_X_store_38 rfl ?_
          refine am_cpsI [.int (nI T.ns), .int ln, .int (nI N)] [.ref a_1] d_X_store_39 cI_X_54 rfl rfl rfl (Nat.le_of_ble_eq_true rfl) (Nat.le_of_ble_eq_true rfl) (c_Sinit h_5 (by omega) (N := N) (num := nI T.ns) (ln := ln) (by omega) (by omega) (by omega) (fun Sa q1a q2a q3a q4a => ?_))
          rw [hna_1] at q1a q2a q3a q4a
          rw [hza_1] at q3a
          have hna : Sa.2.1 = a_1 + 2 := by rw [q3a]
          have hza : Sa.2.2 = S.2.2 + 4 + N := by rw [q3a]
          have h_6 : Sa.1 g.2.2.1 = some (.inr (2, [.ref (g.2.2.1 + 1), .ref (g.2.2.1 + 2), .int (nI T.ns), .int (nI T.nv), .ref (g.2.2.1 + 3), .ref (g.2.2.1 + 4), .ref (g.2.2.1 + 5)])) := (q4a _ (by omega) (by omega)).trans h_3
          have hf_7 : ∀ q, q < S.2.1 → Sa.1 q = S.1 q := fun q hq => (q4a q (by omega) (by omega)).trans (hf_4 q hq)
          show am_W g (d + 3) mm_X_store (42, [some (.ref g.2.2.1), some (.int ln), some (.int (nI N)), none, none], [.ref a_1]) Sa _
          refine am_astoren (L' := [some (.ref g.2.2.1), some (.int ln), some (.int (nI N)), some (.ref a_1), none]) d_X_store_42 (by decide) rfl rfl ?_
          obtain ⟨a_8, ea_8⟩ : ∃ z : Nat, z = Sa.2.1 := ⟨_, rfl⟩
          refine am_new d_X_store_43 nw_X_15 (by omega) (by simp only [List.length]; omega) ?_
          change am_W _ _ _ (_, _, .ref Sa.2.1 :: _) (am_up Sa.1 Sa.2.1 (.inr (1, [.null, .int 0, .int 0, .int 0, .null, .null])), Sa.2.1 + 1, Sa.2.2 + 6) _
          rw [← ea_8]
          obtain ⟨S_9, eS_9⟩ : ∃ z : am_S, z = (am_up Sa.1 a_8 (.inr (1, [.null, .int 0, .int 0, .int 0, .null, .null])), a_8 + 1, Sa.2.2 + 6) := ⟨_, rfl⟩
          rw [← eS_9]
          have h_10 : S_9.1 g.2.2.1 = some (.inr (2, [.ref (g.2.2.1 + 1), .ref (g.2.2.1 + 2), .int (nI T.ns), .int (nI T.nv), .ref (g.2.2.1 + 3), .ref (g.2.2.1 + 4), .ref (g.2.2.1 + 5)])) := by rw [eS_9]; exact (am_up_n (by omega)).trans h_6
          have h_11 : S_9.1 a_1 = some (.inr (0, [.int (nI T.ns), .int ln, .ref (a_1 + 1), .int 0])) := by rw [eS_9]; exact (am_up_n (by omega)).trans q1a
          have h_12 : S_9.1 (a_1 + 1) = some (.inl (1, N, .inr (.inl (fun _ => 0)))) := by rw [eS_9]; exact (am_up_n (by omega)).trans q2a
          have hf_13 : ∀ q, q < S.2.1 → S_9.1 q = S.1 q := by rw [eS_9]; exact fun q hq => (am_up_n (by omega)).trans (hf_7 q hq)
          have h_14 : S_9.1 a_8 = some (.inr (1, [.null, .int 0, .int 0, .int 0, .null, .null])) := by rw [eS_9]; exact am_up_s
          have hna_8 : S_9.2.1 = a_8 + 1 := by rw [eS_9]
          have hza_8 : S_9.2.2 = Sa.2.2 + 6 := by rw [eS_9]
          refine am_dup d_X_store_46 rfl ?_
          refine am_aloadn d_X_store_47 rfl ?_
          refine am_iconst 0 d_X_store_48 (by decide) ?_
          have hzwb := hza_8
          refine am_cpsI [.ref a_1, .int 0] [.ref a_8] d_X_store_49 cI_X_57 rfl rfl rfl (Nat.le_of_ble_eq_true rfl) (Nat.le_of_ble_eq_true rfl) (c_Vinit h_14 (by omega) (by omega) (by omega) (fun Sb q1b q2b q3b q4b q5b => ?_))
          rw [hna_8] at q1b q2b q3b q4b q5b
          have hnb : Sb.2.1 = a_8 + 3 := by rw [q4b]
          have hzb : Sb.2.2 = S_9.2.2 + 8 := by rw [q4b]
          have h_15 : Sb.1 g.2.2.1 = some (.inr (2, [.ref (g.2.2.1 + 1), .ref (g.2.2.1 + 2), .int (nI T.ns), .int (nI T.nv), .ref (g.2.2.1 + 3), .ref (g.2.2.1 + 4), .ref (g.2.2.1 + 5)])) := (q5b _ (by omega) (by omega)).trans h_10
          have h_16 : Sb.1 a_1 = some (.inr (0, [.int (nI T.ns), .int ln, .ref (a_1 + 1), .int 0])) := (q5b _ (by omega) (by omega)).trans h_11
          have h_17 : Sb.1 (a_1 + 1) = some (.inl (1, N, .inr (.inl (fun _ => 0)))) := (q5b _ (by omega) (by omega)).trans h_12
          have hf_18 : ∀ q, q < S.2.1 → Sb.1 q = S.1 q := fun q hq => (q5b q (by omega) (by omega)).trans (hf_13 q hq)
          have hTb : sv_V Sb.1 a_8 a_1 0 0 0 (a_8 + 1) (a_8 + 2) (fun _ => 0) (fun _ => 0) := ⟨q1b, q2b, q3b, by omega, by omega⟩
          have hTb1 := hTb.1
          have hTb2 := hTb.2.1
          have hTb3 := hTb.2.2.1
          show am_W g (d + 3) mm_X_store (52, [some (.ref g.2.2.1), some (.int ln), some (.int (nI N)), some (.ref a_1), none], [.ref a_8]) Sb _
          refine am_astore (L' := [some (.ref g.2.2.1), some (.int ln), some (.int (nI N)), some (.ref a_1), some (.ref a_8)]) d_X_store_52 (by decide) rfl rfl ?_
          refine am_aload d_X_store_54 rfl ?_
          refine am_iconst 0 d_X_store_56 (by decide) ?_
          refine am_iloadn d_X_store_57 rfl ?_
          refine am_iconst 1 d_X_store_58 (by decide) ?_
          show am_W _ _ _ (_, _, [_, _, .int (nI 0), _]) _ _
          refine am_cpsV [.int (nI 0), .int (nI N), .int 1] [] d_X_store_59 cV_X_60 rfl hTb1 rfl rfl (Nat.le_of_ble_eq_true rfl) (Nat.le_of_ble_eq_true rfl) (c_insert hTb (j := 0) (nI N) 1 (by decide) (Nat.le_refl 0) (fun Sc fec fsc hTc hfc hIc => ?_))
          have hnc := congrArg Prod.fst hfc.1
          have hzc := congrArg Prod.snd hfc.1
          have h_19 : Sc.1 g.2.2.1 = some (.inr (2, [.ref (g.2.2.1 + 1), .ref (g.2.2.1 + 2), .int (nI T.ns), .int (nI T.nv), .ref (g.2.2.1 + 3), .ref (g.2.2.1 + 4), .ref (g.2.2.1 + 5)])) := (hfc.2 _ (by omega) (by omega) (by omega)).trans h_15
          have h_20 : Sc.1 a_1 = some (.inr (0, [.int (nI T.ns), .int ln, .ref (a_1 + 1), .int 0])) := (hfc.2 _ (by omega) (by omega) (by omega)).trans h_16
          have h_21 : Sc.1 (a_1 + 1) = some (.inl (1, N, .inr (.inl (fun _ => 0)))) := (hfc.2 _ (by omega) (by omega) (by omega)).trans h_17
          have hf_22 : ∀ q, q < S.2.1 → Sc.1 q = S.1 q := fun q hq => (hfc.2 q (by omega) (by omega) (by omega)).trans (hf_18 q hq)
          show am_W g (d + 3) mm_X_store (62, [some (.ref g.2.2.1), some (.int ln), some (.int (nI N)), some (.ref a_1), some (.ref a_8)], []) Sc _
          refine am_aloadn d_X_store_62 rfl ?_
          refine am_aloadn d_X_store_63 rfl ?_
          have hCc : sv_C g lo Sc T as av := hC.up (fun q hq => hf_22 q (by omega)) (by omega)
          refine am_cpsV [.ref a_1] [] d_X_store_64 cV_X_63 rfl h_19 rfl rfl (Nat.le_of_ble_eq_true rfl) (Nat.le_of_ble_eq_true rfl) (c_keepS hCc hr12 (sz := N) (ln := ln) (f := fun _ => 0) hN ⟨h_20, h_21⟩ (by omega) (by omega) (fun Sd hCd hzd hfd => ?_))
          have hn_d := congrArg Prod.fst hzd
          have hz_d := congrArg Prod.snd hzd
          show am_W g (d + 3) mm_X_store (67, [some (.ref g.2.2.1), some (.int ln), some (.int (nI N)), some (.ref a_1), some (.ref a_8)], []) Sd _
          obtain ⟨qsd, qvd, fpd, fnd, fmd, ⟨hxd, -, -, -, -, -⟩, -, -, -, -, -, -, -⟩ := id hCd
          refine am_aloadn d_X_store_67 rfl ?_
          refine am_aload d_X_store_68 rfl ?_
          have hVn : sv_V Sd.1 a_8 (if T.ns = T.ns then a_1 else as T.ns) 0 1 0 (a_8 + 1) (a_8 + 2) fec fsc := by rw [if_pos rfl]; exact hTc.of (hfd _ (by omega) (by omega)) (hfd _ (by omega) (by omega)) (hfd _ (by omega) (by omega))
          refine am_cpsV [.ref a_8] [] d_X_store_70 cV_X_67 rfl hxd rfl rfl (Nat.le_of_ble_eq_true rfl) (Nat.le_of_ble_eq_true rfl) (am_mono (fun o S9 h9 => am_tailQ d_X_store_73 rfl h9) (c_keepQ (S0 := S) (a := (T.ns, 0, 1, fun _ => N, fun _ => 1)) hCd hVn (fun k hk => ?_) (fun k hk => ?_) (fun k hk => ?_) (show T.ns < T.ns + 1 by omega) (fun _ i hi => ?_) (by omega) (by omega) ⟨by omega, by omega⟩ ⟨fun q h1 h2 => (hfd q (by omega) (by omega)).trans (hf_22 q (by omega)), by omega, by omega, by omega, by omega⟩))
          · have hk : k < 1 := hk
            obtain rfl : k = 0 := by omega
            rw [(hIc 0 (by omega)).1]
            simp [sv_ins]
          · have hk : k < 1 := hk
            obtain rfl : k = 0 := by omega
            rw [(hIc 0 (by omega)).2]
            simp [sv_ins]
          · show N < 2 ^ 31
            omega
          · have hi : i < 1 * N := hi
            show vp_in (0 + (nI (i % N) * 1 + 0)) (if T.ns = T.ns then N else T.sz T.ns)
            rw [if_pos rfl, Nat.mod_eq_of_lt (by omega), Int32.mul_one, Int32.add_zero, Int32.zero_add]
            exact vp_in_nI (by omega) (by omega)
      · rw [q_store, if_neg (fun h => hd h.2.2)]
        exact am_thr d_X_store_15 d_X_store_18 d_X_store_19 d_X_store_21 d_X_store_24 tw_X_44_46_48 rfl (Nat.le_of_ble_eq_true rfl) (by omega) (by omega) (sv_O.thr0 hC (by decide))
set_option maxHeartbeats 4000000 in
set_option maxRecDepth 100000 in
/-- guessSteps -/
theorem c_guessU {g : am_G} {d : Nat} {S : am_S} {x B1 B2 B3 B4 B5 : Nat} {ns nv : Int32} (hx0 : S.1 x = some (.inr (2, [.ref B1, .ref B2, .int ns, .int nv, .ref B3, .ref B4, .ref B5]))) {Fp G : Nat → Int32} (hp0 : S.1 B3 = some (.inl (0, 3000, .inl Fp))) {N : Nat} (hG : ∀ t, t < N → Fp t = G t) {v st : Nat} {sa : Int32} {n : Nat} {ex sp : Nat} {fe fs : Nat → Int32} (hV : sv_V S.1 v st sa n (nI N) ex sp fe fs) (hB2 : B3 ≠ ex) (hB3 : B3 ≠ sp) (F : Nat → Nat) (hF : ∀ k, k < n → fe k = nI (F k)) (hO : sv_ok F n) (hN : sv_pr F n = N) (hN3 : N ≤ 3000) {P : am_O → am_S → Prop} (hP : ∀ (S1 : am_S) (fs1 : Nat → Int32), sv_V S1.1 v st sa n (nI N) ex sp fe fs1 → sv_fr S S1 v ex sp → (N = 0 → ∀ i, i < n → fs1 i = fs i) → (0 < N → ∀ i, i < n → fs1 i = if F i < 2 then fs i else G (sv_dp F n (n - 1 - i)) - G 0) → P (.inl none) S1) : am_W g d mm_X_guessSteps (0, am_ent [.ref x, .ref v] 4, []) S (P) := by
  exact c_guess hx0 hp0 hG hV hB2 hB3 F hF hO hN hN3 (fun h => hP S fs hV sv_fr.rf (fun _ _ _ => rfl) (fun q => absurd h (by omega))) (fun h S1 fs1 h1 h2 h3 => hP S1 fs1 h1 h2 (fun q => absurd q (by omega)) (fun _ => h3))
set_option maxHeartbeats 4000000 in
set_option maxRecDepth 100000 in
/-- X_shape -/
theorem x_shape {g : am_G} {d : Nat} {S : am_S} {lo : Nat} {T : sv_T} {as av : Nat → Nat} (hC : sv_C g lo S T as av) (hr : sv_R g S 16 700) {i x y z : Int32} : am_W g (d + 3) mm_X_shape (0, am_ent [.ref g.2.2.1, .int i, .int x, .int y, .int z] 7, []) S (sv_O g S (q_shape T i x y z)) := by
  obtain ⟨qs, qv, fp, fn, fm, ⟨hx, hq1, hq2, h3, h4, h5⟩, hs, hv, i1, i2, hB, hlo, hw⟩ := id hC
  have h80 := hw.2.1
  obtain ⟨hr1, hr2⟩ := hr
  show am_W g (d + 3) mm_X_shape (0, [some (.ref g.2.2.1), some (.int i), some (.int x), some (.int y), some (.int z), none, none], []) S _
  refine am_aloadn d_X_shape_0 rfl ?_
  refine am_iloadn d_X_shape_1 rfl ?_
  refine am_cpsV [.int i] [] d_X_shape_2 cV_X_71 rfl hx rfl rfl (Nat.le_of_ble_eq_true rfl) (Nat.le_of_ble_eq_true rfl) (c_viewP hC (i := i) (hr := ⟨by omega, by omega⟩) (fun hno => ?_) (fun j hj hi => ?_))
  · rw [q_shape, sv_qv_no hno]
    exact sv_O.thr0 hC (by decide)
  · skip
    show am_W g (d + 3) mm_X_shape (5, [some (.ref g.2.2.1), some (.int i), some (.int x), some (.int y), some (.int z), none, none], [.ref (av j)]) S _
    rw [hi, q_shape, sv_qv_j hj h80]
    show am_W g (d + 3) mm_X_shape (5, [some (.ref g.2.2.1), some (.int (nI j)), some (.int x), some (.int y), some (.int z), none, none], [.ref (av j)]) S _
    obtain ⟨b1, b2, b3, fe, fs, hV, hE, hS⟩ := hv j hj
    obtain ⟨w1, w2, w3, w4, w5, w6, w7⟩ := hw.2.2.2 j hj
    obtain ⟨s1, s2, s3, s4, s5⟩ := hs (T.vw j).st w1
    have hv1 := hV.1
    refine am_astore (L' := [some (.ref g.2.2.1), some (.int (nI j)), some (.int x), some (.int y), some (.int z), some (.ref (av j)), none]) d_X_shape_5 (by decide) rfl rfl ?_
    refine am_iloadn d_X_shape_7 rfl ?_
    refine am_iconst (-1) d_X_shape_8 (by decide) ?_
    refine am_iclt (tgt := 23) d_X_shape_9 (by decide) (fun hc1 => ?_) (fun hc1 => ?_)
    · rw [if_pos (Or.inl hc1)]
      exact am_thr d_X_shape_23 d_X_shape_26 d_X_shape_27 d_X_shape_29 d_X_shape_32 tw_X_44_127_48 rfl (Nat.le_of_ble_eq_true rfl) (by omega) (by omega) (sv_O.thr0 hC (by decide))
    · refine am_iloadn d_X_shape_12 rfl ?_
      refine am_iconst (-1) d_X_shape_13 (by decide) ?_
      refine am_iclt (tgt := 23) d_X_shape_14 (by decide) (fun hc2 => ?_) (fun hc2 => ?_)
      · rw [if_pos (Or.inr (Or.inl hc2))]
        exact am_thr d_X_shape_23 d_X_shape_26 d_X_shape_27 d_X_shape_29 d_X_shape_32 tw_X_44_127_48 rfl (Nat.le_of_ble_eq_true rfl) (by omega) (by omega) (sv_O.thr0 hC (by decide))
      · refine am_iload d_X_shape_17 rfl ?_
        refine am_iconst (-1) d_X_shape_19 (by decide) ?_
        refine am_icge (tgt := 33) d_X_shape_20 (by decide) (fun hc3 => ?_) (fun hc3 => ?_)
        · rw [if_neg (fun q => q.elim hc1 (fun q => q.elim hc2 (fun q => Int32.not_lt.mpr hc3 q)))]
          have hf0 : ∀ q, q < S.2.1 → S.1 q = S.1 q := fun _ _ => rfl
          obtain ⟨a_1, ea_1⟩ : ∃ z : Nat, z = S.2.1 := ⟨_, rfl⟩
          refine am_new d_X_shape_33 nw_X_15 (by omega) (by simp only [List.length]; omega) ?_
          change am_W _ _ _ (_, _, .ref S.2.1 :: _) (am_up S.1 S.2.1 (.inr (1, [.null, .int 0, .int 0, .int 0, .null, .null])), S.2.1 + 1, S.2.2 + 6) _
          rw [← ea_1]
          obtain ⟨S_2, eS_2⟩ : ∃ z : am_S, z = (am_up S.1 a_1 (.inr (1, [.null, .int 0, .int 0, .int 0, .null, .null])), a_1 + 1, S.2.2 + 6) := ⟨_, rfl⟩
          rw [← eS_2]
          have h_3 : S_2.1 g.2.2.1 = some (.inr (2, [.ref (g.2.2.1 + 1), .ref (g.2.2.1 + 2), .int (nI T.ns), .int (nI T.nv), .ref (g.2.2.1 + 3), .ref (g.2.2.1 + 4), .ref (g.2.2.1 + 5)])) := by rw [eS_2]; exact (am_up_n (by omega)).trans hx
          have h_4 : S_2.1 (av j) = some (.inr (1, [.ref (as (T.vw j).st), .int ((T.vw j).sa), .int (nI (T.vw j).ax), .int (nI (T.vw j).it), .ref (av j + 1), .ref (av j + 2)])) := by rw [eS_2]; exact (am_up_n (by omega)).trans hv1
          have h_5 : S_2.1 (as (T.vw j).st) = some (.inr (0, [.int (nI (T.vw j).st), .int (T.ln (T.vw j).st), .ref (as (T.vw j).st + 1), .int (nI (sv_vc T.vw (T.vw j).st T.nv))])) := by rw [eS_2]; exact (am_up_n (by omega)).trans s4
          have hf_6 : ∀ q, q < S.2.1 → S_2.1 q = S.1 q := by rw [eS_2]; exact fun q hq => (am_up_n (by omega)).trans (hf0 q hq)
          have h_7 : S_2.1 a_1 = some (.inr (1, [.null, .int 0, .int 0, .int 0, .null, .null])) := by rw [eS_2]; exact am_up_s
          have hna_1 : S_2.2.1 = a_1 + 1 := by rw [eS_2]
          have hza_1 : S_2.2.2 = S.2.2 + 6 := by rw [eS_2]
          refine am_dup d_X_shape_36 rfl ?_
          refine am_aload d_X_shape_37 rfl ?_
          refine am_get d_X_shape_39 fl_X_129 h_4 rfl ?_
          refine am_aload d_X_shape_42 rfl ?_
          refine am_get d_X_shape_44 fl_X_90 h_4 rfl ?_
          have hzwa := hza_1
          refine am_cpsI [.ref (as (T.vw j).st), .int ((T.vw j).sa)] [.ref a_1] d_X_shape_47 cI_X_57 rfl rfl rfl (Nat.le_of_ble_eq_true rfl) (Nat.le_of_ble_eq_true rfl) (c_Vinit h_7 (by omega) (by omega) (by omega) (fun Sa q1a q2a q3a q4a q5a => ?_))
          rw [hna_1] at q1a q2a q3a q4a q5a
          have hna : Sa.2.1 = a_1 + 3 := by rw [q4a]
          have hza : Sa.2.2 = S_2.2.2 + 8 := by rw [q4a]
          have h_8 : Sa.1 g.2.2.1 = some (.inr (2, [.ref (g.2.2.1 + 1), .ref (g.2.2.1 + 2), .int (nI T.ns), .int (nI T.nv), .ref (g.2.2.1 + 3), .ref (g.2.2.1 + 4), .ref (g.2.2.1 + 5)])) := (q5a _ (by omega) (by omega)).trans h_3
          have h_9 : Sa.1 (av j) = some (.inr (1, [.ref (as (T.vw j).st), .int ((T.vw j).sa), .int (nI (T.vw j).ax), .int (nI (T.vw j).it), .ref (av j + 1), .ref (av j + 2)])) := (q5a _ (by omega) (by omega)).trans h_4
          have h_10 : Sa.1 (as (T.vw j).st) = some (.inr (0, [.int (nI (T.vw j).st), .int (T.ln (T.vw j).st), .ref (as (T.vw j).st + 1), .int (nI (sv_vc T.vw (T.vw j).st T.nv))])) := (q5a _ (by omega) (by omega)).trans h_5
          have hf_11 : ∀ q, q < S.2.1 → Sa.1 q = S.1 q := fun q hq => (q5a q (by omega) (by omega)).trans (hf_6 q hq)
          have hTa : sv_V Sa.1 a_1 (as (T.vw j).st) ((T.vw j).sa) 0 0 (a_1 + 1) (a_1 + 2) (fun _ => 0) (fun _ => 0) := ⟨q1a, q2a, q3a, by omega, by omega⟩
          have hTa1 := hTa.1
          have hTa2 := hTa.2.1
          have hTa3 := hTa.2.2.1
          show am_W g (d + 3) mm_X_shape (50, [some (.ref g.2.2.1), some (.int (nI j)), some (.int x), some (.int y), some (.int z), some (.ref (av j)), none], [.ref a_1]) Sa _
          refine am_astore (L' := [some (.ref g.2.2.1), some (.int (nI j)), some (.int x), some (.int y), some (.int z), some (.ref (av j)), some (.ref a_1)]) d_X_shape_50 (by decide) rfl rfl ?_
          refine am_aload d_X_shape_52 rfl ?_
          refine am_iloadn d_X_shape_54 rfl ?_
          have hIa : ∀ i, i < 0 → (fun _ : Nat => (0 : Int32)) i = nI ((fun _ : Nat => 0) i) ∧ (fun _ : Nat => (0 : Int32)) i = 0 := fun i hi => absurd hi (Nat.not_lt_zero i)
          have hKa : sv_ok (fun _ : Nat => 0) 0 := fun k hk => absurd hk (Nat.not_lt_zero k)
          refine am_cpsV [.int x] [] d_X_shape_55 cV_X_133 rfl hTa1 rfl rfl (Nat.le_of_ble_eq_true rfl) (Nat.le_of_ble_eq_true rfl) (c_addU hTa (E := (fun _ => 0)) (x := x) hc1 (by omega) hIa (fun Sb feb fsb hTb hfb hIb => ?_))
          have hnb := congrArg Prod.fst hfb.1
          have hzb := congrArg Prod.snd hfb.1
          have h_12 : Sb.1 g.2.2.1 = some (.inr (2, [.ref (g.2.2.1 + 1), .ref (g.2.2.1 + 2), .int (nI T.ns), .int (nI T.nv), .ref (g.2.2.1 + 3), .ref (g.2.2.1 + 4), .ref (g.2.2.1 + 5)])) := (hfb.2 _ (by omega) (by omega) (by omega)).trans h_8
          have h_13 : Sb.1 (av j) = some (.inr (1, [.ref (as (T.vw j).st), .int ((T.vw j).sa), .int (nI (T.vw j).ax), .int (nI (T.vw j).it), .ref (av j + 1), .ref (av j + 2)])) := (hfb.2 _ (by omega) (by omega) (by omega)).trans h_9
          have h_14 : Sb.1 (as (T.vw j).st) = some (.inr (0, [.int (nI (T.vw j).st), .int (T.ln (T.vw j).st), .ref (as (T.vw j).st + 1), .int (nI (sv_vc T.vw (T.vw j).st T.nv))])) := (hfb.2 _ (by omega) (by omega) (by omega)).trans h_10
          have hf_15 : ∀ q, q < S.2.1 → Sb.1 q = S.1 q := fun q hq => (hfb.2 q (by omega) (by omega) (by omega)).trans (hf_11 q hq)
          show am_W g (d + 3) mm_X_shape (58, [some (.ref g.2.2.1), some (.int (nI j)), some (.int x), some (.int y), some (.int z), some (.ref (av j)), some (.ref a_1)], []) Sb _
          obtain ⟨p1, hp1⟩ : ∃ pp : Nat × (Nat → Nat), pp = sv_ad (0, fun _ => 0) x := ⟨_, rfl⟩
          have hle1 := sv_ad_le (p := (0, fun _ => 0)) (x := x)
          have hKb := sv_ad_ok (p := (0, fun _ => 0)) hc1 hKa
          rw [← hp1] at hTb hIb hle1 hKb
          have hle1 : p1.1 ≤ 1 := by exact hle1
          have hTb1 := hTb.1
          have hTb2 := hTb.2.1
          have hTb3 := hTb.2.2.1
          refine am_aload d_X_shape_58 rfl ?_
          refine am_iloadn d_X_shape_60 rfl ?_
          refine am_cpsV [.int y] [] d_X_shape_61 cV_X_133 rfl hTb1 rfl rfl (Nat.le_of_ble_eq_true rfl) (Nat.le_of_ble_eq_true rfl) (c_addU hTb (E := p1.2) (x := y) hc2 (by omega) hIb (fun Sc fec fsc hTc hfc hIc => ?_))
          have hnc := congrArg Prod.fst hfc.1
          have hzc := congrArg Prod.snd hfc.1
          have h_16 : Sc.1 g.2.2.1 = some (.inr (2, [.ref (g.2.2.1 + 1), .ref (g.2.2.1 + 2), .int (nI T.ns), .int (nI T.nv), .ref (g.2.2.1 + 3), .ref (g.2.2.1 + 4), .ref (g.2.2.1 + 5)])) := (hfc.2 _ (by omega) (by omega) (by omega)).trans h_12
          have h_17 : Sc.1 (av j) = some (.inr (1, [.ref (as (T.vw j).st), .int ((T.vw j).sa), .int (nI (T.vw j).ax), .int (nI (T.vw j).it), .ref (av j + 1), .ref (av j + 2)])) := (hfc.2 _ (by omega) (by omega) (by omega)).trans h_13
          have h_18 : Sc.1 (as (T.vw j).st) = some (.inr (0, [.int (nI (T.vw j).st), .int (T.ln (T.vw j).st), .ref (as (T.vw j).st + 1), .int (nI (sv_vc T.vw (T.vw j).st T.nv))])) := (hfc.2 _ (by omega) (by omega) (by omega)).trans h_14
          have hf_19 : ∀ q, q < S.2.1 → Sc.1 q = S.1 q := fun q hq => (hfc.2 q (by omega) (by omega) (by omega)).trans (hf_15 q hq)
          show am_W g (d + 3) mm_X_shape (64, [some (.ref g.2.2.1), some (.int (nI j)), some (.int x), some (.int y), some (.int z), some (.ref (av j)), some (.ref a_1)], []) Sc _
          obtain ⟨p2, hp2⟩ : ∃ pp : Nat × (Nat → Nat), pp = sv_ad (p1.1, p1.2) y := ⟨_, rfl⟩
          have hle2 := sv_ad_le (p := (p1.1, p1.2)) (x := y)
          have hKc := sv_ad_ok (p := (p1.1, p1.2)) hc2 hKb
          rw [← hp2] at hTc hIc hle2 hKc
          have hle2 : p2.1 ≤ 2 := by have : p2.1 ≤ p1.1 + 1 := hle2; omega
          have hTc1 := hTc.1
          have hTc2 := hTc.2.1
          have hTc3 := hTc.2.2.1
          refine am_aload d_X_shape_64 rfl ?_
          refine am_iload d_X_shape_66 rfl ?_
          refine am_cpsV [.int z] [] d_X_shape_68 cV_X_133 rfl hTc1 rfl rfl (Nat.le_of_ble_eq_true rfl) (Nat.le_of_ble_eq_true rfl) (c_addU hTc (E := p2.2) (x := z) (Int32.not_lt.mpr hc3) (by omega) hIc (fun Sd fed fsd hTd hfd hId => ?_))
          have hnd := congrArg Prod.fst hfd.1
          have hzd := congrArg Prod.snd hfd.1
          have h_20 : Sd.1 g.2.2.1 = some (.inr (2, [.ref (g.2.2.1 + 1), .ref (g.2.2.1 + 2), .int (nI T.ns), .int (nI T.nv), .ref (g.2.2.1 + 3), .ref (g.2.2.1 + 4), .ref (g.2.2.1 + 5)])) := (hfd.2 _ (by omega) (by omega) (by omega)).trans h_16
          have h_21 : Sd.1 (av j) = some (.inr (1, [.ref (as (T.vw j).st), .int ((T.vw j).sa), .int (nI (T.vw j).ax), .int (nI (T.vw j).it), .ref (av j + 1), .ref (av j + 2)])) := (hfd.2 _ (by omega) (by omega) (by omega)).trans h_17
          have h_22 : Sd.1 (as (T.vw j).st) = some (.inr (0, [.int (nI (T.vw j).st), .int (T.ln (T.vw j).st), .ref (as (T.vw j).st + 1), .int (nI (sv_vc T.vw (T.vw j).st T.nv))])) := (hfd.2 _ (by omega) (by omega) (by omega)).trans h_18
          have hf_23 : ∀ q, q < S.2.1 → Sd.1 q = S.1 q := fun q hq => (hfd.2 q (by omega) (by omega) (by omega)).trans (hf_19 q hq)
          show am_W g (d + 3) mm_X_shape (71, [some (.ref g.2.2.1), some (.int (nI j)), some (.int x), some (.int y), some (.int z), some (.ref (av j)), some (.ref a_1)], []) Sd _
          obtain ⟨p3, hp3⟩ : ∃ pp : Nat × (Nat → Nat), pp = sv_ad (p2.1, p2.2) z := ⟨_, rfl⟩
          have hle3 := sv_ad_le (p := (p2.1, p2.2)) (x := z)
          have hKd := sv_ad_ok (p := (p2.1, p2.2)) (Int32.not_lt.mpr hc3) hKc
          rw [← hp3] at hTd hId hle3 hKd
          have hle3 : p3.1 ≤ 3 := by have : p3.1 ≤ p2.1 + 1 := hle3; omega
          have hTd1 := hTd.1
          have hTd2 := hTd.2.1
          have hTd3 := hTd.2.2.1
          refine am_aload d_X_shape_71 rfl ?_
          have he3 : sv_e3 x y z = p3 := by rw [hp3, hp2, hp1]; rfl
          rw [he3]
          refine am_cpsV [] [] d_X_shape_73 cV_X_136 rfl hTd1 rfl rfl (Nat.le_of_ble_eq_true rfl) (Nat.le_of_ble_eq_true rfl) (c_settle hTd p3.2 (fun k hk => (hId k hk).1) hKd (fun Se fse hTe hfe hIe => ?_))
          have hne := congrArg Prod.fst hfe.1
          have hze := congrArg Prod.snd hfe.1
          have h_24 : Se.1 g.2.2.1 = some (.inr (2, [.ref (g.2.2.1 + 1), .ref (g.2.2.1 + 2), .int (nI T.ns), .int (nI T.nv), .ref (g.2.2.1 + 3), .ref (g.2.2.1 + 4), .ref (g.2.2.1 + 5)])) := (hfe.2 _ (by omega) (by omega) (by omega)).trans h_20
          have h_25 : Se.1 (av j) = some (.inr (1, [.ref (as (T.vw j).st), .int ((T.vw j).sa), .int (nI (T.vw j).ax), .int (nI (T.vw j).it), .ref (av j + 1), .ref (av j + 2)])) := (hfe.2 _ (by omega) (by omega) (by omega)).trans h_21
          have h_26 : Se.1 (as (T.vw j).st) = some (.inr (0, [.int (nI (T.vw j).st), .int (T.ln (T.vw j).st), .ref (as (T.vw j).st + 1), .int (nI (sv_vc T.vw (T.vw j).st T.nv))])) := (hfe.2 _ (by omega) (by omega) (by omega)).trans h_22
          have hf_27 : ∀ q, q < S.2.1 → Se.1 q = S.1 q := fun q hq => (hfe.2 q (by omega) (by omega) (by omega)).trans (hf_23 q hq)
          show am_W g (d + 3) mm_X_shape (76, [some (.ref g.2.2.1), some (.int (nI j)), some (.int x), some (.int y), some (.int z), some (.ref (av j)), some (.ref a_1)], []) Se _
          have hTe1 := hTe.1
          have hTe2 := hTe.2.1
          have hTe3 := hTe.2.2.1
          refine am_aload d_X_shape_76 rfl ?_
          refine am_get d_X_shape_78 fl_X_139 hTe1 rfl ?_
          refine am_aload d_X_shape_81 rfl ?_
          refine am_get d_X_shape_83 fl_X_139 h_25 rfl ?_
          refine am_iceq (tgt := 99) d_X_shape_86 (by decide) (fun hcm => ?_) (fun hcm => ?_)
          · have hmn : min (sv_pr p3.2 p3.1) 2147483647 = (T.vw j).it := (nI_eq (by omega) (by omega)).mp hcm
            have hpr : sv_pr p3.2 p3.1 = (T.vw j).it := by omega
            rw [if_neg (fun q => q hpr)]
            rw [hmn] at hTe hIe
            have hsa : (if (T.vw j).it = 0 then 0 else (T.vw j).sa) = (T.vw j).sa := by
              split
              · rename_i h; exact ((w5 h).1).symm
              · rfl
            rw [hsa] at hTe
            have hCe : sv_C g lo Se T as av := hC.up (fun q hq => hf_27 q (by omega)) (by omega)
            have hF0 : ∀ i, i < p3.1 → fse i = 0 := fun i hi => by rw [hIe i hi]; split; rfl; exact (hId i hi).2
            refine am_aloadn d_X_shape_99 rfl ?_
            refine am_aload d_X_shape_100 rfl ?_
            refine am_aload d_X_shape_102 rfl ?_
            refine am_cpsV [.ref (av j), .ref (av j)] [] d_X_shape_104 cV_X_144 rfl h_24 rfl rfl (Nat.le_of_ble_eq_true rfl) (Nat.le_of_ble_eq_true rfl) (c_layC hCe hj hj (Nat.le_refl _) (fun Sf Fp hCf hzf hff hpf hGf => ?_))
            have hnf := congrArg Prod.fst hzf
            have hzf2 := congrArg Prod.snd hzf
            have hTf := hTe.of (M' := Sf.1) (hff _ (by omega)) (hff _ (by omega)) (hff _ (by omega))
            have hfx : ∀ q, q < S.2.1 → q ≠ g.2.2.1 + 3 → Sf.1 q = S.1 q := fun q h1 h2 => (hff q h2).trans (hf_27 q h1)
            have h_28 : Sf.1 g.2.2.1 = some (.inr (2, [.ref (g.2.2.1 + 1), .ref (g.2.2.1 + 2), .int (nI T.ns), .int (nI T.nv), .ref (g.2.2.1 + 3), .ref (g.2.2.1 + 4), .ref (g.2.2.1 + 5)])) := (hff _ (by omega)).trans h_24
            show am_W g (d + 3) mm_X_shape (107, [some (.ref g.2.2.1), some (.int (nI j)), some (.int x), some (.int y), some (.int z), some (.ref (av j)), some (.ref a_1)], []) Sf _
            have hTf1 := hTf.1
            have hTf2 := hTf.2.1
            have hTf3 := hTf.2.2.1
            refine am_aloadn d_X_shape_107 rfl ?_
            refine am_aload d_X_shape_108 rfl ?_
            refine am_cpsV [.ref a_1] [] d_X_shape_110 cV_X_148 rfl h_28 rfl rfl (Nat.le_of_ble_eq_true rfl) (Nat.le_of_ble_eq_true rfl) (c_guessU h_28 hpf (G := (T.vw j).pl) (fun t ht => (hGf t ht).trans sv_sh_self) hTf (by omega) (by omega) p3.2 (fun k hk => (hId k hk).1) hKd hpr w4 (fun Sg fsg hTg hfg hIg0 hIg => ?_))
            have hng := congrArg Prod.fst hfg.1
            have hzg := congrArg Prod.snd hfg.1
            have h_29 : Sg.1 g.2.2.1 = some (.inr (2, [.ref (g.2.2.1 + 1), .ref (g.2.2.1 + 2), .int (nI T.ns), .int (nI T.nv), .ref (g.2.2.1 + 3), .ref (g.2.2.1 + 4), .ref (g.2.2.1 + 5)])) := (hfg.2 _ (by omega) (by omega) (by omega)).trans h_28
            show am_W g (d + 3) mm_X_shape (113, [some (.ref g.2.2.1), some (.int (nI j)), some (.int x), some (.int y), some (.int z), some (.ref (av j)), some (.ref a_1)], []) Sg _
            have hpg := (hfg.2 _ (by omega) (by omega) (by omega)).trans hpf
            have hTg1 := hTg.1
            have hTg2 := hTg.2.1
            have hTg3 := hTg.2.2.1
            have hgs : 0 < (T.vw j).it → ∀ k, k < p3.1 → fsg k = sv_gs (T.vw j) p3.1 p3.2 k := fun h k hk => by
              rw [hIg h k hk]; simp only [sv_gs]; split
              · exact hF0 k hk
              · rfl
            have hpl : ∀ t, t < (T.vw j).it → (T.vw j).sa + sv_pl p3.2 fsg p3.1 t = (T.vw j).sa + sv_pl p3.2 (sv_gs (T.vw j) p3.1 p3.2) p3.1 t := fun t ht => congrArg _ (sv_pl_congr (fun _ _ => rfl) (hgs (by omega)))
            refine am_aloadn d_X_shape_113 rfl ?_
            refine am_aload d_X_shape_114 rfl ?_
            refine am_cpsV [.ref a_1] [] d_X_shape_116 cV_X_152 rfl h_29 rfl rfl (Nat.le_of_ble_eq_true rfl) (Nat.le_of_ble_eq_true rfl) (c_lies h_29 hpg (G := (T.vw j).pl) (fun t ht => (hGf t ht).trans sv_sh_self) hTg p3.2 (fun k hk => (hId k hk).1) hKd hpr w4 (fun hli => ?_) (fun hli => ?_))
            · have hfz : ∀ q, q < S.2.1 → q ≠ g.2.2.1 + 3 → Sg.1 q = S.1 q := fun q h1 h2 => (hfg.2 q (by omega) (by omega) (by omega)).trans (hfx q h1 h2)
              have hCg : sv_C g lo Sg T as av := hCf.up (fun q hq => hfg.2 q (by omega) (by omega) (by omega)) (by omega)
              show am_W g (d + 3) mm_X_shape (119, [some (.ref g.2.2.1), some (.int (nI j)), some (.int x), some (.int y), some (.int z), some (.ref (av j)), some (.ref a_1)], [.int 1]) Sg _
              refine am_ifne (tgt := 132) d_X_shape_119 (by decide) (fun hb => ?_) (fun hb => ?_)
              · rw [sv_if_y (fun t ht => (hpl t ht).symm.trans (hli t ht))]
                refine am_aloadn d_X_shape_132 rfl ?_
                refine am_aload d_X_shape_133 rfl ?_
                by_cases h0 : (T.vw j).it = 0
                · rw [sv_kp_0 (sp2 := fun _ => 0) (hpr.trans h0)]
                  skip
                  refine am_cpsV [.ref a_1] [] d_X_shape_135 cV_X_67 rfl h_29 rfl rfl (Nat.le_of_ble_eq_true rfl) (Nat.le_of_ble_eq_true rfl) (am_mono (fun o S9 h9 => am_tailQ d_X_shape_138 rfl h9) (c_keepQ (S0 := S) (a := ((T.vw j).st, (T.vw j).sa, p3.1, p3.2, fun _ => 0)) hCg hTg (fun k hk => (hId k hk).1) (fun k hk => (hIg0 h0 k hk).trans (hF0 k hk)) hKd w1 (fun _ t ht => ?_) (by omega) (by omega) ⟨by omega, by omega⟩ ⟨fun q h1 h2 => hfz q (by omega) (by omega), by omega, by omega, by omega, by omega⟩))
                  exact absurd ht (by show ¬ t < sv_pr p3.2 p3.1; omega)
                · refine am_cpsV [.ref a_1] [] d_X_shape_135 cV_X_67 rfl h_29 rfl rfl (Nat.le_of_ble_eq_true rfl) (Nat.le_of_ble_eq_true rfl) (am_mono (fun o S9 h9 => am_tailQ d_X_shape_138 rfl h9) (c_keepQ (S0 := S) (a := ((T.vw j).st, (T.vw j).sa, p3.1, p3.2, sv_gs (T.vw j) p3.1 p3.2)) hCg hTg (fun k hk => (hId k hk).1) (fun k hk => hgs (by omega) k hk) hKd w1 (fun _ t ht => ?_) (by omega) (by omega) ⟨by omega, by omega⟩ ⟨fun q h1 h2 => hfz q (by omega) (by omega), by omega, by omega, by omega, by omega⟩))
                  have ht : t < (T.vw j).it := by rw [← hpr]; exact ht
                  show vp_in ((T.vw j).sa + sv_pl p3.2 (sv_gs (T.vw j) p3.1 p3.2) p3.1 t) (T.sz (T.vw j).st)
                  rw [← hpl t ht, hli t ht]
                  exact w7 t ht
              · exact absurd hb (by decide)
            · have hfz : ∀ q, q < S.2.1 → q ≠ g.2.2.1 + 3 → Sg.1 q = S.1 q := fun q h1 h2 => (hfg.2 q (by omega) (by omega) (by omega)).trans (hfx q h1 h2)
              have hCg : sv_C g lo Sg T as av := hCf.up (fun q hq => hfg.2 q (by omega) (by omega) (by omega)) (by omega)
              show am_W g (d + 3) mm_X_shape (119, [some (.ref g.2.2.1), some (.int (nI j)), some (.int x), some (.int y), some (.int z), some (.ref (av j)), some (.ref a_1)], [.int 0]) Sg _
              refine am_ifne (tgt := 132) d_X_shape_119 (by decide) (fun hb => ?_) (fun hb => ?_)
              · exact absurd rfl hb
              · rw [sv_if_n (fun q => hli (fun t ht => (hpl t ht).trans (q t ht)))]
                exact am_thr d_X_shape_122 d_X_shape_125 d_X_shape_126 d_X_shape_128 d_X_shape_131 tw_X_111_156_115 rfl (Nat.le_of_ble_eq_true rfl) (by omega) (by omega) (sv_O.thr hCg ⟨fun q h1 h2 => hfz q (by omega) (by omega), by omega, by omega, by omega, by omega⟩ (by decide))
          · have hne : ¬ sv_pr p3.2 p3.1 = (T.vw j).it := fun q => hcm (by rw [q, Nat.min_eq_left (by omega)])
            rw [if_pos hne]
            exact am_thr d_X_shape_89 d_X_shape_92 d_X_shape_93 d_X_shape_95 d_X_shape_98 tw_X_44_142_48 rfl (Nat.le_of_ble_eq_true rfl) (by omega) (by omega) (sv_O.thr (hC.up (fun q hq => hf_27 q (by omega)) (by omega)) ⟨fun q h1 h2 => hf_27 q (by omega), by omega, by omega, by omega, by omega⟩ (by decide))
        · rw [if_pos (Or.inr (Or.inr (Int32.not_le.mp hc3)))]
          exact am_thr d_X_shape_23 d_X_shape_26 d_X_shape_27 d_X_shape_29 d_X_shape_32 tw_X_44_127_48 rfl (Nat.le_of_ble_eq_true rfl) (by omega) (by omega) (sv_O.thr0 hC (by decide))
