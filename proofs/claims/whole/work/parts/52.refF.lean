/-! the reference: put, told, runs, same, shared -/
theorem q_put_no {T : sv_T} {v n : Int32} {y : Int64} (h : ¬ (sv_iv T v ∧ 0 ≤ n ∧ n < nI (T.va v).it)) : q_put T v n y = (4, .null, T) := by
  unfold q_put sv_qv
  split
  · rename_i h1
    exact if_neg (fun q => h ⟨h1, q⟩)
  · rfl
theorem q_put_6 {T : sv_T} {v n : Int32} {y : Int64} (h : sv_iv T v ∧ 0 ≤ n ∧ n < nI (T.va v).it) (hw : sv_wf T) (h2 : ¬ ((sv_iv T v ∧ 0 ≤ n ∧ n < nI (T.va v).it) ∧ ¬ (T.va v).fx)) : q_put T v n y = (6, .null, T) := by
  have hx : (T.va v).fx := Classical.byContradiction (fun q => h2 ⟨h, q⟩)
  unfold q_put sv_qv
  rw [if_pos h.1]
  show (if (0 ≤ n ∧ n < nI (T.va v).it) then sv_if (T.va v).fx _ _ else _) = _
  rw [if_pos h.2, sv_if_y hx]
theorem sv_w5 {w : Int32} (h : 0 ≤ w ∧ w < 7) (h0 : ¬ w = 0) (h1 : ¬ w = 1) (h2 : ¬ w = 2) (h3 : ¬ w = 3) (h4 : ¬ w = 4) (h6 : ¬ w = 6) : w = 5 := by
  obtain ⟨k, hk, rfl⟩ := nI_of (Int32.not_lt.mpr h.1)
  have := (nI_ltI (b := 7) hk (by decide)).mp h.2
  have e0 : ¬ k = 0 := fun q => h0 (by rw [q]; rfl)
  have e1 : ¬ k = 1 := fun q => h1 (by rw [q]; rfl)
  have e2 : ¬ k = 2 := fun q => h2 (by rw [q]; rfl)
  have e3 : ¬ k = 3 := fun q => h3 (by rw [q]; rfl)
  have e4 : ¬ k = 4 := fun q => h4 (by rw [q]; rfl)
  have e6 : ¬ k = 6 := fun q => h6 (by rw [q]; rfl)
  rw [show k = 5 by omega]
  rfl
theorem q_told_5 {T : sv_T} {v w : Int32} (h : sv_iv T v) (h2 : ¬ (0 ≤ w ∧ w < 7)) : q_told T v w = (5, .null, T) := by
  unfold q_told sv_qv
  rw [if_pos h]
  dsimp only
  rw [if_neg (fun q => h2 (by rw [q]; decide)), if_neg (fun q => h2 (by rw [q]; decide)), if_neg (fun q => h2 (by rw [q]; decide)), if_neg (fun q => h2 (by rw [q]; decide)), if_neg (fun q => h2 (by rw [q]; decide)), if_neg (fun q => h2 (by rw [q]; decide)), if_neg (fun q => h2 (by rw [q]; decide))]
set_option maxHeartbeats 4000000 in
set_option maxRecDepth 100000 in
/-- M_put -/
theorem e_put {g : am_G} {d : Nat} {S : am_S} {T : sv_T} {th : Int32} {na : Nat} {ne nw rd : Nat → Int64} {mt : Nat → Int32} (hM : sv_N g S.1 T th na ne nw rd mt) {v n : Int32} {y : Int64} : am_W g (d + 4) mm_M_put (0, am_ent [.ref (g.2.2.1 + 6), .int v, .int n, .long y] 8, []) S (sv_EL g S (q_put T v n y) (sv_cd 4 6 9)) := by
  obtain ⟨fl, fz, fN, fS, fa, fx, fe, fs, ⟨m0, m1, m2, m3, m4, m5, m6, m7, m8, m9, m10, m11, m12⟩, ⟨t1, t2, t3⟩, hw⟩ := id hM
  have h80 := hw.2.1
  have h12 := hw.1
  show am_W g (d + 4) mm_M_put (0, [some (.ref (g.2.2.1 + 6)), some (.int v), some (.int n), some (.long y), none, none, none, none], []) S _
  refine am_cut (F := (26, [some (.ref (g.2.2.1 + 6)), some (.int v), some (.int n), some (.long y), none, none, none, none], [.int (sv_if (sv_iv T v ∧ 0 ≤ n ∧ n < nI (T.va v).it) 1 0)])) ?_ (fun key => ?_)
  · skip
    refine am_istore (L' := [some (.ref (g.2.2.1 + 6)), some (.int v), some (.int n), some (.long y), none, some (.int (sv_if (sv_iv T v ∧ 0 ≤ n ∧ n < nI (T.va v).it) 1 0)), none, none]) d_M_put_26 (by decide) rfl rfl ?_
    refine am_aloadn d_M_put_28 rfl ?_
    refine am_iload d_M_put_29 rfl ?_
    refine am_cut (F := (49, [some (.ref (g.2.2.1 + 6)), some (.int v), some (.int n), some (.long y), none, some (.int (sv_if (sv_iv T v ∧ 0 ≤ n ∧ n < nI (T.va v).it) 1 0)), none, none], [.int (sv_if ((sv_iv T v ∧ 0 ≤ n ∧ n < nI (T.va v).it) ∧ ¬ (T.va v).fx) 1 0), .int (sv_if (sv_iv T v ∧ 0 ≤ n ∧ n < nI (T.va v).it) 1 0), .ref (g.2.2.1 + 6)])) ?_ (fun key => ?_)
    · skip
      refine am_cpsV [.int (sv_if (sv_iv T v ∧ 0 ≤ n ∧ n < nI (T.va v).it) 1 0), .int (sv_if ((sv_iv T v ∧ 0 ≤ n ∧ n < nI (T.va v).it) ∧ ¬ (T.va v).fx) 1 0)] [] d_M_put_49 cV_M_90 rfl m0 rfl rfl (Nat.le_of_ble_eq_true rfl) (Nat.le_of_ble_eq_true rfl) (m_goesOf hM (fun b1 S1 hN1 hf1 => ?_) (fun b1 b2 S1 hN1 hf1 => ?_) (fun b1 b2 S1 hN1 hf1 => ?_))
      · show am_W g (d + 4) mm_M_put (52, [some (.ref (g.2.2.1 + 6)), some (.int v), some (.int n), some (.long y), none, some (.int (sv_if (sv_iv T v ∧ 0 ≤ n ∧ n < nI (T.va v).it) 1 0)), none, none], [.int 0]) S1 _
        refine am_ifne (tgt := 57) d_M_put_52 (by decide) (fun hz => ?_) (fun hz => ?_)
        · exact absurd rfl hz
        · refine am_lconst 0 d_M_put_55 (by decide) ?_
          rw [q_put_no (sv_b0 b1)]
          exact am_lret d_M_put_56 rfl (sv_EL.no hN1 hf1 (by decide))
      · show am_W g (d + 4) mm_M_put (52, [some (.ref (g.2.2.1 + 6)), some (.int v), some (.int n), some (.long y), none, some (.int (sv_if (sv_iv T v ∧ 0 ≤ n ∧ n < nI (T.va v).it) 1 0)), none, none], [.int 0]) S1 _
        refine am_ifne (tgt := 57) d_M_put_52 (by decide) (fun hz => ?_) (fun hz => ?_)
        · exact absurd rfl hz
        · refine am_lconst 0 d_M_put_55 (by decide) ?_
          rw [q_put_6 (sv_b1 b1) hw (sv_b0 b2)]
          exact am_lret d_M_put_56 rfl (sv_EL.no hN1 hf1 (by decide))
      · skip
        show am_W g (d + 4) mm_M_put (52, [some (.ref (g.2.2.1 + 6)), some (.int v), some (.int n), some (.long y), none, some (.int (sv_if (sv_iv T v ∧ 0 ≤ n ∧ n < nI (T.va v).it) 1 0)), none, none], [.int 1]) S1 _
        refine am_ifne (tgt := 57) d_M_put_52 (by decide) (fun hz => ?_) (fun hz => ?_)
        · skip
          have hC := (sv_b1 b2).1
          have hX := (sv_b1 b2).2
          obtain ⟨j, hj, rfl⟩ := sv_iv_of hC.1 h80
          rw [sv_va_j hj h80] at hC hX
          obtain ⟨k, hk0, rfl⟩ := nI_of (Int32.not_lt.mpr hC.2.1)
          have hit := (hw.2.2.2 j hj).2.2.2.1
          have hk := (nI_ltI hk0 (by omega)).mp hC.2.2
          rw [q_put, sv_qv_j hj h80, if_pos hC.2, sv_if_n hX, nI_clamp hk0]
          obtain ⟨flb, fzb, fNb, fSb, fab, fxb, feb, fsb, ⟨m0b, m1b, m2b, m3b, m4b, m5b, m6b, m7b, m8b, m9b, m10b, m11b, m12b⟩, ⟨t1b, t2b, t3b⟩, hwb⟩ := id hN1
          refine am_aloadn d_M_put_57 rfl ?_
          refine am_iloadn d_M_put_58 rfl ?_
          refine am_iloadn d_M_put_59 rfl ?_
          refine am_cpsV [.int (nI j), .int (nI k)] [] d_M_put_60 cV_M_128 rfl m0b rfl rfl (Nat.le_of_ble_eq_true rfl) (Nat.le_of_ble_eq_true rfl) (m_item hN1 hj hk ?_)
          show am_W g (d + 4) mm_M_put (63, [some (.ref (g.2.2.1 + 6)), some (.int (nI j)), some (.int (nI k)), some (.long y), none, some (.int (sv_if (sv_iv T (nI j) ∧ 0 ≤ nI k ∧ nI k < nI (T.va (nI j)).it) 1 0)), none, none], [.long (T.at (T.vw j) k)]) S1 _
          refine am_lstore (L' := [some (.ref (g.2.2.1 + 6)), some (.int (nI j)), some (.int (nI k)), some (.long y), none, some (.int (sv_if (sv_iv T (nI j) ∧ 0 ≤ nI k ∧ nI k < nI (T.va (nI j)).it) 1 0)), some (.long (T.at (T.vw j) k)), none]) d_M_put_63 (by decide) rfl rfl ?_
          refine am_aloadn d_M_put_65 rfl ?_
          refine am_iloadn d_M_put_66 rfl ?_
          refine am_iloadn d_M_put_67 rfl ?_
          refine am_lloadn d_M_put_68 rfl ?_
          refine am_cpsV [.int (nI j), .int (nI k), .long y] [] d_M_put_69 cV_M_138 rfl m0b rfl rfl (Nat.le_of_ble_eq_true rfl) (Nat.le_of_ble_eq_true rfl) (m_setItem hN1 hj hk (fun S2 hN2 hf2 => ?_))
          show am_W g (d + 4) mm_M_put (72, [some (.ref (g.2.2.1 + 6)), some (.int (nI j)), some (.int (nI k)), some (.long y), none, some (.int (sv_if (sv_iv T (nI j) ∧ 0 ≤ nI k ∧ nI k < nI (T.va (nI j)).it) 1 0)), some (.long (T.at (T.vw j) k)), none], []) S2 _
          refine am_lload d_M_put_72 rfl ?_
          exact am_lret d_M_put_74 rfl (sv_EL.ok hN2 (hf1.tr hf2))
        · exact absurd hz (by decide)
    · refine am_iload d_M_put_31 rfl ?_
      refine am_ifeq (tgt := 48) d_M_put_33 (by decide) (fun hb_1 => ?_) (fun hb_1 => ?_)
      · refine am_iconst 0 d_M_put_48 (by decide) ?_
        rw [sv_if_n (c := (sv_iv T v ∧ 0 ≤ n ∧ n < nI (T.va v).it) ∧ ¬ (T.va v).fx) (fun q => sv_b0 hb_1 q.1)] at key
        exact key
      · have hC := sv_b1 hb_1
        refine am_aloadn d_M_put_36 rfl ?_
        refine am_iloadn d_M_put_37 rfl ?_
        refine am_cpsV [.int v] [.int (sv_if (sv_iv T v ∧ 0 ≤ n ∧ n < nI (T.va v).it) 1 0), .ref (g.2.2.1 + 6)] d_M_put_38 cV_M_135 rfl m0 rfl rfl (Nat.le_of_ble_eq_true rfl) (Nat.le_of_ble_eq_true rfl) (m_isFixedV hM hC.1 ?_)
        show am_W g (d + 4) mm_M_put (41, [some (.ref (g.2.2.1 + 6)), some (.int v), some (.int n), some (.long y), none, some (.int (sv_if (sv_iv T v ∧ 0 ≤ n ∧ n < nI (T.va v).it) 1 0)), none, none], [.int (sv_if ((T.va v).fx) 1 0), .int (sv_if (sv_iv T v ∧ 0 ≤ n ∧ n < nI (T.va v).it) 1 0), .ref (g.2.2.1 + 6)]) S _
        refine am_ifne (tgt := 48) d_M_put_41 (by decide) (fun hb_2 => ?_) (fun hb_2 => ?_)
        · refine am_iconst 0 d_M_put_48 (by decide) ?_
          rw [sv_if_n (c := (sv_iv T v ∧ 0 ≤ n ∧ n < nI (T.va v).it) ∧ ¬ (T.va v).fx) (fun q => q.2 (sv_b1 hb_2))] at key
          exact key
        · refine am_iconst 1 d_M_put_44 (by decide) ?_
          refine am_goto (tgt := 49) d_M_put_45 (by decide) ?_
          rw [sv_if_y (c := (sv_iv T v ∧ 0 ≤ n ∧ n < nI (T.va v).it) ∧ ¬ (T.va v).fx) ⟨sv_b1 hb_1, sv_b0 hb_2⟩] at key
          exact key
  · refine am_aloadn d_M_put_0 rfl ?_
    refine am_iloadn d_M_put_1 rfl ?_
    refine am_cpsV [.int v] [] d_M_put_2 cV_M_55 rfl m0 rfl rfl (Nat.le_of_ble_eq_true rfl) (Nat.le_of_ble_eq_true rfl) (m_isView hM ?_)
    show am_W g (d + 4) mm_M_put (5, [some (.ref (g.2.2.1 + 6)), some (.int v), some (.int n), some (.long y), none, none, none, none], [.int (sv_if (sv_iv T v) 1 0)]) S _
    refine am_ifeq (tgt := 25) d_M_put_5 (by decide) (fun hc => ?_) (fun hc => ?_)
    · refine am_iconst 0 d_M_put_25 (by decide) ?_
      rw [sv_if_n (fun q => sv_b0 hc q.1)] at key
      exact key
    · refine am_iloadn d_M_put_8 rfl ?_
      refine am_iflt (tgt := 25) d_M_put_9 (by decide) (fun hd => ?_) (fun hd => ?_)
      · refine am_iconst 0 d_M_put_25 (by decide) ?_
        rw [sv_if_n (fun q => Int32.not_lt.mpr q.2.1 hd)] at key
        exact key
      · refine am_iloadn d_M_put_12 rfl ?_
        refine am_aloadn d_M_put_13 rfl ?_
        refine am_iloadn d_M_put_14 rfl ?_
        refine am_cpsV [.int v] [.int n] d_M_put_15 cV_M_117 rfl m0 rfl rfl (Nat.le_of_ble_eq_true rfl) (Nat.le_of_ble_eq_true rfl) (m_itemsV hM (sv_b1 hc) ?_)
        show am_W g (d + 4) mm_M_put (18, [some (.ref (g.2.2.1 + 6)), some (.int v), some (.int n), some (.long y), none, none, none, none], [.int (nI (T.va v).it), .int n]) S _
        refine am_icge (tgt := 25) d_M_put_18 (by decide) (fun he => ?_) (fun he => ?_)
        · refine am_iconst 0 d_M_put_25 (by decide) ?_
          rw [sv_if_n (fun q => Int32.not_le.mpr q.2.2 he)] at key
          exact key
        · refine am_iconst 1 d_M_put_21 (by decide) ?_
          refine am_goto (tgt := 26) d_M_put_22 (by decide) ?_
          rw [sv_if_y (⟨sv_b1 hc, Int32.not_lt.mp hd, Int32.not_le.mp he⟩)] at key
          exact key
set_option maxHeartbeats 4000000 in
set_option maxRecDepth 100000 in
/-- end, the loop -/
theorem m_endG_l {g : am_G} {d : Nat} {S : am_S} {T : sv_T} {th : Int32} {na : Nat} {ne nw rd : Nat → Int64} {mt : Nat → Int32} (hM : sv_N g S.1 T th na ne nw rd mt) {j : Nat} (hj : j < T.nv) {P : am_O → am_S → Prop} (hP : P (.inl (some (.int (sv_mx (T.vw j).pl (T.vw j).it)))) S) : ∀ (c i : Nat), i + c = (T.vw j).it → am_W g (d + 2) mm_M_end (12, [some (.ref (g.2.2.1 + 6)), some (.int (nI j)), some (.int 1), some (.int (sv_mx (T.vw j).pl i)), some (.int (nI (T.vw j).it)), some (.int (nI i)), none], []) S P := by
  obtain ⟨fl, fz, fN, fS, fa, fx, fe, fs, ⟨m0, m1, m2, m3, m4, m5, m6, m7, m8, m9, m10, m11, m12⟩, ⟨t1, t2, t3⟩, hw⟩ := id hM
  have h80 := hw.2.1
  have h12 := hw.1
  obtain ⟨v1, v2, v3, v4⟩ := t3 j hj
  obtain ⟨w1, w2, w3, w4, w5, w6, w7⟩ := hw.2.2.2 j hj
  intro c
  induction c using Nat.strongRecOn with
  | ind c ih =>
    intro i hi
    refine am_iload d_M_end_12 rfl ?_
    refine am_iload d_M_end_14 rfl ?_
    refine am_icge (tgt := 65) d_M_end_16 (by decide) (fun hc => ?_) (fun hc => ?_)
    · have hk0 : (T.vw j).it ≤ i := (nI_leI (by omega) (by omega)).mp hc
      obtain rfl : i = (T.vw j).it := by omega
      refine am_iloadn d_M_end_65 rfl ?_
      exact am_iret d_M_end_66 rfl hP
    · have hlt : i < (T.vw j).it := Nat.lt_of_not_le (fun q => hc (nI_le q (by omega)))
      refine am_aloadn d_M_end_19 rfl ?_
      refine am_iloadn d_M_end_20 rfl ?_
      refine am_iload d_M_end_21 rfl ?_
      refine am_cpsV [.int (nI j), .int (nI i)] [] d_M_end_23 cV_M_70 rfl m0 rfl rfl (Nat.le_of_ble_eq_true rfl) (Nat.le_of_ble_eq_true rfl) (m_place hM hj hlt ?_)
      show am_W g (d + 2) mm_M_end (26, [some (.ref (g.2.2.1 + 6)), some (.int (nI j)), some (.int 1), some (.int (sv_mx (T.vw j).pl i)), some (.int (nI (T.vw j).it)), some (.int (nI i)), none], [.int ((T.vw j).pl i)]) S _
      refine am_istore (L' := [some (.ref (g.2.2.1 + 6)), some (.int (nI j)), some (.int 1), some (.int (sv_mx (T.vw j).pl i)), some (.int (nI (T.vw j).it)), some (.int (nI i)), some (.int ((T.vw j).pl i))]) d_M_end_26 (by decide) rfl rfl ?_
      refine am_iloadn d_M_end_28 rfl ?_
      refine am_iconst (-1) d_M_end_29 (by decide) ?_
      refine am_iceq (tgt := 52) d_M_end_30 (by decide) (fun hz => ?_) (fun hz => ?_)
      · refine am_iload d_M_end_52 rfl ?_
        refine am_goto (tgt := 58) d_M_end_54 (by decide) ?_
        refine am_istoren (L' := [some (.ref (g.2.2.1 + 6)), some (.int (nI j)), some (.int 1), some (.int ((T.vw j).pl i)), some (.int (nI (T.vw j).it)), some (.int (nI i)), some (.int ((T.vw j).pl i))]) d_M_end_58 (by decide) rfl rfl ?_
        refine am_iinc (v := nI (i + 1)) (L' := [some (.ref (g.2.2.1 + 6)), some (.int (nI j)), some (.int 1), some (.int ((T.vw j).pl i)), some (.int (nI (T.vw j).it)), some (.int (nI (i + 1))), some (.int ((T.vw j).pl i))]) d_M_end_59 rfl (nI_1 i) (by decide) rfl rfl ?_
        refine am_goto (tgt := 12) d_M_end_62 (by decide) ?_
        refine am_drop (L' := [some (.ref (g.2.2.1 + 6)), some (.int (nI j)), some (.int 1), some (.int ((T.vw j).pl i)), some (.int (nI (T.vw j).it)), some (.int (nI (i + 1))), none]) (by simp [am_le]) ?_
        have key := ih (c - 1) (by omega) (i + 1) (by omega)
        rw [show sv_mx (T.vw j).pl (i + 1) = (T.vw j).pl i from if_pos (Or.inl hz)] at key
        exact key
      · refine am_iloadn d_M_end_33 rfl ?_
        refine am_ifeq (tgt := 46) d_M_end_34 (by decide) (fun hg => ?_) (fun hg => ?_)
        · exact absurd hg (by decide)
        · refine am_iload d_M_end_37 rfl ?_
          refine am_iloadn d_M_end_39 rfl ?_
          refine am_icle (tgt := 57) d_M_end_40 (by decide) (fun hy => ?_) (fun hy => ?_)
          · refine am_iloadn d_M_end_57 rfl ?_
            refine am_istoren (L' := [some (.ref (g.2.2.1 + 6)), some (.int (nI j)), some (.int 1), some (.int (sv_mx (T.vw j).pl i)), some (.int (nI (T.vw j).it)), some (.int (nI i)), some (.int ((T.vw j).pl i))]) d_M_end_58 (by decide) rfl rfl ?_
            refine am_iinc (v := nI (i + 1)) (L' := [some (.ref (g.2.2.1 + 6)), some (.int (nI j)), some (.int 1), some (.int (sv_mx (T.vw j).pl i)), some (.int (nI (T.vw j).it)), some (.int (nI (i + 1))), some (.int ((T.vw j).pl i))]) d_M_end_59 rfl (nI_1 i) (by decide) rfl rfl ?_
            refine am_goto (tgt := 12) d_M_end_62 (by decide) ?_
            refine am_drop (L' := [some (.ref (g.2.2.1 + 6)), some (.int (nI j)), some (.int 1), some (.int (sv_mx (T.vw j).pl i)), some (.int (nI (T.vw j).it)), some (.int (nI (i + 1))), none]) (by simp [am_le]) ?_
            have key := ih (c - 1) (by omega) (i + 1) (by omega)
            rw [show sv_mx (T.vw j).pl (i + 1) = sv_mx (T.vw j).pl i from if_neg (fun q => q.elim hz (fun z => Int32.not_lt.mpr hy z))] at key
            exact key
          · refine am_goto (tgt := 52) d_M_end_43 (by decide) ?_
            refine am_iload d_M_end_52 rfl ?_
            refine am_goto (tgt := 58) d_M_end_54 (by decide) ?_
            refine am_istoren (L' := [some (.ref (g.2.2.1 + 6)), some (.int (nI j)), some (.int 1), some (.int ((T.vw j).pl i)), some (.int (nI (T.vw j).it)), some (.int (nI i)), some (.int ((T.vw j).pl i))]) d_M_end_58 (by decide) rfl rfl ?_
            refine am_iinc (v := nI (i + 1)) (L' := [some (.ref (g.2.2.1 + 6)), some (.int (nI j)), some (.int 1), some (.int ((T.vw j).pl i)), some (.int (nI (T.vw j).it)), some (.int (nI (i + 1))), some (.int ((T.vw j).pl i))]) d_M_end_59 rfl (nI_1 i) (by decide) rfl rfl ?_
            refine am_goto (tgt := 12) d_M_end_62 (by decide) ?_
            refine am_drop (L' := [some (.ref (g.2.2.1 + 6)), some (.int (nI j)), some (.int 1), some (.int ((T.vw j).pl i)), some (.int (nI (T.vw j).it)), some (.int (nI (i + 1))), none]) (by simp [am_le]) ?_
            have key := ih (c - 1) (by omega) (i + 1) (by omega)
            rw [show sv_mx (T.vw j).pl (i + 1) = (T.vw j).pl i from if_pos (Or.inr (Int32.not_le.mp hy))] at key
            exact key
set_option maxHeartbeats 4000000 in
set_option maxRecDepth 100000 in
/-- M_end -/
theorem m_endG {g : am_G} {d : Nat} {S : am_S} {T : sv_T} {th : Int32} {na : Nat} {ne nw rd : Nat → Int64} {mt : Nat → Int32} (hM : sv_N g S.1 T th na ne nw rd mt) {j : Nat} (hj : j < T.nv) {P : am_O → am_S → Prop} (hP : P (.inl (some (.int (T.vw j).hi))) S) : am_W g (d + 2) mm_M_end (0, am_ent [.ref (g.2.2.1 + 6), .int (nI j), .int 1] 7, []) S (P) := by
  obtain ⟨fl, fz, fN, fS, fa, fx, fe, fs, ⟨m0, m1, m2, m3, m4, m5, m6, m7, m8, m9, m10, m11, m12⟩, ⟨t1, t2, t3⟩, hw⟩ := id hM
  have h80 := hw.2.1
  have h12 := hw.1
  obtain ⟨v1, v2, v3, v4⟩ := t3 j hj
  obtain ⟨w1, w2, w3, w4, w5, w6, w7⟩ := hw.2.2.2 j hj
  show am_W g (d + 2) mm_M_end (0, [some (.ref (g.2.2.1 + 6)), some (.int (nI j)), some (.int 1), none, none, none, none], []) S _
  refine am_iconst (-1) d_M_end_0 (by decide) ?_
  refine am_istoren (L' := [some (.ref (g.2.2.1 + 6)), some (.int (nI j)), some (.int 1), some (.int (-1)), none, none, none]) d_M_end_1 (by decide) rfl rfl ?_
  refine am_aloadn d_M_end_2 rfl ?_
  refine am_iloadn d_M_end_3 rfl ?_
  refine am_cpsV [.int (nI j)] [] d_M_end_4 cV_M_117 rfl m0 rfl rfl (Nat.le_of_ble_eq_true rfl) (Nat.le_of_ble_eq_true rfl) (m_items hM hj ?_)
  show am_W g (d + 2) mm_M_end (7, [some (.ref (g.2.2.1 + 6)), some (.int (nI j)), some (.int 1), some (.int (-1)), none, none, none], [.int (nI (T.vw j).it)]) S _
  refine am_istore (L' := [some (.ref (g.2.2.1 + 6)), some (.int (nI j)), some (.int 1), some (.int (-1)), some (.int (nI (T.vw j).it)), none, none]) d_M_end_7 (by decide) rfl rfl ?_
  refine am_iconst 0 d_M_end_9 (by decide) ?_
  refine am_istore (L' := [some (.ref (g.2.2.1 + 6)), some (.int (nI j)), some (.int 1), some (.int (-1)), some (.int (nI (T.vw j).it)), some (.int 0), none]) d_M_end_10 (by decide) rfl rfl ?_
  have hsz := hw.2.2.1 _ w1
  exact m_endG_l hM hj (by rw [sv_mx_hi hsz w4 w2 w7]; exact hP) (T.vw j).it 0 (Nat.zero_add _)
set_option maxHeartbeats 4000000 in
set_option maxRecDepth 100000 in
/-- end, the loop -/
theorem m_endL_l {g : am_G} {d : Nat} {S : am_S} {T : sv_T} {th : Int32} {na : Nat} {ne nw rd : Nat → Int64} {mt : Nat → Int32} (hM : sv_N g S.1 T th na ne nw rd mt) {j : Nat} (hj : j < T.nv) {P : am_O → am_S → Prop} (hP : P (.inl (some (.int (sv_mn (T.vw j).pl (T.vw j).it)))) S) : ∀ (c i : Nat), i + c = (T.vw j).it → am_W g (d + 2) mm_M_end (12, [some (.ref (g.2.2.1 + 6)), some (.int (nI j)), some (.int 0), some (.int (sv_mn (T.vw j).pl i)), some (.int (nI (T.vw j).it)), some (.int (nI i)), none], []) S P := by
  obtain ⟨fl, fz, fN, fS, fa, fx, fe, fs, ⟨m0, m1, m2, m3, m4, m5, m6, m7, m8, m9, m10, m11, m12⟩, ⟨t1, t2, t3⟩, hw⟩ := id hM
  have h80 := hw.2.1
  have h12 := hw.1
  obtain ⟨v1, v2, v3, v4⟩ := t3 j hj
  obtain ⟨w1, w2, w3, w4, w5, w6, w7⟩ := hw.2.2.2 j hj
  intro c
  induction c using Nat.strongRecOn with
  | ind c ih =>
    intro i hi
    refine am_iload d_M_end_12 rfl ?_
    refine am_iload d_M_end_14 rfl ?_
    refine am_icge (tgt := 65) d_M_end_16 (by decide) (fun hc => ?_) (fun hc => ?_)
    · have hk0 : (T.vw j).it ≤ i := (nI_leI (by omega) (by omega)).mp hc
      obtain rfl : i = (T.vw j).it := by omega
      refine am_iloadn d_M_end_65 rfl ?_
      exact am_iret d_M_end_66 rfl hP
    · have hlt : i < (T.vw j).it := Nat.lt_of_not_le (fun q => hc (nI_le q (by omega)))
      refine am_aloadn d_M_end_19 rfl ?_
      refine am_iloadn d_M_end_20 rfl ?_
      refine am_iload d_M_end_21 rfl ?_
      refine am_cpsV [.int (nI j), .int (nI i)] [] d_M_end_23 cV_M_70 rfl m0 rfl rfl (Nat.le_of_ble_eq_true rfl) (Nat.le_of_ble_eq_true rfl) (m_place hM hj hlt ?_)
      show am_W g (d + 2) mm_M_end (26, [some (.ref (g.2.2.1 + 6)), some (.int (nI j)), some (.int 0), some (.int (sv_mn (T.vw j).pl i)), some (.int (nI (T.vw j).it)), some (.int (nI i)), none], [.int ((T.vw j).pl i)]) S _
      refine am_istore (L' := [some (.ref (g.2.2.1 + 6)), some (.int (nI j)), some (.int 0), some (.int (sv_mn (T.vw j).pl i)), some (.int (nI (T.vw j).it)), some (.int (nI i)), some (.int ((T.vw j).pl i))]) d_M_end_26 (by decide) rfl rfl ?_
      refine am_iloadn d_M_end_28 rfl ?_
      refine am_iconst (-1) d_M_end_29 (by decide) ?_
      refine am_iceq (tgt := 52) d_M_end_30 (by decide) (fun hz => ?_) (fun hz => ?_)
      · refine am_iload d_M_end_52 rfl ?_
        refine am_goto (tgt := 58) d_M_end_54 (by decide) ?_
        refine am_istoren (L' := [some (.ref (g.2.2.1 + 6)), some (.int (nI j)), some (.int 0), some (.int ((T.vw j).pl i)), some (.int (nI (T.vw j).it)), some (.int (nI i)), some (.int ((T.vw j).pl i))]) d_M_end_58 (by decide) rfl rfl ?_
        refine am_iinc (v := nI (i + 1)) (L' := [some (.ref (g.2.2.1 + 6)), some (.int (nI j)), some (.int 0), some (.int ((T.vw j).pl i)), some (.int (nI (T.vw j).it)), some (.int (nI (i + 1))), some (.int ((T.vw j).pl i))]) d_M_end_59 rfl (nI_1 i) (by decide) rfl rfl ?_
        refine am_goto (tgt := 12) d_M_end_62 (by decide) ?_
        refine am_drop (L' := [some (.ref (g.2.2.1 + 6)), some (.int (nI j)), some (.int 0), some (.int ((T.vw j).pl i)), some (.int (nI (T.vw j).it)), some (.int (nI (i + 1))), none]) (by simp [am_le]) ?_
        have key := ih (c - 1) (by omega) (i + 1) (by omega)
        rw [show sv_mn (T.vw j).pl (i + 1) = (T.vw j).pl i from if_pos (Or.inl hz)] at key
        exact key
      · refine am_iloadn d_M_end_33 rfl ?_
        refine am_ifeq (tgt := 46) d_M_end_34 (by decide) (fun hg => ?_) (fun hg => ?_)
        · refine am_iload d_M_end_46 rfl ?_
          refine am_iloadn d_M_end_48 rfl ?_
          refine am_icge (tgt := 57) d_M_end_49 (by decide) (fun hy => ?_) (fun hy => ?_)
          · refine am_iloadn d_M_end_57 rfl ?_
            refine am_istoren (L' := [some (.ref (g.2.2.1 + 6)), some (.int (nI j)), some (.int 0), some (.int (sv_mn (T.vw j).pl i)), some (.int (nI (T.vw j).it)), some (.int (nI i)), some (.int ((T.vw j).pl i))]) d_M_end_58 (by decide) rfl rfl ?_
            refine am_iinc (v := nI (i + 1)) (L' := [some (.ref (g.2.2.1 + 6)), some (.int (nI j)), some (.int 0), some (.int (sv_mn (T.vw j).pl i)), some (.int (nI (T.vw j).it)), some (.int (nI (i + 1))), some (.int ((T.vw j).pl i))]) d_M_end_59 rfl (nI_1 i) (by decide) rfl rfl ?_
            refine am_goto (tgt := 12) d_M_end_62 (by decide) ?_
            refine am_drop (L' := [some (.ref (g.2.2.1 + 6)), some (.int (nI j)), some (.int 0), some (.int (sv_mn (T.vw j).pl i)), some (.int (nI (T.vw j).it)), some (.int (nI (i + 1))), none]) (by simp [am_le]) ?_
            have key := ih (c - 1) (by omega) (i + 1) (by omega)
            rw [show sv_mn (T.vw j).pl (i + 1) = sv_mn (T.vw j).pl i from if_neg (fun q => q.elim hz (fun z => Int32.not_lt.mpr hy z))] at key
            exact key
          · refine am_iload d_M_end_52 rfl ?_
            refine am_goto (tgt := 58) d_M_end_54 (by decide) ?_
            refine am_istoren (L' := [some (.ref (g.2.2.1 + 6)), some (.int (nI j)), some (.int 0), some (.int ((T.vw j).pl i)), some (.int (nI (T.vw j).it)), some (.int (nI i)), some (.int ((T.vw j).pl i))]) d_M_end_58 (by decide) rfl rfl ?_
            refine am_iinc (v := nI (i + 1)) (L' := [some (.ref (g.2.2.1 + 6)), some (.int (nI j)), some (.int 0), some (.int ((T.vw j).pl i)), some (.int (nI (T.vw j).it)), some (.int (nI (i + 1))), some (.int ((T.vw j).pl i))]) d_M_end_59 rfl (nI_1 i) (by decide) rfl rfl ?_
            refine am_goto (tgt := 12) d_M_end_62 (by decide) ?_
            refine am_drop (L' := [some (.ref (g.2.2.1 + 6)), some (.int (nI j)), some (.int 0), some (.int ((T.vw j).pl i)), some (.int (nI (T.vw j).it)), some (.int (nI (i + 1))), none]) (by simp [am_le]) ?_
            have key := ih (c - 1) (by omega) (i + 1) (by omega)
            rw [show sv_mn (T.vw j).pl (i + 1) = (T.vw j).pl i from if_pos (Or.inr (Int32.not_le.mp hy))] at key
            exact key
        · exact absurd rfl hg
set_option maxHeartbeats 4000000 in
set_option maxRecDepth 100000 in
/-- M_end -/
theorem m_endL {g : am_G} {d : Nat} {S : am_S} {T : sv_T} {th : Int32} {na : Nat} {ne nw rd : Nat → Int64} {mt : Nat → Int32} (hM : sv_N g S.1 T th na ne nw rd mt) {j : Nat} (hj : j < T.nv) {P : am_O → am_S → Prop} (hP : P (.inl (some (.int (T.vw j).lo))) S) : am_W g (d + 2) mm_M_end (0, am_ent [.ref (g.2.2.1 + 6), .int (nI j), .int 0] 7, []) S (P) := by
  obtain ⟨fl, fz, fN, fS, fa, fx, fe, fs, ⟨m0, m1, m2, m3, m4, m5, m6, m7, m8, m9, m10, m11, m12⟩, ⟨t1, t2, t3⟩, hw⟩ := id hM
  have h80 := hw.2.1
  have h12 := hw.1
  obtain ⟨v1, v2, v3, v4⟩ := t3 j hj
  obtain ⟨w1, w2, w3, w4, w5, w6, w7⟩ := hw.2.2.2 j hj
  show am_W g (d + 2) mm_M_end (0, [some (.ref (g.2.2.1 + 6)), some (.int (nI j)), some (.int 0), none, none, none, none], []) S _
  refine am_iconst (-1) d_M_end_0 (by decide) ?_
  refine am_istoren (L' := [some (.ref (g.2.2.1 + 6)), some (.int (nI j)), some (.int 0), some (.int (-1)), none, none, none]) d_M_end_1 (by decide) rfl rfl ?_
  refine am_aloadn d_M_end_2 rfl ?_
  refine am_iloadn d_M_end_3 rfl ?_
  refine am_cpsV [.int (nI j)] [] d_M_end_4 cV_M_117 rfl m0 rfl rfl (Nat.le_of_ble_eq_true rfl) (Nat.le_of_ble_eq_true rfl) (m_items hM hj ?_)
  show am_W g (d + 2) mm_M_end (7, [some (.ref (g.2.2.1 + 6)), some (.int (nI j)), some (.int 0), some (.int (-1)), none, none, none], [.int (nI (T.vw j).it)]) S _
  refine am_istore (L' := [some (.ref (g.2.2.1 + 6)), some (.int (nI j)), some (.int 0), some (.int (-1)), some (.int (nI (T.vw j).it)), none, none]) d_M_end_7 (by decide) rfl rfl ?_
  refine am_iconst 0 d_M_end_9 (by decide) ?_
  refine am_istore (L' := [some (.ref (g.2.2.1 + 6)), some (.int (nI j)), some (.int 0), some (.int (-1)), some (.int (nI (T.vw j).it)), some (.int 0), none]) d_M_end_10 (by decide) rfl rfl ?_
  have hsz := hw.2.2.1 _ w1
  exact m_endL_l hM hj (by rw [sv_mn_lo hsz w4 w2 w7]; exact hP) (T.vw j).it 0 (Nat.zero_add _)
set_option maxHeartbeats 4000000 in
set_option maxRecDepth 100000 in
/-- M_told -/
theorem e_told {g : am_G} {d : Nat} {S : am_S} {T : sv_T} {th : Int32} {na : Nat} {ne nw rd : Nat → Int64} {mt : Nat → Int32} (hM : sv_N g S.1 T th na ne nw rd mt) {v w : Int32} : am_W g (d + 3) mm_M_told (0, am_ent [.ref (g.2.2.1 + 6), .int v, .int w] 3, []) S (sv_E g S (q_told T v w) (sv_cd 4 5 9)) := by
  obtain ⟨fl, fz, fN, fS, fa, fx, fe, fs, ⟨m0, m1, m2, m3, m4, m5, m6, m7, m8, m9, m10, m11, m12⟩, ⟨t1, t2, t3⟩, hw⟩ := id hM
  have h80 := hw.2.1
  have h12 := hw.1
  show am_W g (d + 3) mm_M_told (0, [some (.ref (g.2.2.1 + 6)), some (.int v), some (.int w)], []) S _
  refine am_aloadn d_M_told_0 rfl ?_
  refine am_aloadn d_M_told_1 rfl ?_
  refine am_iloadn d_M_told_2 rfl ?_
  refine am_cpsV [.int v] [.ref (g.2.2.1 + 6)] d_M_told_3 cV_M_55 rfl m0 rfl rfl (Nat.le_of_ble_eq_true rfl) (Nat.le_of_ble_eq_true rfl) (m_isView hM ?_)
  show am_W g (d + 3) mm_M_told (6, [some (.ref (g.2.2.1 + 6)), some (.int v), some (.int w)], [.int (sv_if (sv_iv T v) 1 0), .ref (g.2.2.1 + 6)]) S _
  refine am_cut (F := (21, [some (.ref (g.2.2.1 + 6)), some (.int v), some (.int w)], [.int (sv_if (0 ≤ w ∧ w < 7) 1 0), .int (sv_if (sv_iv T v) 1 0), .ref (g.2.2.1 + 6)])) ?_ (fun key => ?_)
  · skip
    refine am_cpsV [.int (sv_if (sv_iv T v) 1 0), .int (sv_if (0 ≤ w ∧ w < 7) 1 0)] [] d_M_told_21 cV_M_90 rfl m0 rfl rfl (Nat.le_of_ble_eq_true rfl) (Nat.le_of_ble_eq_true rfl) (m_goesOf hM (fun b1 S1 hN1 hf1 => ?_) (fun b1 b2 S1 hN1 hf1 => ?_) (fun b1 b2 S1 hN1 hf1 => ?_))
    · show am_W g (d + 3) mm_M_told (24, [some (.ref (g.2.2.1 + 6)), some (.int v), some (.int w)], [.int 0]) S1 _
      refine am_ifne (tgt := 29) d_M_told_24 (by decide) (fun hz => ?_) (fun hz => ?_)
      · exact absurd rfl hz
      · refine am_iconst 0 d_M_told_27 (by decide) ?_
        rw [q_told, sv_qv_no (sv_b0 b1)]
        exact am_iret d_M_told_28 rfl (sv_E.no hN1 hf1 (by decide))
    · show am_W g (d + 3) mm_M_told (24, [some (.ref (g.2.2.1 + 6)), some (.int v), some (.int w)], [.int 0]) S1 _
      refine am_ifne (tgt := 29) d_M_told_24 (by decide) (fun hz => ?_) (fun hz => ?_)
      · exact absurd rfl hz
      · refine am_iconst 0 d_M_told_27 (by decide) ?_
        rw [q_told_5 (sv_b1 b1) (sv_b0 b2)]
        exact am_iret d_M_told_28 rfl (sv_E.no hN1 hf1 (by decide))
    · skip
      show am_W g (d + 3) mm_M_told (24, [some (.ref (g.2.2.1 + 6)), some (.int v), some (.int w)], [.int 1]) S1 _
      refine am_ifne (tgt := 29) d_M_told_24 (by decide) (fun hz => ?_) (fun hz => ?_)
      · skip
        obtain ⟨j, hj, rfl⟩ := sv_iv_of (sv_b1 b1) h80
        rw [q_told, sv_qv_j hj h80]
        obtain ⟨flb, fzb, fNb, fSb, fab, fxb, feb, fsb, ⟨m0b, m1b, m2b, m3b, m4b, m5b, m6b, m7b, m8b, m9b, m10b, m11b, m12b⟩, ⟨t1b, t2b, t3b⟩, hwb⟩ := id hN1
        obtain ⟨v1, v2, v3, v4⟩ := t3b j hj
        refine am_iloadn d_M_told_29 rfl ?_
        by_cases hk0 : w = 0
        · rw [hk0]
          refine am_tabIn (off := 34) (tgt := 64) d_M_told_30 (by decide) (by decide) (by decide) (by decide) ?_
          rw [if_pos rfl]
          refine am_aloadn d_M_told_64 rfl ?_
          refine am_get d_M_told_65 fl_M_20 m0b rfl ?_
          refine am_iloadn d_M_told_68 rfl ?_
          refine am_ialdN (t := 0) (k := j) d_M_told_69 rfl m4b (by omega) (by omega) ?_
          refine am_ti (b := nI (T.vw j).st) v1 ?_
          exact am_iret d_M_told_70 rfl (sv_E.ok hN1 hf1)
        · by_cases hk1 : w = 1
          · rw [hk1]
            refine am_tabIn (off := 41) (tgt := 71) d_M_told_30 (by decide) (by decide) (by decide) (by decide) ?_
            rw [if_neg (by decide), if_pos rfl]
            refine am_aloadn d_M_told_71 rfl ?_
            refine am_get d_M_told_72 fl_M_23 m0b rfl ?_
            refine am_iloadn d_M_told_75 rfl ?_
            refine am_ialdN (t := 0) (k := j) d_M_told_76 rfl m5b (by omega) (by omega) ?_
            refine am_ti (b := (T.vw j).sa) v2 ?_
            exact am_iret d_M_told_77 rfl (sv_E.ok hN1 hf1)
          · by_cases hk2 : w = 2
            · rw [hk2]
              refine am_tabIn (off := 48) (tgt := 78) d_M_told_30 (by decide) (by decide) (by decide) (by decide) ?_
              rw [if_neg (by decide), if_neg (by decide), if_pos rfl]
              refine am_aloadn d_M_told_78 rfl ?_
              refine am_get d_M_told_79 fl_M_26 m0b rfl ?_
              refine am_iloadn d_M_told_82 rfl ?_
              refine am_ialdN (t := 0) (k := j) d_M_told_83 rfl m6b (by omega) (by omega) ?_
              refine am_ti (b := nI (T.vw j).ax) v3 ?_
              exact am_iret d_M_told_84 rfl (sv_E.ok hN1 hf1)
            · by_cases hk3 : w = 3
              · rw [hk3]
                refine am_tabIn (off := 55) (tgt := 85) d_M_told_30 (by decide) (by decide) (by decide) (by decide) ?_
                rw [if_neg (by decide), if_neg (by decide), if_neg (by decide), if_pos rfl]
                refine am_aloadn d_M_told_85 rfl ?_
                refine am_iloadn d_M_told_86 rfl ?_
                refine am_cpsV [.int (nI j)] [] d_M_told_87 cV_M_117 rfl m0b rfl rfl (Nat.le_of_ble_eq_true rfl) (Nat.le_of_ble_eq_true rfl) (m_items hN1 hj ?_)
                show am_W g (d + 3) mm_M_told (90, [some (.ref (g.2.2.1 + 6)), some (.int (nI j)), some (.int 3)], [.int (nI (T.vw j).it)]) S1 _
                exact am_iret d_M_told_90 rfl (sv_E.ok hN1 hf1)
              · by_cases hk4 : w = 4
                · rw [hk4]
                  refine am_tabIn (off := 61) (tgt := 91) d_M_told_30 (by decide) (by decide) (by decide) (by decide) ?_
                  rw [if_neg (by decide), if_neg (by decide), if_neg (by decide), if_neg (by decide), if_pos rfl]
                  refine am_aloadn d_M_told_91 rfl ?_
                  refine am_iloadn d_M_told_92 rfl ?_
                  refine am_cpsV [.int (nI j)] [] d_M_told_93 cV_M_135 rfl m0b rfl rfl (Nat.le_of_ble_eq_true rfl) (Nat.le_of_ble_eq_true rfl) (m_isFixed hN1 hj ?_)
                  show am_W g (d + 3) mm_M_told (96, [some (.ref (g.2.2.1 + 6)), some (.int (nI j)), some (.int 4)], [.int (sv_if ((T.vw j).fx) 1 0)]) S1 _
                  refine am_ifeq (tgt := 103) d_M_told_96 (by decide) (fun hz => ?_) (fun hz => ?_)
                  · refine am_iconst 0 d_M_told_103 (by decide) ?_
                    rw [sv_if_n (sv_b0 hz)]
                    exact am_iret d_M_told_104 rfl (sv_E.ok hN1 hf1)
                  · refine am_iconst 1 d_M_told_99 (by decide) ?_
                    refine am_goto (tgt := 104) d_M_told_100 (by decide) ?_
                    rw [sv_if_y (sv_b1 hz)]
                    exact am_iret d_M_told_104 rfl (sv_E.ok hN1 hf1)
                · refine am_tabOut (tgt := 105) d_M_told_30 (by have w0 := lv_neT hk0 (a := 0) (by decide); have w1 := lv_neT hk1 (a := 1) (by decide); have w2 := lv_neT hk2 (a := 2) (by decide); have w3 := lv_neT hk3 (a := 3) (by decide); have w4 := lv_neT hk4 (a := 4) (by decide); omega) (by decide) ?_
                  rw [if_neg hk0, if_neg hk1, if_neg hk2, if_neg hk3, if_neg hk4]
                  refine am_aloadn d_M_told_105 rfl ?_
                  refine am_iloadn d_M_told_106 rfl ?_
                  refine am_iloadn d_M_told_107 rfl ?_
                  refine am_bipush 6 d_M_told_108 (by decide) ?_
                  refine am_icne (tgt := 117) d_M_told_110 (by decide) (fun h6 => ?_) (fun h6 => ?_)
                  · have h5 := sv_w5 (sv_b1 b2) hk0 hk1 hk2 hk3 hk4 h6
                    rw [if_pos h5]
                    refine am_iconst 0 d_M_told_117 (by decide) ?_
                    refine am_cpsV [.int (nI j), .int 0] [] d_M_told_118 cV_M_162 rfl m0b rfl rfl (Nat.le_of_ble_eq_true rfl) (Nat.le_of_ble_eq_true rfl) (m_endL hN1 hj ?_)
                    show am_W g (d + 3) mm_M_told (121, [some (.ref (g.2.2.1 + 6)), some (.int (nI j)), some (.int w)], [.int ((T.vw j).lo)]) S1 _
                    exact am_iret d_M_told_121 rfl (sv_E.ok hN1 hf1)
                  · rw [if_neg (fun q => by rw [h6] at q; exact absurd q (by decide)), if_pos h6]
                    refine am_iconst 1 d_M_told_113 (by decide) ?_
                    refine am_goto (tgt := 118) d_M_told_114 (by decide) ?_
                    refine am_cpsV [.int (nI j), .int 1] [] d_M_told_118 cV_M_162 rfl m0b rfl rfl (Nat.le_of_ble_eq_true rfl) (Nat.le_of_ble_eq_true rfl) (m_endG hN1 hj ?_)
                    show am_W g (d + 3) mm_M_told (121, [some (.ref (g.2.2.1 + 6)), some (.int (nI j)), some (.int w)], [.int ((T.vw j).hi)]) S1 _
                    exact am_iret d_M_told_121 rfl (sv_E.ok hN1 hf1)
      · exact absurd hz (by decide)
  · refine am_iloadn d_M_told_6 rfl ?_
    refine am_iflt (tgt := 20) d_M_told_7 (by decide) (fun hb_1 => ?_) (fun hb_1 => ?_)
    · refine am_iconst 0 d_M_told_20 (by decide) ?_
      rw [sv_if_n (c := 0 ≤ w ∧ w < 7) (fun q => Int32.not_lt.mpr q.1 hb_1)] at key
      exact key
    · refine am_iloadn d_M_told_10 rfl ?_
      refine am_bipush 7 d_M_told_11 (by decide) ?_
      refine am_icge (tgt := 20) d_M_told_13 (by decide) (fun hb_2 => ?_) (fun hb_2 => ?_)
      · refine am_iconst 0 d_M_told_20 (by decide) ?_
        rw [sv_if_n (c := 0 ≤ w ∧ w < 7) (fun q => Int32.not_le.mpr q.2 hb_2)] at key
        exact key
      · refine am_iconst 1 d_M_told_16 (by decide) ?_
        refine am_goto (tgt := 21) d_M_told_17 (by decide) ?_
        rw [sv_if_y (c := 0 ≤ w ∧ w < 7) ⟨Int32.not_lt.mp hb_1, Int32.not_le.mp hb_2⟩] at key
        exact key
set_option maxHeartbeats 4000000 in
set_option maxRecDepth 100000 in
/-- runs, the loop -/
theorem e_runs_l {g : am_G} {d : Nat} {S : am_S} {T : sv_T} {th : Int32} {na : Nat} {ne nw rd : Nat → Int64} {mt : Nat → Int32} (hM : sv_N g S.1 T th na ne nw rd mt) {j : Nat} (hj : j < T.nv) {P : am_O → am_S → Prop} (hP : P (.inl (some (.int (nI (sv_rn (T.vw j).pl (T.vw j).it))))) S) : ∀ (c i : Nat), i + c = (T.vw j).it → am_W g (d + 2) mm_M_runs (37, [some (.ref (g.2.2.1 + 6)), some (.int (nI j)), some (.int (nI (sv_rn (T.vw j).pl i))), some (.int (nI (T.vw j).it)), some (.int (nI i))], []) S P := by
  obtain ⟨fl, fz, fN, fS, fa, fx, fe, fs, ⟨m0, m1, m2, m3, m4, m5, m6, m7, m8, m9, m10, m11, m12⟩, ⟨t1, t2, t3⟩, hw⟩ := id hM
  have h80 := hw.2.1
  have h12 := hw.1
  obtain ⟨v1, v2, v3, v4⟩ := t3 j hj
  obtain ⟨w1, w2, w3, w4, w5, w6, w7⟩ := hw.2.2.2 j hj
  intro c
  induction c using Nat.strongRecOn with
  | ind c ih =>
    intro i hi
    refine am_iload d_M_runs_37 rfl ?_
    refine am_iloadn d_M_runs_39 rfl ?_
    refine am_icge (tgt := 83) d_M_runs_40 (by decide) (fun hc => ?_) (fun hc => ?_)
    · have hk0 : (T.vw j).it ≤ i := (nI_leI (by omega) (by omega)).mp hc
      obtain rfl : i = (T.vw j).it := by omega
      refine am_iloadn d_M_runs_83 rfl ?_
      exact am_iret d_M_runs_84 rfl hP
    · have hlt : i < (T.vw j).it := Nat.lt_of_not_le (fun q => hc (nI_le q (by omega)))
      have hle := sv_rn_le (T.vw j).pl i
      refine am_iloadn d_M_runs_43 rfl ?_
      refine am_iload d_M_runs_44 rfl ?_
      refine am_ifeq (tgt := 70) d_M_runs_46 (by decide) (fun hz => ?_) (fun hz => ?_)
      · have hi0 : i = 0 := (nI_eq (by omega) (by decide)).mp (hz.trans nI_0.symm)
        refine am_iconst 1 d_M_runs_70 (by decide) ?_
        refine am_goto (tgt := 75) d_M_runs_71 (by decide) ?_
        refine am_iadd d_M_runs_75 ?_
        refine am_ti (b := nI (sv_rn (T.vw j).pl (i + 1))) (by rw [show sv_rn (T.vw j).pl (i + 1) = sv_rn (T.vw j).pl i + 1 from if_pos (Or.inl hi0)]; exact nI_1 _) ?_
        refine am_istoren (L' := [some (.ref (g.2.2.1 + 6)), some (.int (nI j)), some (.int (nI (sv_rn (T.vw j).pl (i + 1)))), some (.int (nI (T.vw j).it)), some (.int (nI i))]) d_M_runs_76 (by decide) rfl rfl ?_
        refine am_iinc (v := nI (i + 1)) (L' := [some (.ref (g.2.2.1 + 6)), some (.int (nI j)), some (.int (nI (sv_rn (T.vw j).pl (i + 1)))), some (.int (nI (T.vw j).it)), some (.int (nI (i + 1)))]) d_M_runs_77 rfl (nI_1 i) (by decide) rfl rfl ?_
        refine am_goto (tgt := 37) d_M_runs_80 (by decide) ?_
        exact ih (c - 1) (by omega) (i + 1) (by omega)
      · have hi0 : ¬ i = 0 := fun h => hz (by rw [h]; exact nI_0)
        refine am_aloadn d_M_runs_49 rfl ?_
        refine am_iloadn d_M_runs_50 rfl ?_
        refine am_iload d_M_runs_51 rfl ?_
        refine am_cpsV [.int (nI j), .int (nI i)] [.int (nI (sv_rn (T.vw j).pl i))] d_M_runs_53 cV_M_70 rfl m0 rfl rfl (Nat.le_of_ble_eq_true rfl) (Nat.le_of_ble_eq_true rfl) (m_place hM hj hlt ?_)
        show am_W g (d + 2) mm_M_runs (56, [some (.ref (g.2.2.1 + 6)), some (.int (nI j)), some (.int (nI (sv_rn (T.vw j).pl i))), some (.int (nI (T.vw j).it)), some (.int (nI i))], [.int ((T.vw j).pl i), .int (nI (sv_rn (T.vw j).pl i))]) S _
        refine am_aloadn d_M_runs_56 rfl ?_
        refine am_iloadn d_M_runs_57 rfl ?_
        refine am_iload d_M_runs_58 rfl ?_
        refine am_iconst 1 d_M_runs_60 (by decide) ?_
        refine am_isub d_M_runs_61 ?_
        refine am_ti (b := nI (i - 1)) (nI_m1N (by omega)) ?_
        refine am_cpsV [.int (nI j), .int (nI (i - 1))] [.int ((T.vw j).pl i), .int (nI (sv_rn (T.vw j).pl i))] d_M_runs_62 cV_M_70 rfl m0 rfl rfl (Nat.le_of_ble_eq_true rfl) (Nat.le_of_ble_eq_true rfl) (m_place hM hj (i := i - 1) (by omega) ?_)
        show am_W g (d + 2) mm_M_runs (65, [some (.ref (g.2.2.1 + 6)), some (.int (nI j)), some (.int (nI (sv_rn (T.vw j).pl i))), some (.int (nI (T.vw j).it)), some (.int (nI i))], [.int ((T.vw j).pl (i - 1)), .int ((T.vw j).pl i), .int (nI (sv_rn (T.vw j).pl i))]) S _
        refine am_iconst 1 d_M_runs_65 (by decide) ?_
        refine am_iadd d_M_runs_66 ?_
        refine am_iceq (tgt := 74) d_M_runs_67 (by decide) (fun hy => ?_) (fun hy => ?_)
        · refine am_iconst 0 d_M_runs_74 (by decide) ?_
          refine am_iadd d_M_runs_75 ?_
          refine am_ti (b := nI (sv_rn (T.vw j).pl (i + 1))) (by rw [show sv_rn (T.vw j).pl (i + 1) = sv_rn (T.vw j).pl i from if_neg (fun q => q.elim hi0 (fun z => z hy))]; exact Int32.add_zero _) ?_
          refine am_istoren (L' := [some (.ref (g.2.2.1 + 6)), some (.int (nI j)), some (.int (nI (sv_rn (T.vw j).pl (i + 1)))), some (.int (nI (T.vw j).it)), some (.int (nI i))]) d_M_runs_76 (by decide) rfl rfl ?_
          refine am_iinc (v := nI (i + 1)) (L' := [some (.ref (g.2.2.1 + 6)), some (.int (nI j)), some (.int (nI (sv_rn (T.vw j).pl (i + 1)))), some (.int (nI (T.vw j).it)), some (.int (nI (i + 1)))]) d_M_runs_77 rfl (nI_1 i) (by decide) rfl rfl ?_
          refine am_goto (tgt := 37) d_M_runs_80 (by decide) ?_
          exact ih (c - 1) (by omega) (i + 1) (by omega)
        · refine am_iconst 1 d_M_runs_70 (by decide) ?_
          refine am_goto (tgt := 75) d_M_runs_71 (by decide) ?_
          refine am_iadd d_M_runs_75 ?_
          refine am_ti (b := nI (sv_rn (T.vw j).pl (i + 1))) (by rw [show sv_rn (T.vw j).pl (i + 1) = sv_rn (T.vw j).pl i + 1 from if_pos (Or.inr hy)]; exact nI_1 _) ?_
          refine am_istoren (L' := [some (.ref (g.2.2.1 + 6)), some (.int (nI j)), some (.int (nI (sv_rn (T.vw j).pl (i + 1)))), some (.int (nI (T.vw j).it)), some (.int (nI i))]) d_M_runs_76 (by decide) rfl rfl ?_
          refine am_iinc (v := nI (i + 1)) (L' := [some (.ref (g.2.2.1 + 6)), some (.int (nI j)), some (.int (nI (sv_rn (T.vw j).pl (i + 1)))), some (.int (nI (T.vw j).it)), some (.int (nI (i + 1)))]) d_M_runs_77 rfl (nI_1 i) (by decide) rfl rfl ?_
          refine am_goto (tgt := 37) d_M_runs_80 (by decide) ?_
          exact ih (c - 1) (by omega) (i + 1) (by omega)
set_option maxHeartbeats 4000000 in
set_option maxRecDepth 100000 in
/-- M_runs -/
theorem e_runs {g : am_G} {d : Nat} {S : am_S} {T : sv_T} {th : Int32} {na : Nat} {ne nw rd : Nat → Int64} {mt : Nat → Int32} (hM : sv_N g S.1 T th na ne nw rd mt) {v : Int32} : am_W g (d + 2) mm_M_runs (0, am_ent [.ref (g.2.2.1 + 6), .int v] 5, []) S (sv_E g S (q_runs T v) (sv_cd 4 6 9)) := by
  obtain ⟨fl, fz, fN, fS, fa, fx, fe, fs, ⟨m0, m1, m2, m3, m4, m5, m6, m7, m8, m9, m10, m11, m12⟩, ⟨t1, t2, t3⟩, hw⟩ := id hM
  have h80 := hw.2.1
  have h12 := hw.1
  show am_W g (d + 2) mm_M_runs (0, [some (.ref (g.2.2.1 + 6)), some (.int v), none, none, none], []) S _
  refine am_aloadn d_M_runs_0 rfl ?_
  refine am_aloadn d_M_runs_1 rfl ?_
  refine am_iloadn d_M_runs_2 rfl ?_
  refine am_cpsV [.int v] [.ref (g.2.2.1 + 6)] d_M_runs_3 cV_M_55 rfl m0 rfl rfl (Nat.le_of_ble_eq_true rfl) (Nat.le_of_ble_eq_true rfl) (m_isView hM ?_)
  show am_W g (d + 2) mm_M_runs (6, [some (.ref (g.2.2.1 + 6)), some (.int v), none, none, none], [.int (sv_if (sv_iv T v) 1 0), .ref (g.2.2.1 + 6)]) S _
  refine am_ifeq (tgt := 13) d_M_runs_6 (by decide) (fun hc => ?_) (fun hc => ?_)
  · have hno := sv_b0 hc
    refine am_iconst 1 d_M_runs_13 (by decide) ?_
    refine am_put d_M_runs_14 fp_M_48 m0 rfl rfl (Nat.le_of_ble_eq_true rfl) ?_
    obtain ⟨S_1, eS_1⟩ : ∃ z : am_S, z = (am_up S.1 (g.2.2.1 + 6) (.inr (3, [.int 1, .int (nI T.ns), .ref (g.2.2.1 + 7), .ref (g.2.2.1 + 8), .ref (g.2.2.1 + 9), .int (nI T.nv), .ref (g.2.2.1 + 10), .ref (g.2.2.1 + 11), .ref (g.2.2.1 + 12), .ref (g.2.2.1 + 13), .ref (g.2.2.1 + 14), .ref (g.2.2.1 + 15), .ref (g.2.2.1 + 16), .int (nI na), .ref (g.2.2.1 + 17), .ref (g.2.2.1 + 18)])), S.2) := ⟨_, rfl⟩
    change am_W _ _ _ _ (am_up S.1 (g.2.2.1 + 6) (.inr (3, [.int 1, .int (nI T.ns), .ref (g.2.2.1 + 7), .ref (g.2.2.1 + 8), .ref (g.2.2.1 + 9), .int (nI T.nv), .ref (g.2.2.1 + 10), .ref (g.2.2.1 + 11), .ref (g.2.2.1 + 12), .ref (g.2.2.1 + 13), .ref (g.2.2.1 + 14), .ref (g.2.2.1 + 15), .ref (g.2.2.1 + 16), .int (nI na), .ref (g.2.2.1 + 17), .ref (g.2.2.1 + 18)])), S.2) _
    rw [← eS_1]
    have h_2 : S_1.1 (g.2.2.1 + 7) = some (.inl (0, 12, .inl fl)) := by rw [eS_1]; exact (am_up_n (by omega)).trans m1
    have h_3 : S_1.1 (g.2.2.1 + 8) = some (.inl (0, 12, .inl fz)) := by rw [eS_1]; exact (am_up_n (by omega)).trans m2
    have h_4 : S_1.1 (g.2.2.1 + 9) = some (.inl (1, 3600, .inr (.inl fN))) := by rw [eS_1]; exact (am_up_n (by omega)).trans m3
    have h_5 : S_1.1 (g.2.2.1 + 10) = some (.inl (0, 80, .inl fS)) := by rw [eS_1]; exact (am_up_n (by omega)).trans m4
    have h_6 : S_1.1 (g.2.2.1 + 11) = some (.inl (0, 80, .inl fa)) := by rw [eS_1]; exact (am_up_n (by omega)).trans m5
    have h_7 : S_1.1 (g.2.2.1 + 12) = some (.inl (0, 80, .inl fx)) := by rw [eS_1]; exact (am_up_n (by omega)).trans m6
    have h_8 : S_1.1 (g.2.2.1 + 13) = some (.inl (0, 320, .inl fe)) := by rw [eS_1]; exact (am_up_n (by omega)).trans m7
    have h_9 : S_1.1 (g.2.2.1 + 14) = some (.inl (0, 320, .inl fs)) := by rw [eS_1]; exact (am_up_n (by omega)).trans m8
    have h_10 : S_1.1 (g.2.2.1 + 15) = some (.inl (1, 5, .inr (.inl ne))) := by rw [eS_1]; exact (am_up_n (by omega)).trans m9
    have h_11 : S_1.1 (g.2.2.1 + 16) = some (.inl (1, 5, .inr (.inl nw))) := by rw [eS_1]; exact (am_up_n (by omega)).trans m10
    have h_12 : S_1.1 (g.2.2.1 + 17) = some (.inl (1, 3000, .inr (.inl rd))) := by rw [eS_1]; exact (am_up_n (by omega)).trans m11
    have h_13 : S_1.1 (g.2.2.1 + 18) = some (.inl (2, 300, .inl mt)) := by rw [eS_1]; exact (am_up_n (by omega)).trans m12
    have hf_14 : sv_MF g S S_1 := by rw [eS_1]; exact sv_MF.rf.u (by omega) (by omega)
    have h_15 : S_1.1 (g.2.2.1 + 6) = some (.inr (3, [.int 1, .int (nI T.ns), .ref (g.2.2.1 + 7), .ref (g.2.2.1 + 8), .ref (g.2.2.1 + 9), .int (nI T.nv), .ref (g.2.2.1 + 10), .ref (g.2.2.1 + 11), .ref (g.2.2.1 + 12), .ref (g.2.2.1 + 13), .ref (g.2.2.1 + 14), .ref (g.2.2.1 + 15), .ref (g.2.2.1 + 16), .int (nI na), .ref (g.2.2.1 + 17), .ref (g.2.2.1 + 18)])) := by rw [eS_1]; exact am_up_s
    have hnS_1 : S_1.2.1 = S.2.1 := by rw [eS_1]
    have hzS_1 : S_1.2.2 = S.2.2 := by rw [eS_1]
    have hN1 : sv_N g S_1.1 T 1 na ne nw rd mt := ⟨fl, fz, fN, fS, fa, fx, fe, fs, ⟨h_15, h_2, h_3, h_4, h_5, h_6, h_7, h_8, h_9, h_10, h_11, h_12, h_13⟩, ⟨t1, t2, t3⟩, hw⟩
    have hf1 : sv_MF g S S_1 := hf_14
    refine am_aloadn d_M_runs_17 rfl ?_
    refine am_get d_M_runs_18 fl_M_48 h_15 rfl ?_
    refine am_ifle (tgt := 26) d_M_runs_21 (by decide) (fun hz => ?_) (fun hz => ?_)
    · exact absurd hz (by decide)
    · refine am_iconst 0 d_M_runs_24 (by decide) ?_
      rw [q_runs, sv_qv_no hno]
      exact am_iret d_M_runs_25 rfl (sv_E.no hN1 hf1 (by decide))
  · obtain ⟨j, hj, rfl⟩ := sv_iv_of (sv_b1 hc) h80
    rw [q_runs, sv_qv_j hj h80]
    refine am_iconst 0 d_M_runs_9 (by decide) ?_
    refine am_goto (tgt := 14) d_M_runs_10 (by decide) ?_
    refine am_put d_M_runs_14 fp_M_48 m0 rfl rfl (Nat.le_of_ble_eq_true rfl) ?_
    obtain ⟨S_16, eS_16⟩ : ∃ z : am_S, z = (am_up S.1 (g.2.2.1 + 6) (.inr (3, [.int 0, .int (nI T.ns), .ref (g.2.2.1 + 7), .ref (g.2.2.1 + 8), .ref (g.2.2.1 + 9), .int (nI T.nv), .ref (g.2.2.1 + 10), .ref (g.2.2.1 + 11), .ref (g.2.2.1 + 12), .ref (g.2.2.1 + 13), .ref (g.2.2.1 + 14), .ref (g.2.2.1 + 15), .ref (g.2.2.1 + 16), .int (nI na), .ref (g.2.2.1 + 17), .ref (g.2.2.1 + 18)])), S.2) := ⟨_, rfl⟩
    change am_W _ _ _ _ (am_up S.1 (g.2.2.1 + 6) (.inr (3, [.int 0, .int (nI T.ns), .ref (g.2.2.1 + 7), .ref (g.2.2.1 + 8), .ref (g.2.2.1 + 9), .int (nI T.nv), .ref (g.2.2.1 + 10), .ref (g.2.2.1 + 11), .ref (g.2.2.1 + 12), .ref (g.2.2.1 + 13), .ref (g.2.2.1 + 14), .ref (g.2.2.1 + 15), .ref (g.2.2.1 + 16), .int (nI na), .ref (g.2.2.1 + 17), .ref (g.2.2.1 + 18)])), S.2) _
    rw [← eS_16]
    have h_17 : S_16.1 (g.2.2.1 + 7) = some (.inl (0, 12, .inl fl)) := by rw [eS_16]; exact (am_up_n (by omega)).trans m1
    have h_18 : S_16.1 (g.2.2.1 + 8) = some (.inl (0, 12, .inl fz)) := by rw [eS_16]; exact (am_up_n (by omega)).trans m2
    have h_19 : S_16.1 (g.2.2.1 + 9) = some (.inl (1, 3600, .inr (.inl fN))) := by rw [eS_16]; exact (am_up_n (by omega)).trans m3
    have h_20 : S_16.1 (g.2.2.1 + 10) = some (.inl (0, 80, .inl fS)) := by rw [eS_16]; exact (am_up_n (by omega)).trans m4
    have h_21 : S_16.1 (g.2.2.1 + 11) = some (.inl (0, 80, .inl fa)) := by rw [eS_16]; exact (am_up_n (by omega)).trans m5
    have h_22 : S_16.1 (g.2.2.1 + 12) = some (.inl (0, 80, .inl fx)) := by rw [eS_16]; exact (am_up_n (by omega)).trans m6
    have h_23 : S_16.1 (g.2.2.1 + 13) = some (.inl (0, 320, .inl fe)) := by rw [eS_16]; exact (am_up_n (by omega)).trans m7
    have h_24 : S_16.1 (g.2.2.1 + 14) = some (.inl (0, 320, .inl fs)) := by rw [eS_16]; exact (am_up_n (by omega)).trans m8
    have h_25 : S_16.1 (g.2.2.1 + 15) = some (.inl (1, 5, .inr (.inl ne))) := by rw [eS_16]; exact (am_up_n (by omega)).trans m9
    have h_26 : S_16.1 (g.2.2.1 + 16) = some (.inl (1, 5, .inr (.inl nw))) := by rw [eS_16]; exact (am_up_n (by omega)).trans m10
    have h_27 : S_16.1 (g.2.2.1 + 17) = some (.inl (1, 3000, .inr (.inl rd))) := by rw [eS_16]; exact (am_up_n (by omega)).trans m11
    have h_28 : S_16.1 (g.2.2.1 + 18) = some (.inl (2, 300, .inl mt)) := by rw [eS_16]; exact (am_up_n (by omega)).trans m12
    have hf_29 : sv_MF g S S_16 := by rw [eS_16]; exact sv_MF.rf.u (by omega) (by omega)
    have h_30 : S_16.1 (g.2.2.1 + 6) = some (.inr (3, [.int 0, .int (nI T.ns), .ref (g.2.2.1 + 7), .ref (g.2.2.1 + 8), .ref (g.2.2.1 + 9), .int (nI T.nv), .ref (g.2.2.1 + 10), .ref (g.2.2.1 + 11), .ref (g.2.2.1 + 12), .ref (g.2.2.1 + 13), .ref (g.2.2.1 + 14), .ref (g.2.2.1 + 15), .ref (g.2.2.1 + 16), .int (nI na), .ref (g.2.2.1 + 17), .ref (g.2.2.1 + 18)])) := by rw [eS_16]; exact am_up_s
    have hnS_16 : S_16.2.1 = S.2.1 := by rw [eS_16]
    have hzS_16 : S_16.2.2 = S.2.2 := by rw [eS_16]
    have hN1 : sv_N g S_16.1 T 0 na ne nw rd mt := ⟨fl, fz, fN, fS, fa, fx, fe, fs, ⟨h_30, h_17, h_18, h_19, h_20, h_21, h_22, h_23, h_24, h_25, h_26, h_27, h_28⟩, ⟨t1, t2, t3⟩, hw⟩
    have hf1 : sv_MF g S S_16 := hf_29
    refine am_aloadn d_M_runs_17 rfl ?_
    refine am_get d_M_runs_18 fl_M_48 h_30 rfl ?_
    refine am_ifle (tgt := 26) d_M_runs_21 (by decide) (fun hz => ?_) (fun hz => ?_)
    · refine am_iconst 0 d_M_runs_26 (by decide) ?_
      refine am_istoren (L' := [some (.ref (g.2.2.1 + 6)), some (.int (nI j)), some (.int 0), none, none]) d_M_runs_27 (by decide) rfl rfl ?_
      refine am_aloadn d_M_runs_28 rfl ?_
      refine am_iloadn d_M_runs_29 rfl ?_
      refine am_cpsV [.int (nI j)] [] d_M_runs_30 cV_M_117 rfl h_30 rfl rfl (Nat.le_of_ble_eq_true rfl) (Nat.le_of_ble_eq_true rfl) (m_items hN1 hj ?_)
      show am_W g (d + 2) mm_M_runs (33, [some (.ref (g.2.2.1 + 6)), some (.int (nI j)), some (.int 0), none, none], [.int (nI (T.vw j).it)]) S_16 _
      refine am_istoren (L' := [some (.ref (g.2.2.1 + 6)), some (.int (nI j)), some (.int 0), some (.int (nI (T.vw j).it)), none]) d_M_runs_33 (by decide) rfl rfl ?_
      refine am_iconst 0 d_M_runs_34 (by decide) ?_
      refine am_istore (L' := [some (.ref (g.2.2.1 + 6)), some (.int (nI j)), some (.int 0), some (.int (nI (T.vw j).it)), some (.int 0)]) d_M_runs_35 (by decide) rfl rfl ?_
      exact e_runs_l hN1 hj (sv_E.ok hN1 hf1) (T.vw j).it 0 (Nat.zero_add _)
    · exact absurd (by decide) hz
