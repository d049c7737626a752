/-! the reference: store, slice, spread -/
theorem sv_le64 {a b : Int32} : a.toInt64 ≤ b.toInt64 ↔ a ≤ b := by rw [Int64.le_iff_toInt_le, Int32.le_iff_toInt_le, Int32.toInt_toInt64, Int32.toInt_toInt64]
theorem q_slice_5 {T : sv_T} {v x s t n : Int32} (h : sv_ia T v x) (h2 : ¬ (sv_ia T v x ∧ ¬ sv_bad (nI ((T.va v).ex x.toNatClampNeg)) s t n)) : q_slice T v x s t n = (5, .null, T) := by
  unfold q_slice sv_qv
  rw [if_pos h.1]
  dsimp only
  rw [sv_qa, if_pos h.2]
  exact sv_if_y (Classical.byContradiction (fun q => h2 ⟨h, q⟩))
theorem q_slice_6 {T : sv_T} {v x s t n : Int32} (h : sv_ia T v x ∧ ¬ sv_bad (nI ((T.va v).ex x.toNatClampNeg)) s t n) (h8 : ¬ T.nv < 80) : q_slice T v x s t n = (6, .null, T) := by
  unfold q_slice sv_qv
  rw [if_pos h.1.1]
  dsimp only
  rw [sv_qa, if_pos h.1.2]
  rw [sv_if_n h.2]
  exact if_neg (fun q => h8 q.1)
theorem sv_last {E a N : Nat} {t : Int32} (hE : E < 2 ^ 31) (hN : N < 2 ^ 31) (h0 : 0 < N) (ha : a < 2 ^ 31) (hL0 : ¬ (nI a).toInt64 + ((nI N).toInt64 - 1) * t.toInt64 < 0) (hL1 : ¬ (nI E).toInt64 ≤ (nI a).toInt64 + ((nI N).toInt64 - 1) * t.toInt64) : 0 ≤ (a : Int) + ((N : Int) - 1) * t.toInt ∧ (a : Int) + ((N : Int) - 1) * t.toInt < E := by
  have hsz : Int64.size = 18446744073709551616 := rfl
  have ht1 : -2147483648 ≤ t.toInt := Int32.le_toInt t
  have ht2 : t.toInt < 2147483648 := Int32.toInt_lt t
  have hval : ((nI a).toInt64 + ((nI N).toInt64 - 1) * t.toInt64).toInt = (a : Int) + ((N : Int) - 1) * t.toInt := by
    have e1 : (nI N).toInt64 - 1 = Int64.ofInt ((N : Int) - 1) := by
      rw [nI_l hN]
      apply Int64.toInt_inj.mp
      rw [Int64.toInt_sub, lN_toInt hN, Int64.toInt_ofInt]
      rfl
    have e2 : t.toInt64 = Int64.ofInt t.toInt := by apply Int64.toInt_inj.mp; rw [Int32.toInt_toInt64, Int64.toInt_ofInt]; rw [Int.bmod_eq_of_le (by omega) (by omega)]
    have e3 : (nI a).toInt64 = Int64.ofInt (a : Int) := by rw [nI_l ha]; rfl
    rw [e1, e2, e3, ← Int64.ofInt_mul, ← Int64.ofInt_add, Int64.toInt_ofInt]
    have hb1 : ((N : Int) - 1) * t.toInt ≤ 2147483648 * 2147483648 := by
      rcases (show t.toInt < 0 ∨ 0 ≤ t.toInt by omega) with q | q
      · have : ((N : Int) - 1) * t.toInt ≤ 0 := Int.mul_nonpos_of_nonneg_of_nonpos (by omega) (by omega)
        omega
      · exact Int.mul_le_mul (by omega) (by omega) q (by omega)
    have hb2 : -(2147483648 * 2147483648) ≤ ((N : Int) - 1) * t.toInt := by
      rcases (show t.toInt < 0 ∨ 0 ≤ t.toInt by omega) with q | q
      · have : ((N : Int) - 1) * (-t.toInt) ≤ 2147483648 * 2147483648 := Int.mul_le_mul (by omega) (by omega) (by omega) (by omega)
        rw [Int.mul_neg] at this
        omega
      · have : 0 ≤ ((N : Int) - 1) * t.toInt := Int.mul_nonneg (by omega) q
        omega
    exact Int.bmod_eq_of_le (by omega) (by omega)
  have hL0' : 0 ≤ (a : Int) + ((N : Int) - 1) * t.toInt := by
    rw [← hval]
    exact Int.not_lt.mp (fun q => hL0 (Int64.lt_iff_toInt_lt.mpr q))
  have hL1' : (a : Int) + ((N : Int) - 1) * t.toInt < E := by
    rw [← hval]
    have := Int.not_le.mp (fun q => hL1 (Int64.le_iff_toInt_le.mpr q))
    rwa [Int32.toInt_toInt64, nI_toInt hE] at this
  exact ⟨hL0', hL1'⟩
/-- a part has no more items than the axis -/
theorem sv_part_le {E : Nat} {s t n : Int32} (hE : E < 2 ^ 31) (h : ¬ sv_bad (nI E) s t n) : n.toNatClampNeg ≤ E := by
  have ht : ¬ t.toInt = 0 := fun q => h (Or.inr (Or.inl (Int32.toInt_inj.mp q)))
  have hn0 : ¬ n < 0 := fun q => h (Or.inl q)
  obtain ⟨N, hN, rfl⟩ := nI_of hn0
  rw [nI_clamp hN]
  rcases Nat.eq_zero_or_pos N with h0 | h0
  · omega
  have hpos : (0 : Int32) < nI N := Int32.not_le.mp (nI_nle (by omega) hN)
  have hb : ¬ (s < 0 ∨ nI E ≤ s ∨ s.toInt64 + ((nI N).toInt64 - 1) * t.toInt64 < 0 ∨ (nI E).toInt64 ≤ s.toInt64 + ((nI N).toInt64 - 1) * t.toInt64) := fun q => h (Or.inr (Or.inr ⟨hpos, q⟩))
  obtain ⟨a, ha, rfl⟩ := nI_of (fun q => hb (Or.inl q))
  have haE : a < E := Nat.lt_of_not_le (fun q => hb (Or.inr (Or.inl (nI_le q (by omega)))))
  obtain ⟨hL0, hL1⟩ := sv_last (E := E) hE hN h0 ha (fun q => hb (Or.inr (Or.inr (Or.inl q)))) (fun q => hb (Or.inr (Or.inr (Or.inr q))))
  rcases (show t.toInt < 0 ∨ 0 < t.toInt by omega) with q | q
  · have : ((N : Int) - 1) * t.toInt ≤ ((N : Int) - 1) * (-1) := Int.mul_le_mul_of_nonneg_left (by omega) (by omega)
    omega
  · have : ((N : Int) - 1) * 1 ≤ ((N : Int) - 1) * t.toInt := Int.mul_le_mul_of_nonneg_left (by omega) (by omega)
    omega
set_option maxHeartbeats 4000000 in
set_option maxRecDepth 100000 in
/-- M_store -/
theorem e_store {g : am_G} {d : Nat} {S : am_S} {T : sv_T} {th : Int32} {na : Nat} {ne nw rd : Nat → Int64} {mt : Nat → Int32} (hM : sv_N g S.1 T th na ne nw rd mt) {ln n : Int32} : am_W g (d + 2) mm_M_store (0, am_ent [.ref (g.2.2.1 + 6), .int ln, .int n] 3, []) S (sv_E g S (q_store T ln n) (sv_cd 5 6 9)) := by
  obtain ⟨fl, fz, fN, fS, fa, fx, fe, fs, ⟨m0, m1, m2, m3, m4, m5, m6, m7, m8, m9, m10, m11, m12⟩, ⟨t1, t2, t3⟩, hw⟩ := id hM
  have h80 := hw.2.1
  have h12 := hw.1
  show am_W g (d + 2) mm_M_store (0, [some (.ref (g.2.2.1 + 6)), some (.int ln), some (.int n)], []) S _
  refine am_aloadn d_M_store_0 rfl ?_
  refine am_cut (F := (24, [some (.ref (g.2.2.1 + 6)), some (.int ln), some (.int n)], [.int (sv_if ((0 ≤ ln ∧ ln ≤ 3) ∧ 0 ≤ n ∧ n ≤ 300) 1 0), .ref (g.2.2.1 + 6)])) ?_ (fun key => ?_)
  · skip
    refine am_cut (F := (47, [some (.ref (g.2.2.1 + 6)), some (.int ln), some (.int n)], [.int (sv_if (T.ns < 12 ∧ T.nv < 80) 1 0), .int (sv_if ((0 ≤ ln ∧ ln ≤ 3) ∧ 0 ≤ n ∧ n ≤ 300) 1 0), .ref (g.2.2.1 + 6)])) ?_ (fun key => ?_)
    · skip
      refine am_cpsV [.int (sv_if ((0 ≤ ln ∧ ln ≤ 3) ∧ 0 ≤ n ∧ n ≤ 300) 1 0), .int (sv_if (T.ns < 12 ∧ T.nv < 80) 1 0)] [] d_M_store_47 cV_M_90 rfl m0 rfl rfl (Nat.le_of_ble_eq_true rfl) (Nat.le_of_ble_eq_true rfl) (m_goesOf hM (fun b1 S1 hN1 hf1 => ?_) (fun b1 b2 S1 hN1 hf1 => ?_) (fun b1 b2 S1 hN1 hf1 => ?_))
      · show am_W g (d + 2) mm_M_store (50, [some (.ref (g.2.2.1 + 6)), some (.int ln), some (.int n)], [.int 0]) S1 _
        refine am_ifne (tgt := 55) d_M_store_50 (by decide) (fun hz => ?_) (fun hz => ?_)
        · exact absurd rfl hz
        · refine am_iconst 0 d_M_store_53 (by decide) ?_
          rw [q_store, if_neg (sv_b0 b1)]
          exact am_iret d_M_store_54 rfl (sv_E.no hN1 hf1 (by decide))
      · show am_W g (d + 2) mm_M_store (50, [some (.ref (g.2.2.1 + 6)), some (.int ln), some (.int n)], [.int 0]) S1 _
        refine am_ifne (tgt := 55) d_M_store_50 (by decide) (fun hz => ?_) (fun hz => ?_)
        · exact absurd rfl hz
        · refine am_iconst 0 d_M_store_53 (by decide) ?_
          rw [q_store, if_pos (sv_b1 b1), if_neg (sv_b0 b2)]
          exact am_iret d_M_store_54 rfl (sv_E.no hN1 hf1 (by decide))
      · skip
        show am_W g (d + 2) mm_M_store (50, [some (.ref (g.2.2.1 + 6)), some (.int ln), some (.int n)], [.int 1]) S1 _
        refine am_ifne (tgt := 55) d_M_store_50 (by decide) (fun hz => ?_) (fun hz => ?_)
        · skip
          have hC := sv_b1 b1
          have hD := sv_b1 b2
          obtain ⟨N, hN0, rfl⟩ := nI_of (Int32.not_lt.mpr hC.2.1)
          have hN : N ≤ 300 := (nI_leI (b := 300) hN0 (by decide)).mp hC.2.2
          rw [q_store, if_pos hC, if_pos hD, nI_clamp hN0]
          obtain ⟨flb, fzb, fNb, fSb, fab, fxb, feb, fsb, ⟨m0b, m1b, m2b, m3b, m4b, m5b, m6b, m7b, m8b, m9b, m10b, m11b, m12b⟩, ⟨t1b, t2b, t3b⟩, hwb⟩ := id hN1
          refine am_aloadn d_M_store_55 rfl ?_
          refine am_iconst 0 d_M_store_56 (by decide) ?_
          show am_W _ _ _ (_, _, [.int (nI 0), _]) _ _
          refine am_put d_M_store_57 fp_M_59 m0b rfl rfl (Nat.le_of_ble_eq_true rfl) ?_
          obtain ⟨S_6, eS_6⟩ : ∃ z : am_S, z = (am_up S1.1 (g.2.2.1 + 6) (.inr (3, [.int 0, .int (nI T.ns), .ref (g.2.2.1 + 7), .ref (g.2.2.1 + 8), .ref (g.2.2.1 + 9), .int (nI T.nv), .ref (g.2.2.1 + 10), .ref (g.2.2.1 + 11), .ref (g.2.2.1 + 12), .ref (g.2.2.1 + 13), .ref (g.2.2.1 + 14), .ref (g.2.2.1 + 15), .ref (g.2.2.1 + 16), .int (nI 0), .ref (g.2.2.1 + 17), .ref (g.2.2.1 + 18)])), S1.2) := ⟨_, rfl⟩
          change am_W _ _ _ _ (am_up S1.1 (g.2.2.1 + 6) (.inr (3, [.int 0, .int (nI T.ns), .ref (g.2.2.1 + 7), .ref (g.2.2.1 + 8), .ref (g.2.2.1 + 9), .int (nI T.nv), .ref (g.2.2.1 + 10), .ref (g.2.2.1 + 11), .ref (g.2.2.1 + 12), .ref (g.2.2.1 + 13), .ref (g.2.2.1 + 14), .ref (g.2.2.1 + 15), .ref (g.2.2.1 + 16), .int (nI 0), .ref (g.2.2.1 + 17), .ref (g.2.2.1 + 18)])), S1.2) _
          rw [← eS_6]
          have h_7 : S_6.1 (g.2.2.1 + 7) = some (.inl (0, 12, .inl flb)) := by rw [eS_6]; exact (am_up_n (by omega)).trans m1b
          have h_8 : S_6.1 (g.2.2.1 + 8) = some (.inl (0, 12, .inl fzb)) := by rw [eS_6]; exact (am_up_n (by omega)).trans m2b
          have h_9 : S_6.1 (g.2.2.1 + 9) = some (.inl (1, 3600, .inr (.inl fNb))) := by rw [eS_6]; exact (am_up_n (by omega)).trans m3b
          have h_10 : S_6.1 (g.2.2.1 + 10) = some (.inl (0, 80, .inl fSb)) := by rw [eS_6]; exact (am_up_n (by omega)).trans m4b
          have h_11 : S_6.1 (g.2.2.1 + 11) = some (.inl (0, 80, .inl fab)) := by rw [eS_6]; exact (am_up_n (by omega)).trans m5b
          have h_12 : S_6.1 (g.2.2.1 + 12) = some (.inl (0, 80, .inl fxb)) := by rw [eS_6]; exact (am_up_n (by omega)).trans m6b
          have h_13 : S_6.1 (g.2.2.1 + 13) = some (.inl (0, 320, .inl feb)) := by rw [eS_6]; exact (am_up_n (by omega)).trans m7b
          have h_14 : S_6.1 (g.2.2.1 + 14) = some (.inl (0, 320, .inl fsb)) := by rw [eS_6]; exact (am_up_n (by omega)).trans m8b
          have h_15 : S_6.1 (g.2.2.1 + 15) = some (.inl (1, 5, .inr (.inl ne))) := by rw [eS_6]; exact (am_up_n (by omega)).trans m9b
          have h_16 : S_6.1 (g.2.2.1 + 16) = some (.inl (1, 5, .inr (.inl nw))) := by rw [eS_6]; exact (am_up_n (by omega)).trans m10b
          have h_17 : S_6.1 (g.2.2.1 + 17) = some (.inl (1, 3000, .inr (.inl rd))) := by rw [eS_6]; exact (am_up_n (by omega)).trans m11b
          have h_18 : S_6.1 (g.2.2.1 + 18) = some (.inl (2, 300, .inl mt)) := by rw [eS_6]; exact (am_up_n (by omega)).trans m12b
          have hf_19 : sv_MF g S S_6 := by rw [eS_6]; exact hf1.u (by omega) (by omega)
          have h_20 : S_6.1 (g.2.2.1 + 6) = some (.inr (3, [.int 0, .int (nI T.ns), .ref (g.2.2.1 + 7), .ref (g.2.2.1 + 8), .ref (g.2.2.1 + 9), .int (nI T.nv), .ref (g.2.2.1 + 10), .ref (g.2.2.1 + 11), .ref (g.2.2.1 + 12), .ref (g.2.2.1 + 13), .ref (g.2.2.1 + 14), .ref (g.2.2.1 + 15), .ref (g.2.2.1 + 16), .int (nI 0), .ref (g.2.2.1 + 17), .ref (g.2.2.1 + 18)])) := by rw [eS_6]; exact am_up_s
          have hnS_6 : S_6.2.1 = S1.2.1 := by rw [eS_6]
          have hzS_6 : S_6.2.2 = S1.2.2 := by rw [eS_6]
          have hN2 : sv_N g S_6.1 T 0 0 ne nw rd mt := ⟨flb, fzb, fNb, fSb, fab, fxb, feb, fsb, ⟨h_20, h_7, h_8, h_9, h_10, h_11, h_12, h_13, h_14, h_15, h_16, h_17, h_18⟩, ⟨t1b, t2b, t3b⟩, hwb⟩
          refine am_aloadn d_M_store_60 rfl ?_
          refine am_iloadn d_M_store_61 rfl ?_
          refine am_i2l d_M_store_62 ?_
          refine am_tl (b := lN N) (nI_l hN0) ?_
          refine am_lconst 1 d_M_store_63 (by decide) ?_
          refine am_cpsV [.long (lN N), .long 1] [] d_M_store_64 cV_M_94 rfl h_20 rfl rfl (Nat.le_of_ble_eq_true rfl) (Nat.le_of_ble_eq_true rfl) (m_more hN2 (by decide) (fun S3 hN3 hf3 => ?_))
          show am_W g (d + 2) mm_M_store (67, [some (.ref (g.2.2.1 + 6)), some (.int ln), some (.int (nI N))], []) S3 _
          obtain ⟨flc, fzc, fNc, fSc, fac, fxc, fec, fsc, ⟨m0c, m1c, m2c, m3c, m4c, m5c, m6c, m7c, m8c, m9c, m10c, m11c, m12c⟩, ⟨t1c, t2c, t3c⟩, hwc⟩ := id hN3
          refine am_aloadn d_M_store_67 rfl ?_
          refine am_aloadn d_M_store_68 rfl ?_
          refine am_iloadn d_M_store_69 rfl ?_
          refine am_iloadn d_M_store_70 rfl ?_
          refine am_cpsV [.int ln, .int (nI N)] [.ref (g.2.2.1 + 6)] d_M_store_71 cV_M_98 rfl m0c rfl rfl (Nat.le_of_ble_eq_true rfl) (Nat.le_of_ble_eq_true rfl) (m_addStore hN3 (ln := ln) (sz := N) hD.1 hN (fun S4 hN4 hf4 => ?_))
          show am_W g (d + 2) mm_M_store (74, [some (.ref (g.2.2.1 + 6)), some (.int ln), some (.int (nI N))], [.int (nI T.ns), .ref (g.2.2.1 + 6)]) S4 _
          obtain ⟨fld, fzd, fNd, fSd, fad, fxd, fed, fsd, ⟨m0d, m1d, m2d, m3d, m4d, m5d, m6d, m7d, m8d, m9d, m10d, m11d, m12d⟩, ⟨t1d, t2d, t3d⟩, hwd⟩ := id hN4
          refine am_lconst 0 d_M_store_74 (by decide) ?_
          have hEn : ∀ k, k < 1 → (vp_updL ne 0 (lN N)) k = lN N := fun k hk => by rw [show k = 0 by omega, pk_uLs]
          have hSn : ∀ k, k < 1 → ((vp_updL nw 0 1) k).toInt32 = 1 := fun k hk => by rw [show k = 0 by omega, pk_uLs]; rfl
          have hinn : sv_in ((T.ns, 0, 1, fun _ => N, fun _ => 1) : sv_A) ((T.addS ln N (fun _ => 0)).sz T.ns) := fun i hi => by
            have hi : i < 1 * N := hi
            show vp_in (0 + (nI (i % N) * 1 + 0)) (if T.ns = T.ns then N else T.sz T.ns)
            rw [if_pos rfl, Nat.mod_eq_of_lt (by omega), Int32.mul_one, Int32.add_zero, Int32.zero_add]
            exact vp_in_nI (by omega) (by omega)
          refine am_cpsV [.int (nI T.ns), .long 0] [] d_M_store_75 cV_M_101 rfl m0d rfl rfl (Nat.le_of_ble_eq_true rfl) (Nat.le_of_ble_eq_true rfl) (m_add hN4 (a := (T.ns, 0, 1, fun _ => N, fun _ => 1)) rfl (show 1 ≤ 4 by decide) hEn hSn (fun k hk => by show N < 2 ^ 31; omega) (show 1 * N ≤ 3000 by omega) (show T.ns < T.ns + 1 by omega) hinn (show T.nv < 80 from hD.2) rfl (fun S9 hN9 hf9 => ?_))
          show am_W g (d + 2) mm_M_store (78, [some (.ref (g.2.2.1 + 6)), some (.int ln), some (.int (nI N))], [.int (nI T.nv)]) S9 _
          rw [sv_kp, if_pos ⟨(show T.nv < 80 from hD.2), (show 1 * N ≤ 3000 by omega)⟩]
          exact am_iret d_M_store_78 rfl (sv_E.ok hN9 ((((hf_19).tr hf3).tr hf4).tr hf9))
        · exact absurd hz (by decide)
    · refine am_aloadn d_M_store_24 rfl ?_
      refine am_get d_M_store_25 fl_M_84 m0 rfl ?_
      refine am_bipush 12 d_M_store_28 (by decide) ?_
      refine am_icge (tgt := 46) d_M_store_30 (by decide) (fun hb_4 => ?_) (fun hb_4 => ?_)
      · refine am_iconst 0 d_M_store_46 (by decide) ?_
        rw [sv_if_n (c := T.ns < 12 ∧ T.nv < 80) (fun q => nI_ge (b := 12) q.1 (by decide) hb_4)] at key
        exact key
      · refine am_aloadn d_M_store_33 rfl ?_
        refine am_get d_M_store_34 fl_M_52 m0 rfl ?_
        refine am_bipush 80 d_M_store_37 (by decide) ?_
        refine am_icge (tgt := 46) d_M_store_39 (by decide) (fun hb_5 => ?_) (fun hb_5 => ?_)
        · refine am_iconst 0 d_M_store_46 (by decide) ?_
          rw [sv_if_n (c := T.ns < 12 ∧ T.nv < 80) (fun q => nI_ge (b := 80) q.2 (by decide) hb_5)] at key
          exact key
        · refine am_iconst 1 d_M_store_42 (by decide) ?_
          refine am_goto (tgt := 47) d_M_store_43 (by decide) ?_
          rw [sv_if_y (c := T.ns < 12 ∧ T.nv < 80) ⟨Nat.lt_of_not_le (fun z => hb_4 (nI_le (a := 12) z (by omega))), Nat.lt_of_not_le (fun z => hb_5 (nI_le (a := 80) z (by omega)))⟩] at key
          exact key
  · refine am_iloadn d_M_store_1 rfl ?_
    refine am_cpsS [.int ln] [.ref (g.2.2.1 + 6)] d_M_store_2 cS_M_87 rfl rfl rfl (Nat.le_of_ble_eq_true rfl) (Nat.le_of_ble_eq_true rfl) (m_isLane ?_)
    show am_W g (d + 2) mm_M_store (5, [some (.ref (g.2.2.1 + 6)), some (.int ln), some (.int n)], [.int (sv_if (0 ≤ ln ∧ ln ≤ 3) 1 0), .ref (g.2.2.1 + 6)]) S _
    refine am_ifeq (tgt := 23) d_M_store_5 (by decide) (fun hb_1 => ?_) (fun hb_1 => ?_)
    · refine am_iconst 0 d_M_store_23 (by decide) ?_
      rw [sv_if_n (c := (0 ≤ ln ∧ ln ≤ 3) ∧ 0 ≤ n ∧ n ≤ 300) (fun q => sv_b0 hb_1 q.1)] at key
      exact key
    · refine am_iloadn d_M_store_8 rfl ?_
      refine am_iflt (tgt := 23) d_M_store_9 (by decide) (fun hb_2 => ?_) (fun hb_2 => ?_)
      · refine am_iconst 0 d_M_store_23 (by decide) ?_
        rw [sv_if_n (c := (0 ≤ ln ∧ ln ≤ 3) ∧ 0 ≤ n ∧ n ≤ 300) (fun q => Int32.not_lt.mpr q.2.1 hb_2)] at key
        exact key
      · refine am_iloadn d_M_store_12 rfl ?_
        refine am_sipush 300 d_M_store_13 (by decide) ?_
        refine am_icgt (tgt := 23) d_M_store_16 (by decide) (fun hb_3 => ?_) (fun hb_3 => ?_)
        · refine am_iconst 0 d_M_store_23 (by decide) ?_
          rw [sv_if_n (c := (0 ≤ ln ∧ ln ≤ 3) ∧ 0 ≤ n ∧ n ≤ 300) (fun q => Int32.not_lt.mpr q.2.2 hb_3)] at key
          exact key
        · refine am_iconst 1 d_M_store_19 (by decide) ?_
          refine am_goto (tgt := 24) d_M_store_20 (by decide) ?_
          rw [sv_if_y (c := (0 ≤ ln ∧ ln ≤ 3) ∧ 0 ≤ n ∧ n ≤ 300) ⟨sv_b1 hb_1, Int32.not_lt.mp hb_2, Int32.not_lt.mp hb_3⟩] at key
          exact key
set_option maxHeartbeats 4000000 in
set_option maxRecDepth 100000 in
/-- M_slice -/
theorem e_slice {g : am_G} {d : Nat} {S : am_S} {T : sv_T} {th : Int32} {na : Nat} {ne nw rd : Nat → Int64} {mt : Nat → Int32} (hM : sv_N g S.1 T th na ne nw rd mt) {v x s t n : Int32} : am_W g (d + 2) mm_M_slice (0, am_ent [.ref (g.2.2.1 + 6), .int v, .int x, .int s, .int t, .int n] 12, []) S (sv_E g S (q_slice T v x s t n) (sv_cd 4 5 6)) := by
  obtain ⟨fl, fz, fN, fS, fa, fx, fe, fs, ⟨m0, m1, m2, m3, m4, m5, m6, m7, m8, m9, m10, m11, m12⟩, ⟨t1, t2, t3⟩, hw⟩ := id hM
  have h80 := hw.2.1
  have h12 := hw.1
  show am_W g (d + 2) mm_M_slice (0, [some (.ref (g.2.2.1 + 6)), some (.int v), some (.int x), some (.int s), some (.int t), some (.int n), none, none, none, none, none, none], []) S _
  refine am_aloadn d_M_slice_0 rfl ?_
  refine am_iloadn d_M_slice_1 rfl ?_
  refine am_iloadn d_M_slice_2 rfl ?_
  refine am_cpsV [.int v, .int x] [] d_M_slice_3 cV_M_105 rfl m0 rfl rfl (Nat.le_of_ble_eq_true rfl) (Nat.le_of_ble_eq_true rfl) (m_isAxis hM ?_)
  show am_W g (d + 2) mm_M_slice (6, [some (.ref (g.2.2.1 + 6)), some (.int v), some (.int x), some (.int s), some (.int t), some (.int n), none, none, none, none, none, none], [.int (sv_if (sv_ia T v x) 1 0)]) S _
  refine am_istore (L' := [some (.ref (g.2.2.1 + 6)), some (.int v), some (.int x), some (.int s), some (.int t), some (.int n), some (.int (sv_if (sv_ia T v x) 1 0)), none, none, none, none, none]) d_M_slice_6 (by decide) rfl rfl ?_
  refine am_cut (F := (101, [some (.ref (g.2.2.1 + 6)), some (.int v), some (.int x), some (.int s), some (.int t), some (.int n), some (.int (sv_if (sv_ia T v x) 1 0)), some (.int (sv_if (sv_ia T v x ∧ ¬ sv_bad (nI ((T.va v).ex x.toNatClampNeg)) s t n) 1 0)), none, none, none, none], [])) ?_ (fun key => ?_)
  · skip
    refine am_aloadn d_M_slice_101 rfl ?_
    refine am_iload d_M_slice_102 rfl ?_
    refine am_iload d_M_slice_104 rfl ?_
    refine am_cut (F := (120, [some (.ref (g.2.2.1 + 6)), some (.int v), some (.int x), some (.int s), some (.int t), some (.int n), some (.int (sv_if (sv_ia T v x) 1 0)), some (.int (sv_if (sv_ia T v x ∧ ¬ sv_bad (nI ((T.va v).ex x.toNatClampNeg)) s t n) 1 0)), none, none, none, none], [.int (sv_if (T.nv < 80) 1 0), .int (sv_if (sv_ia T v x ∧ ¬ sv_bad (nI ((T.va v).ex x.toNatClampNeg)) s t n) 1 0), .int (sv_if (sv_ia T v x) 1 0), .ref (g.2.2.1 + 6)])) ?_ (fun key => ?_)
    · skip
      refine am_cpsV [.int (sv_if (sv_ia T v x) 1 0), .int (sv_if (sv_ia T v x ∧ ¬ sv_bad (nI ((T.va v).ex x.toNatClampNeg)) s t n) 1 0), .int (sv_if (T.nv < 80) 1 0)] [] d_M_slice_120 cV_M_109 rfl m0 rfl rfl (Nat.le_of_ble_eq_true rfl) (Nat.le_of_ble_eq_true rfl) (m_goes hM (fun b1 S1 hN1 hf1 => ?_) (fun b1 b2 S1 hN1 hf1 => ?_) (fun b1 b2 b3 S1 hN1 hf1 => ?_) (fun b1 b2 b3 S1 hN1 hf1 => ?_))
      · show am_W g (d + 2) mm_M_slice (123, [some (.ref (g.2.2.1 + 6)), some (.int v), some (.int x), some (.int s), some (.int t), some (.int n), some (.int (sv_if (sv_ia T v x) 1 0)), some (.int (sv_if (sv_ia T v x ∧ ¬ sv_bad (nI ((T.va v).ex x.toNatClampNeg)) s t n) 1 0)), none, none, none, none], [.int 0]) S1 _
        refine am_ifne (tgt := 128) d_M_slice_123 (by decide) (fun hz => ?_) (fun hz => ?_)
        · exact absurd rfl hz
        · refine am_iconst 0 d_M_slice_126 (by decide) ?_
          rw [q_slice, sv_qva_no (sv_b0 b1)]
          exact am_iret d_M_slice_127 rfl (sv_E.no hN1 hf1 (by decide))
      · show am_W g (d + 2) mm_M_slice (123, [some (.ref (g.2.2.1 + 6)), some (.int v), some (.int x), some (.int s), some (.int t), some (.int n), some (.int (sv_if (sv_ia T v x) 1 0)), some (.int (sv_if (sv_ia T v x ∧ ¬ sv_bad (nI ((T.va v).ex x.toNatClampNeg)) s t n) 1 0)), none, none, none, none], [.int 0]) S1 _
        refine am_ifne (tgt := 128) d_M_slice_123 (by decide) (fun hz => ?_) (fun hz => ?_)
        · exact absurd rfl hz
        · refine am_iconst 0 d_M_slice_126 (by decide) ?_
          rw [q_slice_5 (sv_b1 b1) (sv_b0 b2)]
          exact am_iret d_M_slice_127 rfl (sv_E.no hN1 hf1 (by decide))
      · show am_W g (d + 2) mm_M_slice (123, [some (.ref (g.2.2.1 + 6)), some (.int v), some (.int x), some (.int s), some (.int t), some (.int n), some (.int (sv_if (sv_ia T v x) 1 0)), some (.int (sv_if (sv_ia T v x ∧ ¬ sv_bad (nI ((T.va v).ex x.toNatClampNeg)) s t n) 1 0)), none, none, none, none], [.int 0]) S1 _
        refine am_ifne (tgt := 128) d_M_slice_123 (by decide) (fun hz => ?_) (fun hz => ?_)
        · exact absurd rfl hz
        · refine am_iconst 0 d_M_slice_126 (by decide) ?_
          rw [q_slice_6 (sv_b1 b2) (sv_b0 b3)]
          exact am_iret d_M_slice_127 rfl (sv_E.no hN1 hf1 (by decide))
      · skip
        show am_W g (d + 2) mm_M_slice (123, [some (.ref (g.2.2.1 + 6)), some (.int v), some (.int x), some (.int s), some (.int t), some (.int n), some (.int (sv_if (sv_ia T v x) 1 0)), some (.int (sv_if (sv_ia T v x ∧ ¬ sv_bad (nI ((T.va v).ex x.toNatClampNeg)) s t n) 1 0)), none, none, none, none], [.int 1]) S1 _
        refine am_ifne (tgt := 128) d_M_slice_123 (by decide) (fun hz => ?_) (fun hz => ?_)
        · skip
          have hC := sv_b1 b2
          have hv8 := sv_b1 b3
          have hia := hC.1
          obtain ⟨j, k, hj, rfl, hk, rfl⟩ := sv_ia_of hia hw
          obtain ⟨w1, w2, w3, w4, w5, w6, w7⟩ := hw.2.2.2 j hj
          obtain ⟨v1, v2, v3, v4⟩ := t3 j hj
          have hok := hC.2
          rw [sv_va_j hj h80, nI_clamp (by omega)] at hok
          rw [q_slice, sv_qv_j hj h80, sv_qa_j hk w2, sv_if_n hok]
          have hn0 : ¬ n < 0 := fun z => hok (Or.inl z)
          obtain ⟨N, hN, hnN⟩ := nI_of hn0
          have hcl : n.toNatClampNeg = N := by rw [hnN, nI_clamp hN]
          obtain ⟨flb, fzb, fNb, fSb, fab, fxb, feb, fsb, ⟨m0b, m1b, m2b, m3b, m4b, m5b, m6b, m7b, m8b, m9b, m10b, m11b, m12b⟩, ⟨t1b, t2b, t3b⟩, hwb⟩ := id hN1
          refine am_aloadn d_M_slice_128 rfl ?_
          refine am_iloadn d_M_slice_129 rfl ?_
          refine am_iconst (-1) d_M_slice_130 (by decide) ?_
          refine am_iconst (-1) d_M_slice_131 (by decide) ?_
          refine am_cpsV [.int (nI j), .int (-1), .int (-1)] [] d_M_slice_132 cV_M_113 rfl m0b rfl rfl (Nat.le_of_ble_eq_true rfl) (Nat.le_of_ble_eq_true rfl) (m_take hN1 hj (b1 := -1) (b2 := -1) (fun S2 Ne Nw hN2 hf2 hI2 => ?_))
          show am_W g (d + 2) mm_M_slice (135, [some (.ref (g.2.2.1 + 6)), some (.int (nI j)), some (.int (nI k)), some (.int s), some (.int t), some (.int n), some (.int (sv_if (sv_ia T (nI j) (nI k)) 1 0)), some (.int (sv_if (sv_ia T (nI j) (nI k) ∧ ¬ sv_bad (nI ((T.va (nI j)).ex (nI k).toNatClampNeg)) s t n) 1 0)), none, none, none, none], []) S2 _
          have hI3 := sv_tk_none w2 hI2
          rw [sv_c2_none (by omega)] at hN2
          obtain ⟨flc, fzc, fNc, fSc, fac, fxc, fec, fsc, ⟨m0c, m1c, m2c, m3c, m4c, m5c, m6c, m7c, m8c, m9c, m10c, m11c, m12c⟩, ⟨t1c, t2c, t3c⟩, hwc⟩ := id hN2
          obtain ⟨u1, u2, u3, u4⟩ := t3c j hj
          have hf2x : sv_MF g S S2 := hf1.tr hf2
          refine am_aloadn d_M_slice_135 rfl ?_
          refine am_get d_M_slice_136 fl_M_38 m0c rfl ?_
          refine am_iloadn d_M_slice_139 rfl ?_
          refine am_laldN (t := 1) (k := k) d_M_slice_140 rfl m10c (by omega) (by omega) ?_
          refine am_tl (b := ((T.vw j).sp k).toInt64) (hI3 k hk).2 ?_
          refine am_lstore (L' := [some (.ref (g.2.2.1 + 6)), some (.int (nI j)), some (.int (nI k)), some (.int s), some (.int t), some (.int n), some (.int (sv_if (sv_ia T (nI j) (nI k)) 1 0)), some (.int (sv_if (sv_ia T (nI j) (nI k) ∧ ¬ sv_bad (nI ((T.va (nI j)).ex (nI k).toNatClampNeg)) s t n) 1 0)), some (.long (((T.vw j).sp k).toInt64)), none, none, none]) d_M_slice_141 (by decide) rfl rfl ?_
          refine am_aloadn d_M_slice_143 rfl ?_
          refine am_get d_M_slice_144 fl_M_35 m0c rfl ?_
          refine am_iloadn d_M_slice_147 rfl ?_
          refine am_iload d_M_slice_148 rfl ?_
          refine am_i2l d_M_slice_150 ?_
          refine am_tl (b := lN n.toNatClampNeg) (by rw [hcl, hnN]; exact nI_l hN) ?_
          refine am_lastN (t := 1) d_M_slice_151 rfl m9c (by omega) (by omega) ?_
          obtain ⟨S_2, eS_2⟩ : ∃ z : am_S, z = (am_up S2.1 (g.2.2.1 + 15) (.inl (1, 5, .inr (.inl (vp_updL Ne k (lN n.toNatClampNeg))))), S2.2) := ⟨_, rfl⟩
          change am_W _ _ _ _ (am_up S2.1 (g.2.2.1 + 15) (.inl (1, 5, .inr (.inl (vp_updL Ne k (lN n.toNatClampNeg))))), S2.2) _
          rw [← eS_2]
          have h_3 : S_2.1 (g.2.2.1 + 6) = some (.inr (3, [.int 0, .int (nI T.ns), .ref (g.2.2.1 + 7), .ref (g.2.2.1 + 8), .ref (g.2.2.1 + 9), .int (nI T.nv), .ref (g.2.2.1 + 10), .ref (g.2.2.1 + 11), .ref (g.2.2.1 + 12), .ref (g.2.2.1 + 13), .ref (g.2.2.1 + 14), .ref (g.2.2.1 + 15), .ref (g.2.2.1 + 16), .int (nI ((T.vw j).ax)), .ref (g.2.2.1 + 17), .ref (g.2.2.1 + 18)])) := by rw [eS_2]; exact (am_up_n (by omega)).trans m0c
          have h_4 : S_2.1 (g.2.2.1 + 7) = some (.inl (0, 12, .inl flc)) := by rw [eS_2]; exact (am_up_n (by omega)).trans m1c
          have h_5 : S_2.1 (g.2.2.1 + 8) = some (.inl (0, 12, .inl fzc)) := by rw [eS_2]; exact (am_up_n (by omega)).trans m2c
          have h_6 : S_2.1 (g.2.2.1 + 9) = some (.inl (1, 3600, .inr (.inl fNc))) := by rw [eS_2]; exact (am_up_n (by omega)).trans m3c
          have h_7 : S_2.1 (g.2.2.1 + 10) = some (.inl (0, 80, .inl fSc)) := by rw [eS_2]; exact (am_up_n (by omega)).trans m4c
          have h_8 : S_2.1 (g.2.2.1 + 11) = some (.inl (0, 80, .inl fac)) := by rw [eS_2]; exact (am_up_n (by omega)).trans m5c
          have h_9 : S_2.1 (g.2.2.1 + 12) = some (.inl (0, 80, .inl fxc)) := by rw [eS_2]; exact (am_up_n (by omega)).trans m6c
          have h_10 : S_2.1 (g.2.2.1 + 13) = some (.inl (0, 320, .inl fec)) := by rw [eS_2]; exact (am_up_n (by omega)).trans m7c
          have h_11 : S_2.1 (g.2.2.1 + 14) = some (.inl (0, 320, .inl fsc)) := by rw [eS_2]; exact (am_up_n (by omega)).trans m8c
          have h_12 : S_2.1 (g.2.2.1 + 16) = some (.inl (1, 5, .inr (.inl Nw))) := by rw [eS_2]; exact (am_up_n (by omega)).trans m10c
          have h_13 : S_2.1 (g.2.2.1 + 17) = some (.inl (1, 3000, .inr (.inl rd))) := by rw [eS_2]; exact (am_up_n (by omega)).trans m11c
          have h_14 : S_2.1 (g.2.2.1 + 18) = some (.inl (2, 300, .inl mt)) := by rw [eS_2]; exact (am_up_n (by omega)).trans m12c
          have hf_15 : sv_MF g S S_2 := by rw [eS_2]; exact hf2x.u (by omega) (by omega)
          have h_16 : S_2.1 (g.2.2.1 + 15) = some (.inl (1, 5, .inr (.inl (vp_updL Ne k (lN n.toNatClampNeg))))) := by rw [eS_2]; exact am_up_s
          have hnS_2 : S_2.2.1 = S2.2.1 := by rw [eS_2]
          have hzS_2 : S_2.2.2 = S2.2.2 := by rw [eS_2]
          refine am_aloadn d_M_slice_152 rfl ?_
          refine am_get d_M_slice_153 fl_M_38 h_3 rfl ?_
          refine am_iloadn d_M_slice_156 rfl ?_
          refine am_lload d_M_slice_157 rfl ?_
          refine am_iload d_M_slice_159 rfl ?_
          refine am_i2l d_M_slice_161 ?_
          refine am_lmul d_M_slice_162 ?_
          refine am_lastN (t := 1) d_M_slice_163 rfl h_12 (by omega) (by omega) ?_
          obtain ⟨S_17, eS_17⟩ : ∃ z : am_S, z = (am_up S_2.1 (g.2.2.1 + 16) (.inl (1, 5, .inr (.inl (vp_updL Nw k ((((T.vw j).sp k).toInt64) * t.toInt64))))), S_2.2) := ⟨_, rfl⟩
          change am_W _ _ _ _ (am_up S_2.1 (g.2.2.1 + 16) (.inl (1, 5, .inr (.inl (vp_updL Nw k ((((T.vw j).sp k).toInt64) * t.toInt64))))), S_2.2) _
          rw [← eS_17]
          have h_18 : S_17.1 (g.2.2.1 + 6) = some (.inr (3, [.int 0, .int (nI T.ns), .ref (g.2.2.1 + 7), .ref (g.2.2.1 + 8), .ref (g.2.2.1 + 9), .int (nI T.nv), .ref (g.2.2.1 + 10), .ref (g.2.2.1 + 11), .ref (g.2.2.1 + 12), .ref (g.2.2.1 + 13), .ref (g.2.2.1 + 14), .ref (g.2.2.1 + 15), .ref (g.2.2.1 + 16), .int (nI ((T.vw j).ax)), .ref (g.2.2.1 + 17), .ref (g.2.2.1 + 18)])) := by rw [eS_17]; exact (am_up_n (by omega)).trans h_3
          have h_19 : S_17.1 (g.2.2.1 + 7) = some (.inl (0, 12, .inl flc)) := by rw [eS_17]; exact (am_up_n (by omega)).trans h_4
          have h_20 : S_17.1 (g.2.2.1 + 8) = some (.inl (0, 12, .inl fzc)) := by rw [eS_17]; exact (am_up_n (by omega)).trans h_5
          have h_21 : S_17.1 (g.2.2.1 + 9) = some (.inl (1, 3600, .inr (.inl fNc))) := by rw [eS_17]; exact (am_up_n (by omega)).trans h_6
          have h_22 : S_17.1 (g.2.2.1 + 10) = some (.inl (0, 80, .inl fSc)) := by rw [eS_17]; exact (am_up_n (by omega)).trans h_7
          have h_23 : S_17.1 (g.2.2.1 + 11) = some (.inl (0, 80, .inl fac)) := by rw [eS_17]; exact (am_up_n (by omega)).trans h_8
          have h_24 : S_17.1 (g.2.2.1 + 12) = some (.inl (0, 80, .inl fxc)) := by rw [eS_17]; exact (am_up_n (by omega)).trans h_9
          have h_25 : S_17.1 (g.2.2.1 + 13) = some (.inl (0, 320, .inl fec)) := by rw [eS_17]; exact (am_up_n (by omega)).trans h_10
          have h_26 : S_17.1 (g.2.2.1 + 14) = some (.inl (0, 320, .inl fsc)) := by rw [eS_17]; exact (am_up_n (by omega)).trans h_11
          have h_27 : S_17.1 (g.2.2.1 + 15) = some (.inl (1, 5, .inr (.inl (vp_updL Ne k (lN n.toNatClampNeg))))) := by rw [eS_17]; exact (am_up_n (by omega)).trans h_16
          have h_28 : S_17.1 (g.2.2.1 + 17) = some (.inl (1, 3000, .inr (.inl rd))) := by rw [eS_17]; exact (am_up_n (by omega)).trans h_13
          have h_29 : S_17.1 (g.2.2.1 + 18) = some (.inl (2, 300, .inl mt)) := by rw [eS_17]; exact (am_up_n (by omega)).trans h_14
          have hf_30 : sv_MF g S S_17 := by rw [eS_17]; exact hf_15.u (by omega) (by omega)
          have h_31 : S_17.1 (g.2.2.1 + 16) = some (.inl (1, 5, .inr (.inl (vp_updL Nw k ((((T.vw j).sp k).toInt64) * t.toInt64))))) := by rw [eS_17]; exact am_up_s
          have hnS_17 : S_17.2.1 = S_2.2.1 := by rw [eS_17]
          have hzS_17 : S_17.2.2 = S_2.2.2 := by rw [eS_17]
          have hN3 : sv_N g S_17.1 T 0 ((T.vw j).ax) (vp_updL Ne k (lN n.toNatClampNeg)) (vp_updL Nw k (((T.vw j).sp k).toInt64 * t.toInt64)) rd mt := ⟨flc, fzc, fNc, fSc, fac, fxc, fec, fsc, ⟨h_18, h_19, h_20, h_21, h_22, h_23, h_24, h_25, h_26, h_27, h_31, h_28, h_29⟩, ⟨t1c, t2c, t3c⟩, hwc⟩
          refine am_aloadn d_M_slice_164 rfl ?_
          refine am_aloadn d_M_slice_165 rfl ?_
          refine am_get d_M_slice_166 fl_M_20 h_18 rfl ?_
          refine am_iloadn d_M_slice_169 rfl ?_
          refine am_ialdN (t := 0) (k := j) d_M_slice_170 rfl h_22 (by omega) (by omega) ?_
          refine am_ti (b := nI (T.vw j).st) u1 ?_
          refine am_aloadn d_M_slice_171 rfl ?_
          refine am_get d_M_slice_172 fl_M_23 h_18 rfl ?_
          refine am_iloadn d_M_slice_175 rfl ?_
          refine am_ialdN (t := 0) (k := j) d_M_slice_176 rfl h_23 (by omega) (by omega) ?_
          refine am_ti (b := (T.vw j).sa) u2 ?_
          refine am_i2l d_M_slice_177 ?_
          refine am_lload d_M_slice_178 rfl ?_
          refine am_iloadn d_M_slice_180 rfl ?_
          refine am_i2l d_M_slice_181 ?_
          refine am_lmul d_M_slice_182 ?_
          refine am_ladd d_M_slice_183 ?_
          have hEn : ∀ i, i < (T.vw j).ax → (vp_updL Ne k (lN n.toNatClampNeg)) i = lN (if i = k then n.toNatClampNeg else (T.vw j).ex i) := fun i hi => by
            by_cases e : i = k
            · rw [if_pos e, e, pk_uLs]
            · rw [if_neg e, pk_uLn e]; exact (hI3 i hi).1
          have hSn : ∀ i, i < (T.vw j).ax → ((vp_updL Nw k (((T.vw j).sp k).toInt64 * t.toInt64)) i).toInt32 = (if i = k then t * (T.vw j).sp k else (T.vw j).sp i) := fun i hi => by
            by_cases e : i = k
            · rw [if_pos e, e, pk_uLs, sv_li4, Int32.mul_comm]
            · rw [if_neg e, pk_uLn e, (hI3 i hi).2]; exact sv_li2 _
          have hOn : sv_ok (fun i => if i = k then n.toNatClampNeg else (T.vw j).ex i) (T.vw j).ax := fun i hi => by
            show (if i = k then _ else _) < _
            split
            · rw [hcl]; exact hN
            · exact w3 i hi
          have hpm : sv_pr (fun i => if i = k then n.toNatClampNeg else (T.vw j).ex i) (T.vw j).ax ≤ 3000 := Nat.le_trans (sv_pr_mono (fun i hi => by
            show (if i = k then _ else _) ≤ _
            split
            · rename_i e; rw [e]; exact sv_part_le (w3 k hk) hok
            · exact Nat.le_refl _)) w4
          refine am_cpsV [.int (nI (T.vw j).st), .long ((((T.vw j).sa).toInt64) + ((((T.vw j).sp k).toInt64) * s.toInt64))] [] d_M_slice_184 cV_M_101 rfl h_18 rfl rfl (Nat.le_of_ble_eq_true rfl) (Nat.le_of_ble_eq_true rfl) (m_add hN3 (a := ((T.vw j).st, (T.vw j).sa + s * (T.vw j).sp k, (T.vw j).ax, fun i => if i = k then n.toNatClampNeg else (T.vw j).ex i, fun i => if i = k then t * (T.vw j).sp k else (T.vw j).sp i)) rfl w2 hEn hSn hOn hpm w1 (sv_in_slice w7 hk w3 hok) hv8 (by rw [Int64.mul_comm]; exact sv_li _ _ _) (fun S9 hN9 hf9 => ?_))
          show am_W g (d + 2) mm_M_slice (187, [some (.ref (g.2.2.1 + 6)), some (.int (nI j)), some (.int (nI k)), some (.int s), some (.int t), some (.int n), some (.int (sv_if (sv_ia T (nI j) (nI k)) 1 0)), some (.int (sv_if (sv_ia T (nI j) (nI k) ∧ ¬ sv_bad (nI ((T.va (nI j)).ex (nI k).toNatClampNeg)) s t n) 1 0)), some (.long (((T.vw j).sp k).toInt64)), none, none, none], [.int (nI T.nv)]) S9 _
          rw [sv_kp, if_pos ⟨hv8, hpm⟩]
          exact am_iret d_M_slice_187 rfl (sv_E.ok hN9 ((hf_30).tr hf9))
        · exact absurd hz (by decide)
    · refine am_aloadn d_M_slice_106 rfl ?_
      refine am_get d_M_slice_107 fl_M_52 m0 rfl ?_
      refine am_bipush 80 d_M_slice_110 (by decide) ?_
      refine am_icge (tgt := 119) d_M_slice_112 (by decide) (fun hb_1 => ?_) (fun hb_1 => ?_)
      · refine am_iconst 0 d_M_slice_119 (by decide) ?_
        rw [sv_if_n (c := T.nv < 80) (fun q => nI_ge (b := 80) q (by decide) hb_1)] at key
        exact key
      · refine am_iconst 1 d_M_slice_115 (by decide) ?_
        refine am_goto (tgt := 120) d_M_slice_116 (by decide) ?_
        rw [sv_if_y (c := T.nv < 80) (Nat.lt_of_not_le (fun z => hb_1 (nI_le (a := 80) z (by omega))))] at key
        exact key
  · by_cases hia : sv_ia T v x
    · obtain ⟨j, k, hj, rfl, hk, rfl⟩ := sv_ia_of hia hw
      have hx4 := (hw.2.2.2 j hj).2.1
      have hOk := (hw.2.2.2 j hj).2.2.1 k hk
      obtain ⟨v1, v2, v3, v4⟩ := t3 j hj
      rw [sv_va_j hj h80, nI_clamp (show k < 2 ^ 31 by omega)] at key
      refine am_iload d_M_slice_8 rfl ?_
      refine am_ifeq (tgt := 27) d_M_slice_10 (by decide) (fun hz => ?_) (fun hz => ?_)
      · exact absurd hia (sv_b0 hz)
      · refine am_iload d_M_slice_13 rfl ?_
        refine am_iflt (tgt := 27) d_M_slice_15 (by decide) (fun hn => ?_) (fun hn => ?_)
        · refine am_iconst 0 d_M_slice_27 (by decide) ?_
          refine am_istore (L' := [some (.ref (g.2.2.1 + 6)), some (.int (nI j)), some (.int (nI k)), some (.int s), some (.int t), some (.int n), some (.int (sv_if (sv_ia T (nI j) (nI k)) 1 0)), some (.int 0), none, none, none, none]) d_M_slice_28 (by decide) rfl rfl ?_
          refine am_iload d_M_slice_30 rfl ?_
          refine am_ifeq (tgt := 101) d_M_slice_32 (by decide) (fun hy => ?_) (fun hy => ?_)
          · refine am_drop (L' := [some (.ref (g.2.2.1 + 6)), some (.int (nI j)), some (.int (nI k)), some (.int s), some (.int t), some (.int n), some (.int (sv_if (sv_ia T (nI j) (nI k)) 1 0)), some (.int 0), none, none, none, none]) (by simp [am_le]) ?_
            rw [sv_if_n (c := sv_ia T (nI j) (nI k) ∧ ¬ sv_bad (nI ((T.vw j).ex k)) s t n) (fun q => q.2 (Or.inl hn))] at key
            exact key
          · exact absurd rfl hy
        · refine am_iload d_M_slice_18 rfl ?_
          refine am_ifeq (tgt := 27) d_M_slice_20 (by decide) (fun ht => ?_) (fun ht => ?_)
          · refine am_iconst 0 d_M_slice_27 (by decide) ?_
            refine am_istore (L' := [some (.ref (g.2.2.1 + 6)), some (.int (nI j)), some (.int (nI k)), some (.int s), some (.int t), some (.int n), some (.int (sv_if (sv_ia T (nI j) (nI k)) 1 0)), some (.int 0), none, none, none, none]) d_M_slice_28 (by decide) rfl rfl ?_
            refine am_iload d_M_slice_30 rfl ?_
            refine am_ifeq (tgt := 101) d_M_slice_32 (by decide) (fun hy => ?_) (fun hy => ?_)
            · refine am_drop (L' := [some (.ref (g.2.2.1 + 6)), some (.int (nI j)), some (.int (nI k)), some (.int s), some (.int t), some (.int n), some (.int (sv_if (sv_ia T (nI j) (nI k)) 1 0)), some (.int 0), none, none, none, none]) (by simp [am_le]) ?_
              rw [sv_if_n (c := sv_ia T (nI j) (nI k) ∧ ¬ sv_bad (nI ((T.vw j).ex k)) s t n) (fun q => q.2 (Or.inr (Or.inl ht)))] at key
              exact key
            · exact absurd rfl hy
          · refine am_iconst 1 d_M_slice_23 (by decide) ?_
            refine am_goto (tgt := 28) d_M_slice_24 (by decide) ?_
            refine am_istore (L' := [some (.ref (g.2.2.1 + 6)), some (.int (nI j)), some (.int (nI k)), some (.int s), some (.int t), some (.int n), some (.int (sv_if (sv_ia T (nI j) (nI k)) 1 0)), some (.int 1), none, none, none, none]) d_M_slice_28 (by decide) rfl rfl ?_
            refine am_iload d_M_slice_30 rfl ?_
            refine am_ifeq (tgt := 101) d_M_slice_32 (by decide) (fun hy => ?_) (fun hy => ?_)
            · exact absurd hy (by decide)
            · refine am_iload d_M_slice_35 rfl ?_
              refine am_ifle (tgt := 101) d_M_slice_37 (by decide) (fun hp => ?_) (fun hp => ?_)
              · refine am_drop (L' := [some (.ref (g.2.2.1 + 6)), some (.int (nI j)), some (.int (nI k)), some (.int s), some (.int t), some (.int n), some (.int (sv_if (sv_ia T (nI j) (nI k)) 1 0)), some (.int 1), none, none, none, none]) (by simp [am_le]) ?_
                rw [sv_if_y (c := sv_ia T (nI j) (nI k) ∧ ¬ sv_bad (nI ((T.vw j).ex k)) s t n) (⟨hia, fun q => q.elim hn (fun q => q.elim ht (fun q => Int32.not_lt.mpr hp q.1))⟩)] at key
                exact key
              · have hpos := Int32.not_le.mp hp
                refine am_aloadn d_M_slice_40 rfl ?_
                refine am_get d_M_slice_41 fl_M_29 m0 rfl ?_
                refine am_iconst 4 d_M_slice_44 (by decide) ?_
                refine am_iloadn d_M_slice_45 rfl ?_
                refine am_imul d_M_slice_46 ?_
                refine am_iloadn d_M_slice_47 rfl ?_
                refine am_iadd d_M_slice_48 ?_
                refine am_ti (b := nI (4 * j + k)) (sv_4 j k) ?_
                refine am_ialdN (t := 0) (k := 4 * j + k) d_M_slice_49 rfl m7 (by omega) (by omega) ?_
                refine am_ti (b := nI ((T.vw j).ex k)) ((v4 k hk).1) ?_
                refine am_i2l d_M_slice_50 ?_
                refine am_lstore (L' := [some (.ref (g.2.2.1 + 6)), some (.int (nI j)), some (.int (nI k)), some (.int s), some (.int t), some (.int n), some (.int (sv_if (sv_ia T (nI j) (nI k)) 1 0)), some (.int 1), some (.long ((nI ((T.vw j).ex k)).toInt64)), none, none, none]) d_M_slice_51 (by decide) rfl rfl ?_
                refine am_iloadn d_M_slice_53 rfl ?_
                refine am_i2l d_M_slice_54 ?_
                refine am_iload d_M_slice_55 rfl ?_
                refine am_i2l d_M_slice_57 ?_
                refine am_lconst 1 d_M_slice_58 (by decide) ?_
                refine am_lsub d_M_slice_59 ?_
                refine am_iload d_M_slice_60 rfl ?_
                refine am_i2l d_M_slice_62 ?_
                refine am_lmul d_M_slice_63 ?_
                refine am_ladd d_M_slice_64 ?_
                refine am_lstore (L' := [some (.ref (g.2.2.1 + 6)), some (.int (nI j)), some (.int (nI k)), some (.int s), some (.int t), some (.int n), some (.int (sv_if (sv_ia T (nI j) (nI k)) 1 0)), some (.int 1), some (.long ((nI ((T.vw j).ex k)).toInt64)), none, some (.long (s.toInt64 + ((n.toInt64 - 1) * t.toInt64))), none]) d_M_slice_65 (by decide) rfl rfl ?_
                refine am_iloadn d_M_slice_67 rfl ?_
                refine am_iflt (tgt := 98) d_M_slice_68 (by decide) (fun h1 => ?_) (fun h1 => ?_)
                · refine am_iconst 0 d_M_slice_98 (by decide) ?_
                  refine am_istore (L' := [some (.ref (g.2.2.1 + 6)), some (.int (nI j)), some (.int (nI k)), some (.int s), some (.int t), some (.int n), some (.int (sv_if (sv_ia T (nI j) (nI k)) 1 0)), some (.int 0), some (.long ((nI ((T.vw j).ex k)).toInt64)), none, some (.long (s.toInt64 + ((n.toInt64 - 1) * t.toInt64))), none]) d_M_slice_99 (by decide) rfl rfl ?_
                  refine am_drop (L' := [some (.ref (g.2.2.1 + 6)), some (.int (nI j)), some (.int (nI k)), some (.int s), some (.int t), some (.int n), some (.int (sv_if (sv_ia T (nI j) (nI k)) 1 0)), some (.int 0), none, none, none, none]) (by simp [am_le]) ?_
                  rw [sv_if_n (c := sv_ia T (nI j) (nI k) ∧ ¬ sv_bad (nI ((T.vw j).ex k)) s t n) (fun q => q.2 (Or.inr (Or.inr ⟨hpos, Or.inl h1⟩)))] at key
                  exact key
                · refine am_iloadn d_M_slice_71 rfl ?_
                  refine am_i2l d_M_slice_72 ?_
                  refine am_lload d_M_slice_73 rfl ?_
                  refine am_lcmp d_M_slice_75 ?_
                  refine am_ifge (tgt := 98) d_M_slice_76 (by decide) (fun h2 => ?_) (fun h2 => ?_)
                  · refine am_iconst 0 d_M_slice_98 (by decide) ?_
                    refine am_istore (L' := [some (.ref (g.2.2.1 + 6)), some (.int (nI j)), some (.int (nI k)), some (.int s), some (.int t), some (.int n), some (.int (sv_if (sv_ia T (nI j) (nI k)) 1 0)), some (.int 0), some (.long ((nI ((T.vw j).ex k)).toInt64)), none, some (.long (s.toInt64 + ((n.toInt64 - 1) * t.toInt64))), none]) d_M_slice_99 (by decide) rfl rfl ?_
                    refine am_drop (L' := [some (.ref (g.2.2.1 + 6)), some (.int (nI j)), some (.int (nI k)), some (.int s), some (.int t), some (.int n), some (.int (sv_if (sv_ia T (nI j) (nI k)) 1 0)), some (.int 0), none, none, none, none]) (by simp [am_le]) ?_
                    rw [sv_if_n (c := sv_ia T (nI j) (nI k) ∧ ¬ sv_bad (nI ((T.vw j).ex k)) s t n) (fun q => q.2 (Or.inr (Or.inr ⟨hpos, Or.inr (Or.inl (sv_le64.mp (sv_lcg.mp h2)))⟩)))] at key
                    exact key
                  · refine am_lload d_M_slice_79 rfl ?_
                    refine am_lconst 0 d_M_slice_81 (by decide) ?_
                    refine am_lcmp d_M_slice_82 ?_
                    refine am_iflt (tgt := 98) d_M_slice_83 (by decide) (fun h3 => ?_) (fun h3 => ?_)
                    · refine am_iconst 0 d_M_slice_98 (by decide) ?_
                      refine am_istore (L' := [some (.ref (g.2.2.1 + 6)), some (.int (nI j)), some (.int (nI k)), some (.int s), some (.int t), some (.int n), some (.int (sv_if (sv_ia T (nI j) (nI k)) 1 0)), some (.int 0), some (.long ((nI ((T.vw j).ex k)).toInt64)), none, some (.long (s.toInt64 + ((n.toInt64 - 1) * t.toInt64))), none]) d_M_slice_99 (by decide) rfl rfl ?_
                      refine am_drop (L' := [some (.ref (g.2.2.1 + 6)), some (.int (nI j)), some (.int (nI k)), some (.int s), some (.int t), some (.int n), some (.int (sv_if (sv_ia T (nI j) (nI k)) 1 0)), some (.int 0), none, none, none, none]) (by simp [am_le]) ?_
                      rw [sv_if_n (c := sv_ia T (nI j) (nI k) ∧ ¬ sv_bad (nI ((T.vw j).ex k)) s t n) (fun q => q.2 (Or.inr (Or.inr ⟨hpos, Or.inr (Or.inr (Or.inl (sv_lcl.mp h3)))⟩)))] at key
                      exact key
                    · refine am_lload d_M_slice_86 rfl ?_
                      refine am_lload d_M_slice_88 rfl ?_
                      refine am_lcmp d_M_slice_90 ?_
                      refine am_ifge (tgt := 98) d_M_slice_91 (by decide) (fun h4 => ?_) (fun h4 => ?_)
                      · refine am_iconst 0 d_M_slice_98 (by decide) ?_
                        refine am_istore (L' := [some (.ref (g.2.2.1 + 6)), some (.int (nI j)), some (.int (nI k)), some (.int s), some (.int t), some (.int n), some (.int (sv_if (sv_ia T (nI j) (nI k)) 1 0)), some (.int 0), some (.long ((nI ((T.vw j).ex k)).toInt64)), none, some (.long (s.toInt64 + ((n.toInt64 - 1) * t.toInt64))), none]) d_M_slice_99 (by decide) rfl rfl ?_
                        refine am_drop (L' := [some (.ref (g.2.2.1 + 6)), some (.int (nI j)), some (.int (nI k)), some (.int s), some (.int t), some (.int n), some (.int (sv_if (sv_ia T (nI j) (nI k)) 1 0)), some (.int 0), none, none, none, none]) (by simp [am_le]) ?_
                        rw [sv_if_n (c := sv_ia T (nI j) (nI k) ∧ ¬ sv_bad (nI ((T.vw j).ex k)) s t n) (fun q => q.2 (Or.inr (Or.inr ⟨hpos, Or.inr (Or.inr (Or.inr (sv_lcg.mp h4)))⟩)))] at key
                        exact key
                      · refine am_iconst 1 d_M_slice_94 (by decide) ?_
                        refine am_goto (tgt := 99) d_M_slice_95 (by decide) ?_
                        refine am_istore (L' := [some (.ref (g.2.2.1 + 6)), some (.int (nI j)), some (.int (nI k)), some (.int s), some (.int t), some (.int n), some (.int (sv_if (sv_ia T (nI j) (nI k)) 1 0)), some (.int 1), some (.long ((nI ((T.vw j).ex k)).toInt64)), none, some (.long (s.toInt64 + ((n.toInt64 - 1) * t.toInt64))), none]) d_M_slice_99 (by decide) rfl rfl ?_
                        refine am_drop (L' := [some (.ref (g.2.2.1 + 6)), some (.int (nI j)), some (.int (nI k)), some (.int s), some (.int t), some (.int n), some (.int (sv_if (sv_ia T (nI j) (nI k)) 1 0)), some (.int 1), none, none, none, none]) (by simp [am_le]) ?_
                        rw [sv_if_y (c := sv_ia T (nI j) (nI k) ∧ ¬ sv_bad (nI ((T.vw j).ex k)) s t n) (⟨hia, fun q => q.elim hn (fun q => q.elim ht (fun q => q.2.elim h1 (fun q => q.elim (fun z => h2 (sv_lcg.mpr (sv_le64.mpr z))) (fun q => q.elim (fun z => h3 (sv_lcl.mpr z)) (fun z => h4 (sv_lcg.mpr z))))))⟩)] at key
                        exact key
    · refine am_iload d_M_slice_8 rfl ?_
      refine am_ifeq (tgt := 27) d_M_slice_10 (by decide) (fun hz => ?_) (fun hz => ?_)
      · refine am_iconst 0 d_M_slice_27 (by decide) ?_
        refine am_istore (L' := [some (.ref (g.2.2.1 + 6)), some (.int v), some (.int x), some (.int s), some (.int t), some (.int n), some (.int (sv_if (sv_ia T v x) 1 0)), some (.int 0), none, none, none, none]) d_M_slice_28 (by decide) rfl rfl ?_
        refine am_iload d_M_slice_30 rfl ?_
        refine am_ifeq (tgt := 101) d_M_slice_32 (by decide) (fun hy => ?_) (fun hy => ?_)
        · refine am_drop (L' := [some (.ref (g.2.2.1 + 6)), some (.int v), some (.int x), some (.int s), some (.int t), some (.int n), some (.int (sv_if (sv_ia T v x) 1 0)), some (.int 0), none, none, none, none]) (by simp [am_le]) ?_
          rw [sv_if_n (c := sv_ia T v x ∧ ¬ sv_bad (nI ((T.va v).ex x.toNatClampNeg)) s t n) (fun q => hia q.1)] at key
          exact key
        · exact absurd rfl hy
      · exact absurd (sv_b1 hz) hia
