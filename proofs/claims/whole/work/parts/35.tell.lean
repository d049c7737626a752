/-! the class's calls that only tell -/
theorem sv_fx_iff {a : sv_A} {fe fs : Nat → Int32} (hE : ∀ k, k < a.ax → fe k = nI (a.ex k)) (hS : ∀ k, k < a.ax → fs k = a.sp k) (hO : sv_ok a.ex a.ax) : sv_fx fe fs a.ax ↔ a.fx := by
  have e : (2 : Int32) = nI 2 := rfl
  constructor
  · rintro ⟨k, h1, h2, h3⟩
    refine ⟨k, h1, by rw [← hS k h1]; exact h2, ?_⟩
    rw [hE k h1, e] at h3
    exact (nI_leI (by decide) (hO k h1)).mp h3
  · rintro ⟨k, h1, h2, h3⟩
    refine ⟨k, h1, by rw [hS k h1]; exact h2, ?_⟩
    rw [hE k h1, e]
    exact nI_le h3 (hO k h1)
theorem sv_sum_congr {f f2 : Nat → Int32} : ∀ {n : Nat}, (∀ k, k < n → f2 k = f k) → sv_sum f2 n = sv_sum f n := by
  intro n
  induction n with
  | zero => intro _; rfl
  | succ n ih => intro h; simp only [sv_sum]; rw [h n (by omega), ih (fun k hk => h k (by omega))]
set_option maxHeartbeats 4000000 in
set_option maxRecDepth 100000 in
/-- X_told -/
theorem x_told {g : am_G} {d : Nat} {S : am_S} {lo : Nat} {T : sv_T} {as av : Nat → Nat} (hC : sv_C g lo S T as av) (hr : sv_R g S 16 700) {i w : Int32} : am_W g (d + 3) mm_X_told (0, am_ent [.ref g.2.2.1, .int i, .int w] 4, []) S (sv_O g S (q_told T i w)) := by
  obtain ⟨qs, qv, fp, fn, fm, ⟨hx, hq1, hq2, h3, h4, h5⟩, hs, hv, i1, i2, hB, hlo, hw⟩ := id hC
  have h80 := hw.2.1
  obtain ⟨hr1, hr2⟩ := hr
  show am_W g (d + 3) mm_X_told (0, [some (.ref g.2.2.1), some (.int i), some (.int w), none], []) S _
  refine am_aloadn d_X_told_0 rfl ?_
  refine am_iloadn d_X_told_1 rfl ?_
  refine am_cpsV [.int i] [] d_X_told_2 cV_X_71 rfl hx rfl rfl (Nat.le_of_ble_eq_true rfl) (Nat.le_of_ble_eq_true rfl) (c_viewP hC (i := i) (hr := ⟨by omega, by omega⟩) (fun hno => ?_) (fun j hj hi => ?_))
  · rw [q_told, sv_qv_no hno]
    exact sv_O.thr0 hC (by decide)
  · skip
    show am_W g (d + 3) mm_X_told (5, [some (.ref g.2.2.1), some (.int i), some (.int w), none], [.ref (av j)]) S _
    rw [hi, q_told, sv_qv_j hj h80]
    show am_W g (d + 3) mm_X_told (5, [some (.ref g.2.2.1), some (.int (nI j)), some (.int w), none], [.ref (av j)]) S _
    obtain ⟨b1, b2, b3, fe, fs, hV, hE, hS⟩ := hv j hj
    obtain ⟨v, hvv⟩ : ∃ z, z = av j := ⟨_, rfl⟩
    obtain ⟨a, ha⟩ : ∃ z, z = T.vw j := ⟨_, rfl⟩
    have hwv := hw.2.2.2 j hj
    rw [← ha] at hV hE hS hwv
    rw [← hvv] at b1 b2 b3 hV ⊢
    obtain ⟨w1, w2, w3, w4, w5, w6, w7⟩ := id hwv
    obtain ⟨s1, s2, s3, s4, s5⟩ := hs a.st w1
    have hv1 := hV.1
    have hv2 := hV.2.1
    have hv3 := hV.2.2.1
    rw [← ha]
    refine am_astoren (L' := [some (.ref g.2.2.1), some (.int (nI j)), some (.int w), some (.ref v)]) d_X_told_5 (by decide) rfl rfl ?_
    refine am_iloadn d_X_told_6 rfl ?_
    by_cases hk0 : w = 0
    · rw [hk0]
      refine am_tabIn (off := 41) (tgt := 48) d_X_told_7 (by decide) (by decide) (by decide) (by decide) ?_
      rw [if_pos rfl]
      refine am_aloadn d_X_told_48 rfl ?_
      refine am_get d_X_told_49 fl_X_129 hv1 rfl ?_
      refine am_get d_X_told_52 fl_X_214 s4 rfl ?_
      exact am_iret d_X_told_55 rfl (sv_O.ret hC (sv_D.rf.le (by omega) (by omega)))
    · by_cases hk1 : w = 1
      · rw [hk1]
        refine am_tabIn (off := 49) (tgt := 56) d_X_told_7 (by decide) (by decide) (by decide) (by decide) ?_
        rw [if_neg (by decide), if_pos rfl]
        refine am_aloadn d_X_told_56 rfl ?_
        refine am_get d_X_told_57 fl_X_90 hv1 rfl ?_
        exact am_iret d_X_told_60 rfl (sv_O.ret hC (sv_D.rf.le (by omega) (by omega)))
      · by_cases hk2 : w = 2
        · rw [hk2]
          refine am_tabIn (off := 54) (tgt := 61) d_X_told_7 (by decide) (by decide) (by decide) (by decide) ?_
          rw [if_neg (by decide), if_neg (by decide), if_pos rfl]
          refine am_aloadn d_X_told_61 rfl ?_
          refine am_get d_X_told_62 fl_X_104 hv1 rfl ?_
          exact am_iret d_X_told_65 rfl (sv_O.ret hC (sv_D.rf.le (by omega) (by omega)))
        · by_cases hk3 : w = 3
          · rw [hk3]
            refine am_tabIn (off := 59) (tgt := 66) d_X_told_7 (by decide) (by decide) (by decide) (by decide) ?_
            rw [if_neg (by decide), if_neg (by decide), if_neg (by decide), if_pos rfl]
            refine am_aloadn d_X_told_66 rfl ?_
            refine am_get d_X_told_67 fl_X_139 hv1 rfl ?_
            exact am_iret d_X_told_70 rfl (sv_O.ret hC (sv_D.rf.le (by omega) (by omega)))
          · by_cases hk4 : w = 4
            · rw [hk4]
              refine am_tabIn (off := 64) (tgt := 71) d_X_told_7 (by decide) (by decide) (by decide) (by decide) ?_
              rw [if_neg (by decide), if_neg (by decide), if_neg (by decide), if_neg (by decide), if_pos rfl]
              refine am_aloadn d_X_told_71 rfl ?_
              refine am_cpsV [] [] d_X_told_72 cV_X_217 rfl hv1 rfl rfl (Nat.le_of_ble_eq_true rfl) (Nat.le_of_ble_eq_true rfl) (c_isFixed hV (fun hf => ?_) (fun hf => ?_))
              · show am_W g (d + 3) mm_X_told (75, [some (.ref g.2.2.1), some (.int (nI j)), some (.int 4), some (.ref v)], [.int 1]) S _
                refine am_ifeq (tgt := 82) d_X_told_75 (by decide) (fun hc => ?_) (fun hc => ?_)
                · exact absurd hc (by decide)
                · refine am_iconst 1 d_X_told_78 (by decide) ?_
                  refine am_goto (tgt := 83) d_X_told_79 (by decide) ?_
                  rw [sv_if_y ((sv_fx_iff hE hS w3).mp hf)]
                  exact am_iret d_X_told_83 rfl (sv_O.ret hC (sv_D.rf.le (by omega) (by omega)))
              · show am_W g (d + 3) mm_X_told (75, [some (.ref g.2.2.1), some (.int (nI j)), some (.int 4), some (.ref v)], [.int 0]) S _
                refine am_ifeq (tgt := 82) d_X_told_75 (by decide) (fun hc => ?_) (fun hc => ?_)
                · refine am_iconst 0 d_X_told_82 (by decide) ?_
                  rw [sv_if_n (fun h => hf ((sv_fx_iff hE hS w3).mpr h))]
                  exact am_iret d_X_told_83 rfl (sv_O.ret hC (sv_D.rf.le (by omega) (by omega)))
                · exact absurd rfl hc
            · by_cases hk5 : w = 5
              · rw [hk5]
                refine am_tabIn (off := 77) (tgt := 84) d_X_told_7 (by decide) (by decide) (by decide) (by decide) ?_
                rw [if_neg (by decide), if_neg (by decide), if_neg (by decide), if_neg (by decide), if_neg (by decide), if_pos rfl]
                refine am_aloadn d_X_told_84 rfl ?_
                refine am_cpsV [] [] d_X_told_85 cV_X_221 rfl hv1 rfl rfl (Nat.le_of_ble_eq_true rfl) (Nat.le_of_ble_eq_true rfl) (c_least hV (fun h0 => ?_) (fun h0 => ?_))
                · have h00 : a.it = 0 := (nI_eq (by omega) (by decide)).mp (h0.trans nI_0.symm)
                  rw [sv_A.lo, if_pos h00]
                  show am_W g (d + 3) mm_X_told (88, [some (.ref g.2.2.1), some (.int (nI j)), some (.int 5), some (.ref v)], [.int (-1)]) S _
                  exact am_iret d_X_told_88 rfl (sv_O.ret hC (sv_D.rf.le (by omega) (by omega)))
                · have h00 : ¬ a.it = 0 := fun h => h0 (by rw [h]; exact nI_0)
                  rw [sv_A.lo, if_neg h00]
                  show am_W g (d + 3) mm_X_told (88, [some (.ref g.2.2.1), some (.int (nI j)), some (.int 5), some (.ref v)], [.int (a.sa + sv_sum (fun k => if (fe k - 1) * fs k < 0 then (fe k - 1) * fs k else 0) a.ax)]) S _
                  refine am_ti (b := a.sa + sv_sum (fun k => if (nI (a.ex k) - 1) * a.sp k < 0 then (nI (a.ex k) - 1) * a.sp k else 0) a.ax) (congrArg _ (sv_sum_congr (fun k hk => by simp only [hE k hk, hS k hk]))) ?_
                  exact am_iret d_X_told_88 rfl (sv_O.ret hC (sv_D.rf.le (by omega) (by omega)))
              · by_cases hk6 : w = 6
                · rw [hk6]
                  refine am_tabIn (off := 82) (tgt := 89) d_X_told_7 (by decide) (by decide) (by decide) (by decide) ?_
                  rw [if_neg (by decide), if_neg (by decide), if_neg (by decide), if_neg (by decide), if_neg (by decide), if_neg (by decide), if_pos rfl]
                  refine am_aloadn d_X_told_89 rfl ?_
                  refine am_cpsV [] [] d_X_told_90 cV_X_225 rfl hv1 rfl rfl (Nat.le_of_ble_eq_true rfl) (Nat.le_of_ble_eq_true rfl) (c_greatest hV (fun h0 => ?_) (fun h0 => ?_))
                  · have h00 : a.it = 0 := (nI_eq (by omega) (by decide)).mp (h0.trans nI_0.symm)
                    rw [sv_A.hi, if_pos h00]
                    show am_W g (d + 3) mm_X_told (93, [some (.ref g.2.2.1), some (.int (nI j)), some (.int 6), some (.ref v)], [.int (-1)]) S _
                    exact am_iret d_X_told_93 rfl (sv_O.ret hC (sv_D.rf.le (by omega) (by omega)))
                  · have h00 : ¬ a.it = 0 := fun h => h0 (by rw [h]; exact nI_0)
                    rw [sv_A.hi, if_neg h00]
                    show am_W g (d + 3) mm_X_told (93, [some (.ref g.2.2.1), some (.int (nI j)), some (.int 6), some (.ref v)], [.int (a.sa + sv_sum (fun k => if 0 < (fe k - 1) * fs k then (fe k - 1) * fs k else 0) a.ax)]) S _
                    refine am_ti (b := a.sa + sv_sum (fun k => if 0 < (nI (a.ex k) - 1) * a.sp k then (nI (a.ex k) - 1) * a.sp k else 0) a.ax) (congrArg _ (sv_sum_congr (fun k hk => by simp only [hE k hk, hS k hk]))) ?_
                    exact am_iret d_X_told_93 rfl (sv_O.ret hC (sv_D.rf.le (by omega) (by omega)))
                · refine am_tabOut (tgt := 94) d_X_told_7 (by have w0 := lv_neT hk0 (a := 0) (by decide); have w1 := lv_neT hk1 (a := 1) (by decide); have w2 := lv_neT hk2 (a := 2) (by decide); have w3 := lv_neT hk3 (a := 3) (by decide); have w4 := lv_neT hk4 (a := 4) (by decide); have w5 := lv_neT hk5 (a := 5) (by decide); have w6 := lv_neT hk6 (a := 6) (by decide); omega) (by decide) ?_
                  rw [if_neg hk0, if_neg hk1, if_neg hk2, if_neg hk3, if_neg hk4, if_neg hk5, if_neg hk6]
                  exact am_thr d_X_told_94 d_X_told_97 d_X_told_98 d_X_told_100 d_X_told_103 tw_X_44_228_48 rfl (Nat.le_of_ble_eq_true rfl) (by omega) (by omega) (sv_O.thr0 hC (by decide))
set_option maxHeartbeats 4000000 in
set_option maxRecDepth 100000 in
/-- X_axis -/
theorem x_axis {g : am_G} {d : Nat} {S : am_S} {lo : Nat} {T : sv_T} {as av : Nat → Nat} (hC : sv_C g lo S T as av) (hr : sv_R g S 16 700) {i x w : Int32} : am_W g (d + 3) mm_X_axis (0, am_ent [.ref g.2.2.1, .int i, .int x, .int w] 5, []) S (sv_O g S (q_axis T i x w)) := by
  obtain ⟨qs, qv, fp, fn, fm, ⟨hx, hq1, hq2, h3, h4, h5⟩, hs, hv, i1, i2, hB, hlo, hw⟩ := id hC
  have h80 := hw.2.1
  obtain ⟨hr1, hr2⟩ := hr
  show am_W g (d + 3) mm_X_axis (0, [some (.ref g.2.2.1), some (.int i), some (.int x), some (.int w), none], []) S _
  refine am_aloadn d_X_axis_0 rfl ?_
  refine am_iloadn d_X_axis_1 rfl ?_
  refine am_cpsV [.int i] [] d_X_axis_2 cV_X_71 rfl hx rfl rfl (Nat.le_of_ble_eq_true rfl) (Nat.le_of_ble_eq_true rfl) (c_viewP hC (i := i) (hr := ⟨by omega, by omega⟩) (fun hno => ?_) (fun j hj hi => ?_))
  · rw [q_axis, sv_qv_no hno]
    exact sv_O.thr0 hC (by decide)
  · skip
    show am_W g (d + 3) mm_X_axis (5, [some (.ref g.2.2.1), some (.int i), some (.int x), some (.int w), none], [.ref (av j)]) S _
    rw [hi, q_axis, sv_qv_j hj h80]
    show am_W g (d + 3) mm_X_axis (5, [some (.ref g.2.2.1), some (.int (nI j)), some (.int x), some (.int w), none], [.ref (av j)]) S _
    obtain ⟨b1, b2, b3, fe, fs, hV, hE, hS⟩ := hv j hj
    obtain ⟨v, hvv⟩ : ∃ z, z = av j := ⟨_, rfl⟩
    obtain ⟨a, ha⟩ : ∃ z, z = T.vw j := ⟨_, rfl⟩
    have hwv := hw.2.2.2 j hj
    rw [← ha] at hV hE hS hwv
    rw [← hvv] at b1 b2 b3 hV ⊢
    obtain ⟨w1, w2, w3, w4, w5, w6, w7⟩ := id hwv
    obtain ⟨s1, s2, s3, s4, s5⟩ := hs a.st w1
    have hv1 := hV.1
    have hv2 := hV.2.1
    have hv3 := hV.2.2.1
    rw [← ha]
    refine am_astore (L' := [some (.ref g.2.2.1), some (.int (nI j)), some (.int x), some (.int w), some (.ref v)]) d_X_axis_5 (by decide) rfl rfl ?_
    refine am_aload d_X_axis_7 rfl ?_
    refine am_iloadn d_X_axis_9 rfl ?_
    refine am_cpsS [.ref v, .int x] [] d_X_axis_10 cS_X_75 rfl rfl rfl (Nat.le_of_ble_eq_true rfl) (Nat.le_of_ble_eq_true rfl) (c_axisP hv1 w2 (x := x) ⟨by omega, by omega⟩ (fun hno => ?_) (fun k hk hxk => ?_))
    · rw [sv_qa_no hno]
      exact sv_O.thr0 hC (by decide)
    · skip
      rw [hxk, sv_qa_j hk w2]
      show am_W g (d + 3) mm_X_axis (13, [some (.ref g.2.2.1), some (.int (nI j)), some (.int (nI k)), some (.int w), some (.ref v)], []) S _
      refine am_iloadn d_X_axis_13 rfl ?_
      by_cases hk0 : w = 0
      · rw [hk0]
        refine am_lookup (off := 26) (tgt := 40) d_X_axis_14 (by decide) (by decide) (by decide) ?_
        rw [if_pos rfl]
        refine am_aload d_X_axis_40 rfl ?_
        refine am_get d_X_axis_42 fl_X_79 hv1 rfl ?_
        refine am_iloadn d_X_axis_45 rfl ?_
        refine am_ialdN (t := 0) (k := k) d_X_axis_46 rfl hv2 (by omega) (by omega) ?_
        refine am_ti (b := nI (a.ex k)) (hE k hk) ?_
        exact am_iret d_X_axis_47 rfl (sv_O.ret hC (sv_D.rf.le (by omega) (by omega)))
      · by_cases hk1 : w = 1
        · rw [hk1]
          refine am_lookup (off := 34) (tgt := 48) d_X_axis_14 (by decide) (by decide) (by decide) ?_
          rw [if_neg (by decide), if_pos rfl]
          refine am_aload d_X_axis_48 rfl ?_
          refine am_get d_X_axis_50 fl_X_93 hv1 rfl ?_
          refine am_iloadn d_X_axis_53 rfl ?_
          refine am_ialdN (t := 0) (k := k) d_X_axis_54 rfl hv3 (by omega) (by omega) ?_
          refine am_ti (b := a.sp k) (hS k hk) ?_
          exact am_iret d_X_axis_55 rfl (sv_O.ret hC (sv_D.rf.le (by omega) (by omega)))
        · refine am_lookup (off := 42) (tgt := 56) d_X_axis_14 (by decide) (by have w0 := lv_neT hk0 (a := 0) (by decide); have w1 := lv_neT hk1 (a := 1) (by decide); simp [Op.lookupswitch.offset, Ne.symm w0, Ne.symm w1]) (by decide) ?_
          rw [if_neg hk0, if_neg hk1]
          exact am_thr d_X_axis_56 d_X_axis_59 d_X_axis_60 d_X_axis_62 d_X_axis_65 tw_X_44_230_48 rfl (Nat.le_of_ble_eq_true rfl) (by omega) (by omega) (sv_O.thr0 hC (by decide))
set_option maxHeartbeats 4000000 in
set_option maxRecDepth 100000 in
/-- X_count -/
theorem x_count {g : am_G} {d : Nat} {S : am_S} {lo : Nat} {T : sv_T} {as av : Nat → Nat} (hC : sv_C g lo S T as av) (hr : sv_R g S 16 700) {w : Int32} : am_W g (d + 3) mm_X_count (0, am_ent [.ref g.2.2.1, .int w] 2, []) S (sv_O g S (q_count T w)) := by
  obtain ⟨qs, qv, fp, fn, fm, ⟨hx, hq1, hq2, h3, h4, h5⟩, hs, hv, i1, i2, hB, hlo, hw⟩ := id hC
  have h80 := hw.2.1
  obtain ⟨hr1, hr2⟩ := hr
  show am_W g (d + 3) mm_X_count (0, [some (.ref g.2.2.1), some (.int w)], []) S _
  refine am_iloadn d_X_count_0 rfl ?_
  rw [q_count]
  by_cases hk0 : w = 0
  · rw [hk0]
    refine am_lookup (off := 27) (tgt := 28) d_X_count_1 (by decide) (by decide) (by decide) ?_
    rw [if_pos rfl]
    refine am_aloadn d_X_count_28 rfl ?_
    refine am_get d_X_count_29 fl_X_33 hx rfl ?_
    exact am_iret d_X_count_32 rfl (sv_O.ret hC (sv_D.rf.le (by omega) (by omega)))
  · by_cases hk1 : w = 1
    · rw [hk1]
      refine am_lookup (off := 32) (tgt := 33) d_X_count_1 (by decide) (by decide) (by decide) ?_
      rw [if_neg (by decide), if_pos rfl]
      refine am_aloadn d_X_count_33 rfl ?_
      refine am_get d_X_count_34 fl_X_37 hx rfl ?_
      exact am_iret d_X_count_37 rfl (sv_O.ret hC (sv_D.rf.le (by omega) (by omega)))
    · refine am_lookup (off := 37) (tgt := 38) d_X_count_1 (by decide) (by have w0 := lv_neT hk0 (a := 0) (by decide); have w1 := lv_neT hk1 (a := 1) (by decide); simp [Op.lookupswitch.offset, Ne.symm w0, Ne.symm w1]) (by decide) ?_
      rw [if_neg hk0, if_neg hk1]
      exact am_thr d_X_count_38 d_X_count_41 d_X_count_42 d_X_count_44 d_X_count_47 tw_X_44_242_48 rfl (Nat.le_of_ble_eq_true rfl) (by omega) (by omega) (sv_O.thr0 hC (by decide))
set_option maxHeartbeats 4000000 in
set_option maxRecDepth 100000 in
/-- X_stored -/
theorem x_stored {g : am_G} {d : Nat} {S : am_S} {lo : Nat} {T : sv_T} {as av : Nat → Nat} (hC : sv_C g lo S T as av) (hr : sv_R g S 16 700) {i w : Int32} : am_W g (d + 3) mm_X_stored (0, am_ent [.ref g.2.2.1, .int i, .int w] 3, []) S (sv_O g S (q_stored T i w)) := by
  obtain ⟨qs, qv, fp, fn, fm, ⟨hx, hq1, hq2, h3, h4, h5⟩, hs, hv, i1, i2, hB, hlo, hw⟩ := id hC
  have h80 := hw.2.1
  obtain ⟨hr1, hr2⟩ := hr
  show am_W g (d + 3) mm_X_stored (0, [some (.ref g.2.2.1), some (.int i), some (.int w)], []) S _
  refine am_iloadn d_X_stored_0 rfl ?_
  have h12 := hw.1
  refine am_iflt (tgt := 12) d_X_stored_1 (by decide) (fun hc => ?_) (fun hc => ?_)
  · rw [q_stored, if_neg (fun q => Int32.not_lt.mpr q.1 hc)]
    exact am_thr d_X_stored_12 d_X_stored_15 d_X_stored_16 d_X_stored_18 d_X_stored_21 tw_X_96_232_100 rfl (Nat.le_of_ble_eq_true rfl) (by omega) (by omega) (sv_O.thr0 hC (by decide))
  · refine am_iloadn d_X_stored_4 rfl ?_
    refine am_aloadn d_X_stored_5 rfl ?_
    refine am_get d_X_stored_6 fl_X_33 hx rfl ?_
    refine am_iclt (tgt := 22) d_X_stored_9 (by decide) (fun hz => ?_) (fun hz => ?_)
    · obtain ⟨j, hj0, hij⟩ : ∃ j : Nat, j < 2 ^ 31 ∧ i = nI j := nI_of hc
      rw [hij] at hz ⊢
      have hj : j < T.ns := (nI_ltI hj0 (by omega)).mp hz
      rw [q_stored, if_pos ⟨Int32.not_lt.mp (nI_pos hj0), hz⟩, nI_clamp hj0]
      obtain ⟨s1, s2, s3, s4, s5⟩ := hs j hj
      refine am_iloadn d_X_stored_22 rfl ?_
      by_cases hk0 : w = 0
      · rw [hk0]
        refine am_tabIn (off := 25) (tgt := 48) d_X_stored_23 (by decide) (by decide) (by decide) (by decide) ?_
        rw [if_pos rfl]
        refine am_aloadn d_X_stored_48 rfl ?_
        refine am_get d_X_stored_49 fl_X_11 hx rfl ?_
        refine am_iloadn d_X_stored_52 rfl ?_
        refine am_aaldN (t := 3) (k := j) d_X_stored_53 rfl hq1 (by omega) (by decide) s1 ?_
        refine am_get d_X_stored_54 fl_X_234 s4 rfl ?_
        exact am_iret d_X_stored_57 rfl (sv_O.ret hC (sv_D.rf.le (by omega) (by omega)))
      · by_cases hk1 : w = 1
        · rw [hk1]
          refine am_tabIn (off := 35) (tgt := 58) d_X_stored_23 (by decide) (by decide) (by decide) (by decide) ?_
          rw [if_neg (by decide), if_pos rfl]
          refine am_aloadn d_X_stored_58 rfl ?_
          refine am_get d_X_stored_59 fl_X_11 hx rfl ?_
          refine am_iloadn d_X_stored_62 rfl ?_
          refine am_aaldN (t := 3) (k := j) d_X_stored_63 rfl hq1 (by omega) (by decide) s1 ?_
          refine am_get d_X_stored_64 fl_X_176 s4 rfl ?_
          refine am_alen (t := 1) d_X_stored_67 rfl s5 ?_
          exact am_iret d_X_stored_68 rfl (sv_O.ret hC (sv_D.rf.le (by omega) (by omega)))
        · by_cases hk2 : w = 2
          · rw [hk2]
            refine am_tabIn (off := 46) (tgt := 69) d_X_stored_23 (by decide) (by decide) (by decide) (by decide) ?_
            rw [if_neg (by decide), if_neg (by decide), if_pos rfl]
            refine am_aloadn d_X_stored_69 rfl ?_
            refine am_get d_X_stored_70 fl_X_11 hx rfl ?_
            refine am_iloadn d_X_stored_73 rfl ?_
            refine am_aaldN (t := 3) (k := j) d_X_stored_74 rfl hq1 (by omega) (by decide) s1 ?_
            refine am_get d_X_stored_75 fl_X_237 s4 rfl ?_
            exact am_iret d_X_stored_78 rfl (sv_O.ret hC (sv_D.rf.le (by omega) (by omega)))
          · refine am_tabOut (tgt := 79) d_X_stored_23 (by have w0 := lv_neT hk0 (a := 0) (by decide); have w1 := lv_neT hk1 (a := 1) (by decide); have w2 := lv_neT hk2 (a := 2) (by decide); omega) (by decide) ?_
            rw [if_neg hk0, if_neg hk1, if_neg hk2]
            exact am_thr d_X_stored_79 d_X_stored_82 d_X_stored_83 d_X_stored_85 d_X_stored_88 tw_X_44_240_48 rfl (Nat.le_of_ble_eq_true rfl) (by omega) (by omega) (sv_O.thr0 hC (by decide))
    · rw [q_stored, if_neg (fun q => hz q.2)]
      exact am_thr d_X_stored_12 d_X_stored_15 d_X_stored_16 d_X_stored_18 d_X_stored_21 tw_X_96_232_100 rfl (Nat.le_of_ble_eq_true rfl) (by omega) (by omega) (sv_O.thr0 hC (by decide))
