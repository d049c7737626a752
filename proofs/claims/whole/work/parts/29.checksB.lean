/-- an act on two numbers -/
def sv_act (a : Int32) (y z : Int64) : Int64 := if a = 0 then y + z else if a = 1 then y - z else if a = 2 then y * z else if a = 3 then (if z < y then y else z) else (if z < y then z else y)
def sv_neu (a : Int32) : Int64 := if a = 2 then 1 else if a = 3 then -9223372036854775808 else if a = 4 then 9223372036854775807 else 0
/-- a part that can't be taken along an axis of x -/
def sv_bad (x s t n : Int32) : Prop := n < 0 ∨ t = 0 ∨ (0 < n ∧ (s < 0 ∨ x ≤ s ∨ s.toInt64 + (n.toInt64 - 1) * t.toInt64 < 0 ∨ x.toInt64 ≤ s.toInt64 + (n.toInt64 - 1) * t.toInt64))
theorem sv_lcl {y z : Int64} : lg_cmp y z < 0 ↔ y < z := by
  unfold lg_cmp
  split
  · rename_i h
    exact ⟨fun q => absurd q (by decide), fun q => absurd (Int64.lt_trans h q) Int64.lt_irrefl⟩
  · split
    · rename_i h
      subst h
      exact ⟨fun q => absurd q (by decide), fun q => absurd q Int64.lt_irrefl⟩
    · rename_i h1 h2
      exact ⟨fun _ => (Int64.lt_or_eq_of_le (Int64.not_lt.mp h1)).resolve_right h2, fun _ => by decide⟩
theorem sv_lcg {y z : Int64} : 0 ≤ lg_cmp y z ↔ z ≤ y := by rw [← Int32.not_lt, sv_lcl, Int64.not_lt]
set_option maxHeartbeats 4000000 in
set_option maxRecDepth 100000 in
/-- viewAt -/
theorem c_viewAt {g : am_G} {d : Nat} {S : am_S} {x B1 B2 B3 B4 B5 : Nat} {ns nv : Int32} (hx0 : S.1 x = some (.inr (2, [.ref B1, .ref B2, .int ns, .int nv, .ref B3, .ref B4, .ref B5]))) {qv : Nat → Option Nat} (hq : S.1 B2 = some (.inl (4, 80, .inr (.inr (.inr (.inr qv)))))) (i : Int32) (hr1 : S.2.1 + 1 ≤ g.2.2.2.1) (hr2 : S.2.2 + 6 ≤ g.2.2.2.2.1) {P : am_O → am_S → Prop} (hbad : (i < 0 ∨ nv ≤ i) → P (.inr S.2.1) (am_thrown 4 S)) (hok : ∀ j : Nat, nI j < nv → j < 2 ^ 31 → ∃ v, qv j = some v ∧ j < 80 ∧ (i = nI j → P (.inl (some (.ref v))) S)) : am_W g d mm_X_viewAt (0, am_ent [.ref x, .int i] 2, []) S (P) := by
  show am_W g d mm_X_viewAt (0, [some (.ref x), some (.int i)], []) S _
  refine am_iloadn d_X_viewAt_0 rfl ?_
  refine am_iflt (tgt := 12) d_X_viewAt_1 (by decide) (fun hc => ?_) (fun hc => ?_)
  · exact am_thr d_X_viewAt_12 d_X_viewAt_15 d_X_viewAt_16 d_X_viewAt_18 d_X_viewAt_21 tw_X_96_244_100 rfl (Nat.le_of_ble_eq_true rfl) hr1 hr2 (hbad (Or.inl hc))
  · refine am_iloadn d_X_viewAt_4 rfl ?_
    refine am_aloadn d_X_viewAt_5 rfl ?_
    refine am_get d_X_viewAt_6 fl_X_37 hx0 rfl ?_
    refine am_iclt (tgt := 22) d_X_viewAt_9 (by decide) (fun hz => ?_) (fun hz => ?_)
    · obtain ⟨j, hj, hij⟩ : ∃ j : Nat, j < 2 ^ 31 ∧ i = nI j := nI_of hc
      rw [hij] at hz ⊢
      refine am_aloadn d_X_viewAt_22 rfl ?_
      refine am_get d_X_viewAt_23 fl_X_17 hx0 rfl ?_
      refine am_iloadn d_X_viewAt_26 rfl ?_
      have hz2 := hz
      obtain ⟨v, hv, hk⟩ := hok j hz2 hj
      refine am_aaldN (t := 4) (k := j) d_X_viewAt_27 rfl hq hk.1 (by decide) hv ?_
      exact am_aret d_X_viewAt_28 rfl (hk.2 hij)
    · exact am_thr d_X_viewAt_12 d_X_viewAt_15 d_X_viewAt_16 d_X_viewAt_18 d_X_viewAt_21 tw_X_96_244_100 rfl (Nat.le_of_ble_eq_true rfl) hr1 hr2 (hbad (Or.inr (Int32.not_lt.mp hz)))
set_option maxHeartbeats 4000000 in
set_option maxRecDepth 100000 in
/-- reckon -/
theorem c_reckon {g : am_G} {d : Nat} {S : am_S} (a : Int32) (y z : Int64) {P : am_O → am_S → Prop} (hP : P (.inl (some (.long (sv_act a y z)))) S) : am_W g d mm_X_reckon (0, am_ent [.int a, .long y, .long z] 5, []) S (P) := by
  show am_W g d mm_X_reckon (0, [some (.int a), some (.long y), none, some (.long z), none], []) S _
  refine am_iloadn d_X_reckon_0 rfl ?_
  by_cases hk0 : a = 0
  · rw [hk0]
    refine am_tabIn (off := 31) (tgt := 32) d_X_reckon_1 (by decide) (by decide) (by decide) (by decide) ?_
    refine am_lloadn d_X_reckon_32 rfl ?_
    refine am_lloadn d_X_reckon_33 rfl ?_
    refine am_ladd d_X_reckon_34 ?_
    rw [hk0] at hP
    exact am_lret d_X_reckon_35 rfl (by simpa [sv_act] using hP)
  · by_cases hk1 : a = 1
    · rw [hk1]
      refine am_tabIn (off := 35) (tgt := 36) d_X_reckon_1 (by decide) (by decide) (by decide) (by decide) ?_
      refine am_lloadn d_X_reckon_36 rfl ?_
      refine am_lloadn d_X_reckon_37 rfl ?_
      refine am_lsub d_X_reckon_38 ?_
      rw [hk1] at hP
      exact am_lret d_X_reckon_39 rfl (by simpa [sv_act] using hP)
    · by_cases hk2 : a = 2
      · rw [hk2]
        refine am_tabIn (off := 39) (tgt := 40) d_X_reckon_1 (by decide) (by decide) (by decide) (by decide) ?_
        refine am_lloadn d_X_reckon_40 rfl ?_
        refine am_lloadn d_X_reckon_41 rfl ?_
        refine am_lmul d_X_reckon_42 ?_
        rw [hk2] at hP
        exact am_lret d_X_reckon_43 rfl (by simpa [sv_act] using hP)
      · by_cases hk3 : a = 3
        · rw [hk3]
          refine am_tabIn (off := 43) (tgt := 44) d_X_reckon_1 (by decide) (by decide) (by decide) (by decide) ?_
          refine am_lloadn d_X_reckon_44 rfl ?_
          refine am_lloadn d_X_reckon_45 rfl ?_
          refine am_mmax_long d_X_reckon_46 (am_in 427 (by decide +kernel) rfl) (Nat.le_of_ble_eq_true rfl) ?_
          rw [hk3] at hP
          exact am_lret d_X_reckon_49 rfl (by simpa [sv_act] using hP)
        · refine am_tabOut (tgt := 50) d_X_reckon_1 (by have w0 := lv_neT hk0 (a := 0) (by decide); have w1 := lv_neT hk1 (a := 1) (by decide); have w2 := lv_neT hk2 (a := 2) (by decide); have w3 := lv_neT hk3 (a := 3) (by decide); omega) (by decide) ?_
          refine am_lloadn d_X_reckon_50 rfl ?_
          refine am_lloadn d_X_reckon_51 rfl ?_
          refine am_mmin_long d_X_reckon_52 (am_in 430 (by decide +kernel) rfl) (Nat.le_of_ble_eq_true rfl) ?_
          exact am_lret d_X_reckon_55 rfl (by simpa [sv_act, hk0, hk1, hk2, hk3] using hP)
set_option maxHeartbeats 4000000 in
set_option maxRecDepth 100000 in
/-- neutral -/
theorem c_neutral {g : am_G} {d : Nat} {S : am_S} (a : Int32) {P : am_O → am_S → Prop} (hP : P (.inl (some (.long (sv_neu a)))) S) : am_W g d mm_X_neutral (0, am_ent [.int a] 1, []) S (P) := by
  show am_W g d mm_X_neutral (0, [some (.int a)], []) S _
  refine am_iloadn d_X_neutral_0 rfl ?_
  by_cases hk2 : a = 2
  · rw [hk2]
    refine am_tabIn (off := 27) (tgt := 28) d_X_neutral_1 (by decide) (by decide) (by decide) (by decide) ?_
    refine am_lconst 1 d_X_neutral_28 (by decide) ?_
    rw [hk2] at hP
    exact am_lret d_X_neutral_29 rfl (by simpa [sv_neu] using hP)
  · by_cases hk3 : a = 3
    · rw [hk3]
      refine am_tabIn (off := 29) (tgt := 30) d_X_neutral_1 (by decide) (by decide) (by decide) (by decide) ?_
      refine am_ldc2 (-9223372036854775808) d_X_neutral_30 (am_in 447 (by decide +kernel) rfl) ?_
      rw [hk3] at hP
      exact am_lret d_X_neutral_33 rfl (by simpa [sv_neu] using hP)
    · by_cases hk4 : a = 4
      · rw [hk4]
        refine am_tabIn (off := 33) (tgt := 34) d_X_neutral_1 (by decide) (by decide) (by decide) (by decide) ?_
        refine am_ldc2 9223372036854775807 d_X_neutral_34 (am_in 448 (by decide +kernel) rfl) ?_
        rw [hk4] at hP
        exact am_lret d_X_neutral_37 rfl (by simpa [sv_neu] using hP)
      · refine am_tabOut (tgt := 38) d_X_neutral_1 (by have w2 := lv_neT hk2 (a := 2) (by decide); have w3 := lv_neT hk3 (a := 3) (by decide); have w4 := lv_neT hk4 (a := 4) (by decide); omega) (by decide) ?_
        refine am_lconst 0 d_X_neutral_38 (by decide) ?_
        exact am_lret d_X_neutral_39 rfl (by simpa [sv_neu, hk2, hk3, hk4] using hP)
set_option maxHeartbeats 4000000 in
set_option maxRecDepth 100000 in
/-- needGoing -/
theorem c_needGoing {g : am_G} {d : Nat} {S : am_S} {v st : Nat} {sa : Int32} {n : Nat} {it : Int32} {ex sp : Nat} {fe fs : Nat → Int32} (hV : sv_V S.1 v st sa n it ex sp fe fs) {w st2 : Nat} {sa2 : Int32} {n2 : Nat} {it2 : Int32} {ex2 sp2 : Nat} {fe2 fs2 : Nat → Int32} (hV2 : sv_V S.1 w st2 sa2 n2 it2 ex2 sp2 fe2 fs2) (hr1 : S.2.1 + 1 ≤ g.2.2.2.1) (hr2 : S.2.2 + 6 ≤ g.2.2.2.2.1) {P : am_O → am_S → Prop} (hbad : ¬ sv_go n fe n2 fe2 → P (.inr S.2.1) (am_thrown 5 S)) (hok : sv_go n fe n2 fe2 → P (.inl none) S) : am_W g (d + 1) mm_X_needGoing (0, am_ent [.ref v, .ref w] 2, []) S (P) := by
  have _dec : Decidable (sv_go n fe n2 fe2) := Classical.propDecidable _
  show am_W g (d + 1) mm_X_needGoing (0, [some (.ref v), some (.ref w)], []) S _
  refine am_aloadn d_X_needGoing_0 rfl ?_
  refine am_aloadn d_X_needGoing_1 rfl ?_
  refine am_callV [.ref w] [] d_X_needGoing_2 cV_X_256 hV.1 rfl rfl (Nat.le_of_ble_eq_true rfl) (Nat.le_of_ble_eq_true rfl) (c_goesTo hV hV2 (P := fun o S1 => o = .inl (some (.int (if sv_go n fe n2 fe2 then 1 else 0))) ∧ S1 = S) (fun h => by rw [if_pos h]; exact ⟨rfl, rfl⟩) (fun h => by rw [if_neg h]; exact ⟨rfl, rfl⟩)) ?_ ?_
  · intro r_1 Sx_2 hx_3
    obtain ⟨hx_3a, hx_3b⟩ := hx_3
    cases hx_3a
    rw [hx_3b]
    show am_W g (d + 1) mm_X_needGoing (5, [some (.ref v), some (.ref w)], [.int (if sv_go n fe n2 fe2 then 1 else 0)]) S _
    refine am_ifne (tgt := 19) d_X_needGoing_5 (by decide) (fun hc => ?_) (fun hc => ?_)
    · exact am_vret d_X_needGoing_19 rfl (hok (by by_cases h : sv_go n fe n2 fe2; exact h; rw [if_neg h] at hc; exact absurd rfl hc))
    · exact am_thrW d_X_needGoing_8 d_X_needGoing_11 d_X_needGoing_12 d_X_needGoing_15 d_X_needGoing_18 tw_X_44_259_48 rfl (Nat.le_of_ble_eq_true rfl) hr1 hr2 (hbad (fun h => by rw [if_pos h] at hc; exact absurd hc (by decide)))
  · intro r_1 Sx_2 hx_3
    cases hx_3.1
set_option maxHeartbeats 4000000 in
set_option maxRecDepth 100000 in
/-- needFree -/
theorem c_needFree {g : am_G} {d : Nat} {S : am_S} {v st : Nat} {sa : Int32} {n : Nat} {it : Int32} {ex sp : Nat} {fe fs : Nat → Int32} (hV : sv_V S.1 v st sa n it ex sp fe fs) (hr1 : S.2.1 + 1 ≤ g.2.2.2.1) (hr2 : S.2.2 + 6 ≤ g.2.2.2.2.1) {P : am_O → am_S → Prop} (hbad : sv_fx fe fs n → P (.inr S.2.1) (am_thrown 6 S)) (hok : ¬ sv_fx fe fs n → P (.inl none) S) : am_W g (d + 1) mm_X_needFree (0, am_ent [.ref v] 1, []) S (P) := by
  have _dec : Decidable (sv_fx fe fs n) := Classical.propDecidable _
  show am_W g (d + 1) mm_X_needFree (0, [some (.ref v)], []) S _
  refine am_aloadn d_X_needFree_0 rfl ?_
  refine am_callV [] [] d_X_needFree_1 cV_X_217 hV.1 rfl rfl (Nat.le_of_ble_eq_true rfl) (Nat.le_of_ble_eq_true rfl) (c_isFixed hV (P := fun o S1 => o = .inl (some (.int (if sv_fx fe fs n then 1 else 0))) ∧ S1 = S) (fun h => by rw [if_pos h]; exact ⟨rfl, rfl⟩) (fun h => by rw [if_neg h]; exact ⟨rfl, rfl⟩)) ?_ ?_
  · intro r_1 Sx_2 hx_3
    obtain ⟨hx_3a, hx_3b⟩ := hx_3
    cases hx_3a
    rw [hx_3b]
    show am_W g (d + 1) mm_X_needFree (4, [some (.ref v)], [.int (if sv_fx fe fs n then 1 else 0)]) S _
    refine am_ifeq (tgt := 18) d_X_needFree_4 (by decide) (fun hc => ?_) (fun hc => ?_)
    · exact am_vret d_X_needFree_18 rfl (hok (fun h => by rw [if_pos h] at hc; exact absurd hc (by decide)))
    · exact am_thrW d_X_needFree_7 d_X_needFree_10 d_X_needFree_11 d_X_needFree_14 d_X_needFree_17 tw_X_111_261_115 rfl (Nat.le_of_ble_eq_true rfl) hr1 hr2 (hbad (by by_cases h : sv_fx fe fs n; exact h; rw [if_neg h] at hc; exact absurd rfl hc))
  · intro r_1 Sx_2 hx_3
    cases hx_3.1
set_option maxHeartbeats 4000000 in
set_option maxRecDepth 100000 in
/-- needPart -/
theorem c_needPart {g : am_G} {d : Nat} {S : am_S} (x s t n : Int32) (hr1 : S.2.1 + 1 ≤ g.2.2.2.1) (hr2 : S.2.2 + 6 ≤ g.2.2.2.2.1) {P : am_O → am_S → Prop} (hbad : sv_bad x s t n → P (.inr S.2.1) (am_thrown 5 S)) (hok : ¬ sv_bad x s t n → P (.inl none) S) : am_W g d mm_X_needPart (0, am_ent [.int x, .int s, .int t, .int n] 6, []) S (P) := by
  show am_W g d mm_X_needPart (0, [some (.int x), some (.int s), some (.int t), some (.int n), none, none], []) S _
  refine am_iloadn d_X_needPart_0 rfl ?_
  refine am_iflt (tgt := 8) d_X_needPart_1 (by decide) (fun hc_1 => ?_) (fun hc_1 => ?_)
  · exact am_thr d_X_needPart_8 d_X_needPart_11 d_X_needPart_12 d_X_needPart_14 d_X_needPart_17 tw_X_44_252_48 rfl (Nat.le_of_ble_eq_true rfl) hr1 hr2 (hbad (by simp only [sv_bad]; (try simp only [sv_lcl, sv_lcg] at *); simp_all; try (intro h9; exact absurd h9 (Int32.not_lt.mpr (by assumption)))))
  · refine am_iloadn d_X_needPart_4 rfl ?_
    refine am_ifne (tgt := 18) d_X_needPart_5 (by decide) (fun hc_2 => ?_) (fun hc_2 => ?_)
    · refine am_iloadn d_X_needPart_18 rfl ?_
      refine am_i2l d_X_needPart_19 ?_
      refine am_iloadn d_X_needPart_20 rfl ?_
      refine am_i2l d_X_needPart_21 ?_
      refine am_lconst 1 d_X_needPart_22 (by decide) ?_
      refine am_lsub d_X_needPart_23 ?_
      refine am_iloadn d_X_needPart_24 rfl ?_
      refine am_i2l d_X_needPart_25 ?_
      refine am_lmul d_X_needPart_26 ?_
      refine am_ladd d_X_needPart_27 ?_
      refine am_lstore (L' := [some (.int x), some (.int s), some (.int t), some (.int n), some (.long (s.toInt64 + ((n.toInt64 - 1) * t.toInt64))), none]) d_X_needPart_28 (by decide) rfl rfl ?_
      refine am_iloadn d_X_needPart_30 rfl ?_
      refine am_ifle (tgt := 68) d_X_needPart_31 (by decide) (fun hc_3 => ?_) (fun hc_3 => ?_)
      · exact am_vret d_X_needPart_68 rfl (hok (by simp only [sv_bad]; (try simp only [sv_lcl, sv_lcg] at *); simp_all; try (intro h9; exact absurd h9 (Int32.not_lt.mpr (by assumption)))))
      · refine am_iloadn d_X_needPart_34 rfl ?_
        refine am_iflt (tgt := 58) d_X_needPart_35 (by decide) (fun hc_4 => ?_) (fun hc_4 => ?_)
        · exact am_thr d_X_needPart_58 d_X_needPart_61 d_X_needPart_62 d_X_needPart_64 d_X_needPart_67 tw_X_44_254_48 rfl (Nat.le_of_ble_eq_true rfl) hr1 hr2 (hbad (by simp only [sv_bad]; (try simp only [sv_lcl, sv_lcg] at *); simp_all; try (intro h9; exact absurd h9 (Int32.not_lt.mpr (by assumption)))))
        · refine am_iloadn d_X_needPart_38 rfl ?_
          refine am_iloadn d_X_needPart_39 rfl ?_
          refine am_icge (tgt := 58) d_X_needPart_40 (by decide) (fun hc_5 => ?_) (fun hc_5 => ?_)
          · exact am_thr d_X_needPart_58 d_X_needPart_61 d_X_needPart_62 d_X_needPart_64 d_X_needPart_67 tw_X_44_254_48 rfl (Nat.le_of_ble_eq_true rfl) hr1 hr2 (hbad (by simp only [sv_bad]; (try simp only [sv_lcl, sv_lcg] at *); simp_all; try (intro h9; exact absurd h9 (Int32.not_lt.mpr (by assumption)))))
          · refine am_lload d_X_needPart_43 rfl ?_
            refine am_lconst 0 d_X_needPart_45 (by decide) ?_
            refine am_lcmp d_X_needPart_46 ?_
            refine am_iflt (tgt := 58) d_X_needPart_47 (by decide) (fun hc_6 => ?_) (fun hc_6 => ?_)
            · exact am_thr d_X_needPart_58 d_X_needPart_61 d_X_needPart_62 d_X_needPart_64 d_X_needPart_67 tw_X_44_254_48 rfl (Nat.le_of_ble_eq_true rfl) hr1 hr2 (hbad (by simp only [sv_bad]; (try simp only [sv_lcl, sv_lcg] at *); simp_all; try (intro h9; exact absurd h9 (Int32.not_lt.mpr (by assumption)))))
            · refine am_lload d_X_needPart_50 rfl ?_
              refine am_iloadn d_X_needPart_52 rfl ?_
              refine am_i2l d_X_needPart_53 ?_
              refine am_lcmp d_X_needPart_54 ?_
              refine am_iflt (tgt := 68) d_X_needPart_55 (by decide) (fun hc_7 => ?_) (fun hc_7 => ?_)
              · exact am_vret d_X_needPart_68 rfl (hok (by simp only [sv_bad]; (try simp only [sv_lcl, sv_lcg] at *); simp_all; try (intro h9; exact absurd h9 (Int32.not_lt.mpr (by assumption)))))
              · exact am_thr d_X_needPart_58 d_X_needPart_61 d_X_needPart_62 d_X_needPart_64 d_X_needPart_67 tw_X_44_254_48 rfl (Nat.le_of_ble_eq_true rfl) hr1 hr2 (hbad (by simp only [sv_bad]; (try simp only [sv_lcl, sv_lcg] at *); simp_all; try (intro h9; exact absurd h9 (Int32.not_lt.mpr (by assumption)))))
    · exact am_thr d_X_needPart_8 d_X_needPart_11 d_X_needPart_12 d_X_needPart_14 d_X_needPart_17 tw_X_44_252_48 rfl (Nat.le_of_ble_eq_true rfl) hr1 hr2 (hbad (by simp only [sv_bad]; (try simp only [sv_lcl, sv_lcg] at *); simp_all; try (intro h9; exact absurd h9 (Int32.not_lt.mpr (by assumption)))))
set_option maxHeartbeats 4000000 in
set_option maxRecDepth 100000 in
/-- clearMarks, the loop -/
theorem c_clear_l {g : am_G} {d : Nat} {S : am_S} {x B1 B2 B3 B4 B5 : Nat} {ns nv : Int32} (hx0 : S.1 x = some (.inr (2, [.ref B1, .ref B2, .int ns, .int nv, .ref B3, .ref B4, .ref B5]))) {fm : Nat → Int32} (hm0 : S.1 B5 = some (.inl (2, 300, .inl fm))) {P : am_O → am_S → Prop} (hP : ∀ (S1 : am_S) (Fm : Nat → Int32), S1.1 B5 = some (.inl (2, 300, .inl Fm)) → sv_f1 S S1 B5 → (∀ t, t < 300 → Fm t = 0) → P (.inl none) S1) : ∀ (m k : Nat), k + m = 300 → ∀ (S0 : am_S) (Fm : Nat → Int32), S0.1 B5 = some (.inl (2, 300, .inl Fm)) → sv_f1 S S0 B5 → (∀ t, t < k → Fm t = 0) → am_W g d mm_X_clearMarks (2, [some (.ref x), some (.int (nI k))], []) S0 P := by
  intro m
  induction m using Nat.strongRecOn with
  | ind m ih =>
    intro k hk S0 Fm hm hfr hI
    have hx := (hfr.2 x (am_nd hx0 hm0 (by simp [am_kd]))).trans hx0
    refine am_iloadn d_X_clearMarks_2 rfl ?_
    refine am_sipush 300 d_X_clearMarks_3 (by decide) ?_
    refine am_icge (tgt := 22) d_X_clearMarks_6 (by decide) (fun hc => ?_) (fun hc => ?_)
    · have hk0 : 300 ≤ k := (nI_leI (by decide) (by omega)).mp hc
      exact am_vret d_X_clearMarks_22 rfl (hP S0 Fm hm hfr (fun t ht => hI t (by omega)))
    · have hlt : k < 300 := Nat.lt_of_not_le (fun q => hc (nI_le q (by omega)))
      refine am_aloadn d_X_clearMarks_9 rfl ?_
      refine am_get d_X_clearMarks_10 fl_X_29 hx rfl ?_
      refine am_iloadn d_X_clearMarks_13 rfl ?_
      refine am_iconst 0 d_X_clearMarks_14 (by decide) ?_
      refine am_zastN (t := 2) d_X_clearMarks_15 rfl hm (by omega) (by omega) ?_
      obtain ⟨S_1, eS_1⟩ : ∃ z : am_S, z = (am_up S0.1 B5 (.inl (2, 300, .inl (upd Fm k (vp_nar .boolean 0)))), S0.2) := ⟨_, rfl⟩
      change am_W _ _ _ _ (am_up S0.1 B5 (.inl (2, 300, .inl (upd Fm k (vp_nar .boolean 0)))), S0.2) _
      rw [← eS_1]
      have h_2 : S_1.1 x = some (.inr (2, [.ref B1, .ref B2, .int ns, .int nv, .ref B3, .ref B4, .ref B5])) := by rw [eS_1]; exact (am_up_n (am_nd hx hm (by simp [am_kd]))).trans hx
      have hf_3 : sv_f1 S S_1 B5 := by rw [eS_1]; exact hfr.u
      have h_4 : S_1.1 B5 = some (.inl (2, 300, .inl (upd Fm k (vp_nar .boolean 0)))) := by rw [eS_1]; exact am_up_s
      have hnS_1 : S_1.2.1 = S0.2.1 := by rw [eS_1]
      have hzS_1 : S_1.2.2 = S0.2.2 := by rw [eS_1]
      refine am_iinc (v := nI (k + 1)) (L' := [some (.ref x), some (.int (nI (k + 1)))]) d_X_clearMarks_16 rfl (nI_1 k) (by decide) rfl rfl ?_
      refine am_goto (tgt := 2) d_X_clearMarks_19 (by decide) ?_
      refine ih (m - 1) (by omega) (k + 1) (by omega) _ _ h_4 hf_3 (fun t ht => ?_)
      by_cases htk : t = k
      · subst htk
        exact pk_us
      · rw [show (upd Fm k (vp_nar .boolean 0)) t = Fm t from pk_un htk]
        exact hI t (by omega)
set_option maxHeartbeats 4000000 in
set_option maxRecDepth 100000 in
/-- clearMarks -/
theorem c_clear {g : am_G} {d : Nat} {S : am_S} {x B1 B2 B3 B4 B5 : Nat} {ns nv : Int32} (hx0 : S.1 x = some (.inr (2, [.ref B1, .ref B2, .int ns, .int nv, .ref B3, .ref B4, .ref B5]))) {fm : Nat → Int32} (hm0 : S.1 B5 = some (.inl (2, 300, .inl fm))) {P : am_O → am_S → Prop} (hP : ∀ (S1 : am_S) (Fm : Nat → Int32), S1.1 B5 = some (.inl (2, 300, .inl Fm)) → sv_f1 S S1 B5 → (∀ t, t < 300 → Fm t = 0) → P (.inl none) S1) : am_W g d mm_X_clearMarks (0, am_ent [.ref x] 2, []) S (P) := by
  show am_W g d mm_X_clearMarks (0, [some (.ref x), none], []) S _
  refine am_iconst 0 d_X_clearMarks_0 (by decide) ?_
  refine am_istoren (L' := [some (.ref x), some (.int 0)]) d_X_clearMarks_1 (by decide) rfl rfl ?_
  exact c_clear_l hx0 hm0 hP 300 0 (by omega) S fm hm0 sv_f1.rf (fun t ht => absurd ht (Nat.not_lt_zero t))
