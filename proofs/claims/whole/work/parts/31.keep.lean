set_option maxHeartbeats 4000000 in
set_option maxRecDepth 100000 in
/-- keepStore -/
theorem c_keepStore0 {g : am_G} {d : Nat} {S : am_S} {x B1 B2 B3 B4 B5 k : Nat} {nv : Int32} (hx0 : S.1 x = some (.inr (2, [.ref B1, .ref B2, .int (nI k), .int nv, .ref B3, .ref B4, .ref B5]))) (hk : k < 12) {qs : Nat → Option Nat} (hq1 : S.1 B1 = some (.inl (3, 12, .inr (.inr (.inr (.inr qs)))))) {s : Nat} {vs : List Value} (hs0 : S.1 s = some (.inr (0, vs))) {P : am_O → am_S → Prop} (hP : ∀ S1 : am_S, S1.1 x = some (.inr (2, [.ref B1, .ref B2, .int (nI (k + 1)), .int nv, .ref B3, .ref B4, .ref B5])) → S1.1 B1 = some (.inl (3, 12, .inr (.inr (.inr (.inr (va_up qs k (some s))))))) → S1.2 = S.2 → (∀ q, q ≠ x → q ≠ B1 → S1.1 q = S.1 q) → P (.inl none) S1) : am_W g d mm_X_keepStore (0, am_ent [.ref x, .ref s] 2, []) S (P) := by
  have hf0 : ∀ q, q ≠ x → q ≠ B1 → S.1 q = S.1 q := fun _ _ _ => rfl
  show am_W g d mm_X_keepStore (0, [some (.ref x), some (.ref s)], []) S _
  refine am_aloadn d_X_keepStore_0 rfl ?_
  refine am_get d_X_keepStore_1 fl_X_11 hx0 rfl ?_
  refine am_aloadn d_X_keepStore_4 rfl ?_
  refine am_get d_X_keepStore_5 fl_X_33 hx0 rfl ?_
  refine am_aloadn d_X_keepStore_8 rfl ?_
  refine am_aastN (t := 3) d_X_keepStore_9 rfl hq1 hs0 rfl (by omega) (by omega) ?_
  obtain ⟨S_1, eS_1⟩ : ∃ z : am_S, z = (am_up S.1 B1 (.inl (3, 12, .inr (.inr (.inr (.inr (va_up qs k (some s))))))), S.2) := ⟨_, rfl⟩
  change am_W _ _ _ _ (am_up S.1 B1 (.inl (3, 12, .inr (.inr (.inr (.inr (va_up qs k (some s))))))), S.2) _
  rw [← eS_1]
  have h_2 : S_1.1 x = some (.inr (2, [.ref B1, .ref B2, .int (nI k), .int nv, .ref B3, .ref B4, .ref B5])) := by rw [eS_1]; exact (am_up_n (am_nd hx0 hq1 (by simp [am_kd]))).trans hx0
  have h_3 : S_1.1 s = some (.inr (0, vs)) := by rw [eS_1]; exact (am_up_n (am_nd hs0 hq1 (by simp [am_kd]))).trans hs0
  have hf_4 : ∀ q, q ≠ x → q ≠ B1 → S_1.1 q = S.1 q := by rw [eS_1]; exact fun q h1 h2 => (am_up_n h2).trans (hf0 q h1 h2)
  have h_5 : S_1.1 B1 = some (.inl (3, 12, .inr (.inr (.inr (.inr (va_up qs k (some s))))))) := by rw [eS_1]; exact am_up_s
  have hnS_1 : S_1.2.1 = S.2.1 := by rw [eS_1]
  have hzS_1 : S_1.2.2 = S.2.2 := by rw [eS_1]
  refine am_aloadn d_X_keepStore_10 rfl ?_
  refine am_dup d_X_keepStore_11 rfl ?_
  refine am_get d_X_keepStore_12 fl_X_33 h_2 rfl ?_
  refine am_iconst 1 d_X_keepStore_15 (by decide) ?_
  refine am_iadd d_X_keepStore_16 ?_
  refine am_ti (b := nI (k + 1)) (nI_1 k) ?_
  refine am_put d_X_keepStore_17 fp_X_33 h_2 rfl rfl (Nat.le_of_ble_eq_true rfl) ?_
  obtain ⟨S_6, eS_6⟩ : ∃ z : am_S, z = (am_up S_1.1 x (.inr (2, [.ref B1, .ref B2, .int (nI (k + 1)), .int nv, .ref B3, .ref B4, .ref B5])), S_1.2) := ⟨_, rfl⟩
  change am_W _ _ _ _ (am_up S_1.1 x (.inr (2, [.ref B1, .ref B2, .int (nI (k + 1)), .int nv, .ref B3, .ref B4, .ref B5])), S_1.2) _
  rw [← eS_6]
  have h_7 : S_6.1 B1 = some (.inl (3, 12, .inr (.inr (.inr (.inr (va_up qs k (some s))))))) := by rw [eS_6]; exact (am_up_n (am_nd h_5 h_2 (by simp [am_kd]))).trans h_5
  have h_8 : S_6.1 s = some (.inr (0, vs)) := by rw [eS_6]; exact (am_up_n (am_nd hs0 hx0 (by simp [am_kd]))).trans h_3
  have hf_9 : ∀ q, q ≠ x → q ≠ B1 → S_6.1 q = S.1 q := by rw [eS_6]; exact fun q h1 h2 => (am_up_n h1).trans (hf_4 q h1 h2)
  have h_10 : S_6.1 x = some (.inr (2, [.ref B1, .ref B2, .int (nI (k + 1)), .int nv, .ref B3, .ref B4, .ref B5])) := by rw [eS_6]; exact am_up_s
  have hnS_6 : S_6.2.1 = S_1.2.1 := by rw [eS_6]
  have hzS_6 : S_6.2.2 = S_1.2.2 := by rw [eS_6]
  exact am_vret d_X_keepStore_20 rfl (hP S_6 h_10 h_7 (Prod.ext (by show S_6.2.1 = S.2.1; omega) (by show S_6.2.2 = S.2.2; omega)) hf_9)
set_option maxHeartbeats 4000000 in
set_option maxRecDepth 100000 in
/-- keepView -/
theorem c_keepView0 {g : am_G} {d : Nat} {S : am_S} {x B1 B2 B3 B4 B5 k : Nat} {ns : Int32} (hx0 : S.1 x = some (.inr (2, [.ref B1, .ref B2, .int ns, .int (nI k), .ref B3, .ref B4, .ref B5]))) (hk80 : k ≤ 80) {qv : Nat → Option Nat} (hq2 : S.1 B2 = some (.inl (4, 80, .inr (.inr (.inr (.inr qv)))))) {v st : Nat} {sa : Int32} {n : Nat} {it : Int32} {ex sp : Nat} {fe fs : Nat → Int32} (hV : sv_V S.1 v st sa n it ex sp fe fs) (F : Nat → Nat) (hF : ∀ k, k < n → fe k = nI (F k)) (hO : sv_ok F n) {num ln : Int32} {rw vo : Nat} (hst : S.1 st = some (.inr (0, [.int num, .int ln, .ref rw, .int (nI vo)]))) (hr1 : S.2.1 + 1 ≤ g.2.2.2.1) (hr2 : S.2.2 + 6 ≤ g.2.2.2.2.1) {P : am_O → am_S → Prop} (hbad : (80 ≤ k ∨ 3000 < sv_pr F n) → ∀ S1 : am_S, sv_fr S S1 v ex sp → P (.inr S1.2.1) (am_thrown 6 S1)) (hok : k < 80 → sv_pr F n ≤ 3000 → ∀ (S1 : am_S) (fs1 : Nat → Int32), sv_V S1.1 v st (if sv_pr F n = 0 then 0 else sa) n (nI (sv_pr F n)) ex sp fe fs1 → (∀ i, i < n → fs1 i = if (sv_pr F n = 0 ∨ F i < 2) then 0 else fs i) → S1.1 x = some (.inr (2, [.ref B1, .ref B2, .int ns, .int (nI (k + 1)), .ref B3, .ref B4, .ref B5])) → S1.1 B2 = some (.inl (4, 80, .inr (.inr (.inr (.inr (va_up qv k (some v))))))) → S1.1 st = some (.inr (0, [.int num, .int ln, .ref rw, .int (nI (vo + 1))])) → S1.2 = S.2 → (∀ t, t ≠ x → t ≠ B2 → t ≠ st → t ≠ v → t ≠ ex → t ≠ sp → S1.1 t = S.1 t) → P (.inl (some (.int (nI k)))) S1) : am_W g (d + 2) mm_X_keepView (0, am_ent [.ref x, .ref v] 2, []) S (P) := by
  show am_W g (d + 2) mm_X_keepView (0, [some (.ref x), some (.ref v)], []) S _
  refine am_aloadn d_X_keepView_0 rfl ?_
  refine am_callV [] [] d_X_keepView_1 cV_X_136 hV.1 rfl rfl (Nat.le_of_ble_eq_true rfl) (Nat.le_of_ble_eq_true rfl) (c_settle hV F hF hO (P := fun o S1 => o = .inl none ∧ ∃ fs1 : Nat → Int32, sv_V S1.1 v st (if min (sv_pr F n) 2147483647 = 0 then 0 else sa) n (nI (min (sv_pr F n) 2147483647)) ex sp fe fs1 ∧ sv_fr S S1 v ex sp ∧ ∀ i, i < n → fs1 i = if (min (sv_pr F n) 2147483647 = 0 ∨ F i < 2) then 0 else fs i) (fun S1 fs1 q1 q2 q3 => ⟨rfl, fs1, q1, q2, q3⟩)) ?_ ?_
  · intro r1 S1 hr1
    obtain ⟨hr2, fs1, hV1, hfr, hI⟩ := hr1
    cases hr2
    have hnn := hV.ne
    have hv1 := hV1.1
    have hx1 := (hfr.2 x (am_nd hx0 hV.1 (by simp [am_kd])) (am_nd hx0 hV.2.1 (by simp [am_kd])) (am_nd hx0 hV.2.2.1 (by simp [am_kd]))).trans hx0
    have hq21 := (hfr.2 B2 (am_nd hq2 hV.1 (by simp [am_kd])) (am_nd hq2 hV.2.1 (by simp [am_kd])) (am_nd hq2 hV.2.2.1 (by simp [am_kd]))).trans hq2
    have hst1 := (hfr.2 st (am_nd hst hV.1 (by simp [am_kd])) (am_nd hst hV.2.1 (by simp [am_kd])) (am_nd hst hV.2.2.1 (by simp [am_kd]))).trans hst
    obtain ⟨q, hq⟩ : ∃ q, q = min (sv_pr F n) 2147483647 := ⟨_, rfl⟩
    rw [← hq] at hV1 hI hv1
    have hz1 := hfr.1
    show am_W g (d + 2) mm_X_keepView (4, [some (.ref x), some (.ref v)], []) S1 _
    refine am_aloadn d_X_keepView_4 rfl ?_
    refine am_get d_X_keepView_5 fl_X_37 hx1 rfl ?_
    refine am_bipush 80 d_X_keepView_8 (by decide) ?_
    refine am_icge (tgt := 23) d_X_keepView_10 (by decide) (fun hc => ?_) (fun hc => ?_)
    · have hk8 : 80 ≤ k := (nI_leI (by decide) (by omega)).mp hc
      exact am_thrW d_X_keepView_23 d_X_keepView_26 d_X_keepView_27 d_X_keepView_30 d_X_keepView_33 tw_X_111_267_115 rfl (Nat.le_of_ble_eq_true rfl) (by rw [hz1]; exact hr1) (by rw [hz1]; exact hr2) (hbad (Or.inl hk8) S1 hfr)
    · have hk8 : k < 80 := Nat.lt_of_not_le (fun z => hc (nI_le z (by omega)))
      refine am_aloadn d_X_keepView_13 rfl ?_
      refine am_get d_X_keepView_14 fl_X_139 hv1 rfl ?_
      refine am_sipush 3000 d_X_keepView_17 (by decide) ?_
      refine am_icle (tgt := 34) d_X_keepView_20 (by decide) (fun hz => ?_) (fun hz => ?_)
      · have hq3 : q ≤ 3000 := (nI_leI (by omega) (by decide)).mp hz
        have hpr : sv_pr F n = q := by omega
        have hf0 : ∀ t, t ≠ x → t ≠ B2 → t ≠ st → t ≠ v → t ≠ ex → t ≠ sp → S1.1 t = S.1 t := fun t _ _ _ h1 h2 h3 => hfr.2 t h1 h2 h3
        refine am_aloadn d_X_keepView_34 rfl ?_
        refine am_get d_X_keepView_35 fl_X_17 hx1 rfl ?_
        refine am_aloadn d_X_keepView_38 rfl ?_
        refine am_get d_X_keepView_39 fl_X_37 hx1 rfl ?_
        refine am_aloadn d_X_keepView_42 rfl ?_
        refine am_aastN (t := 4) d_X_keepView_43 rfl hq21 hv1 rfl (by omega) (by omega) ?_
        obtain ⟨S_1, eS_1⟩ : ∃ z : am_S, z = (am_up S1.1 B2 (.inl (4, 80, .inr (.inr (.inr (.inr (va_up qv k (some v))))))), S1.2) := ⟨_, rfl⟩
        change am_W _ _ _ _ (am_up S1.1 B2 (.inl (4, 80, .inr (.inr (.inr (.inr (va_up qv k (some v))))))), S1.2) _
        rw [← eS_1]
        have h_2 : S_1.1 x = some (.inr (2, [.ref B1, .ref B2, .int ns, .int (nI k), .ref B3, .ref B4, .ref B5])) := by rw [eS_1]; exact (am_up_n (am_nd hx1 hq21 (by simp [am_kd]))).trans hx1
        have h_3 : S_1.1 v = some (.inr (1, [.ref st, .int (if q = 0 then 0 else sa), .int (nI n), .int (nI q), .ref ex, .ref sp])) := by rw [eS_1]; exact (am_up_n (am_nd hv1 hq21 (by simp [am_kd]))).trans hv1
        have h_4 : S_1.1 st = some (.inr (0, [.int num, .int ln, .ref rw, .int (nI vo)])) := by rw [eS_1]; exact (am_up_n (am_nd hst1 hq21 (by simp [am_kd]))).trans hst1
        have h_5 : S_1.1 ex = some (.inl (0, 4, .inl fe)) := by rw [eS_1]; exact (am_up_n (am_nd hV1.2.1 hq21 (by simp [am_kd]))).trans hV1.2.1
        have h_6 : S_1.1 sp = some (.inl (0, 4, .inl fs1)) := by rw [eS_1]; exact (am_up_n (am_nd hV1.2.2.1 hq21 (by simp [am_kd]))).trans hV1.2.2.1
        have hf_7 : ∀ t, t ≠ x → t ≠ B2 → t ≠ st → t ≠ v → t ≠ ex → t ≠ sp → S_1.1 t = S.1 t := by rw [eS_1]; exact fun t h1 h2 h3 h4 h5 h6 => (am_up_n h2).trans (hf0 t h1 h2 h3 h4 h5 h6)
        have h_8 : S_1.1 B2 = some (.inl (4, 80, .inr (.inr (.inr (.inr (va_up qv k (some v))))))) := by rw [eS_1]; exact am_up_s
        have hnS_1 : S_1.2.1 = S1.2.1 := by rw [eS_1]
        have hzS_1 : S_1.2.2 = S1.2.2 := by rw [eS_1]
        refine am_aloadn d_X_keepView_44 rfl ?_
        refine am_get d_X_keepView_45 fl_X_129 h_3 rfl ?_
        refine am_dup d_X_keepView_48 rfl ?_
        refine am_get d_X_keepView_49 fl_X_237 h_4 rfl ?_
        refine am_iconst 1 d_X_keepView_52 (by decide) ?_
        refine am_iadd d_X_keepView_53 ?_
        refine am_ti (b := nI (vo + 1)) (nI_1 vo) ?_
        refine am_put d_X_keepView_54 fp_X_237 h_4 rfl rfl (Nat.le_of_ble_eq_true rfl) ?_
        obtain ⟨S_9, eS_9⟩ : ∃ z : am_S, z = (am_up S_1.1 st (.inr (0, [.int num, .int ln, .ref rw, .int (nI (vo + 1))])), S_1.2) := ⟨_, rfl⟩
        change am_W _ _ _ _ (am_up S_1.1 st (.inr (0, [.int num, .int ln, .ref rw, .int (nI (vo + 1))])), S_1.2) _
        rw [← eS_9]
        have h_10 : S_9.1 x = some (.inr (2, [.ref B1, .ref B2, .int ns, .int (nI k), .ref B3, .ref B4, .ref B5])) := by rw [eS_9]; exact (am_up_n (am_nd h_2 h_4 (by simp [am_kd]))).trans h_2
        have h_11 : S_9.1 B2 = some (.inl (4, 80, .inr (.inr (.inr (.inr (va_up qv k (some v))))))) := by rw [eS_9]; exact (am_up_n (am_nd h_8 h_4 (by simp [am_kd]))).trans h_8
        have h_12 : S_9.1 v = some (.inr (1, [.ref st, .int (if q = 0 then 0 else sa), .int (nI n), .int (nI q), .ref ex, .ref sp])) := by rw [eS_9]; exact (am_up_n (am_nd h_3 h_4 (by simp [am_kd]))).trans h_3
        have h_13 : S_9.1 ex = some (.inl (0, 4, .inl fe)) := by rw [eS_9]; exact (am_up_n (am_nd h_5 h_4 (by simp [am_kd]))).trans h_5
        have h_14 : S_9.1 sp = some (.inl (0, 4, .inl fs1)) := by rw [eS_9]; exact (am_up_n (am_nd h_6 h_4 (by simp [am_kd]))).trans h_6
        have hf_15 : ∀ t, t ≠ x → t ≠ B2 → t ≠ st → t ≠ v → t ≠ ex → t ≠ sp → S_9.1 t = S.1 t := by rw [eS_9]; exact fun t h1 h2 h3 h4 h5 h6 => (am_up_n h3).trans (hf_7 t h1 h2 h3 h4 h5 h6)
        have h_16 : S_9.1 st = some (.inr (0, [.int num, .int ln, .ref rw, .int (nI (vo + 1))])) := by rw [eS_9]; exact am_up_s
        have hnS_9 : S_9.2.1 = S_1.2.1 := by rw [eS_9]
        have hzS_9 : S_9.2.2 = S_1.2.2 := by rw [eS_9]
        refine am_aloadn d_X_keepView_57 rfl ?_
        refine am_dup d_X_keepView_58 rfl ?_
        refine am_get d_X_keepView_59 fl_X_37 h_10 rfl ?_
        refine am_iconst 1 d_X_keepView_62 (by decide) ?_
        refine am_iadd d_X_keepView_63 ?_
        refine am_ti (b := nI (k + 1)) (nI_1 k) ?_
        refine am_put d_X_keepView_64 fp_X_37 h_10 rfl rfl (Nat.le_of_ble_eq_true rfl) ?_
        obtain ⟨S_17, eS_17⟩ : ∃ z : am_S, z = (am_up S_9.1 x (.inr (2, [.ref B1, .ref B2, .int ns, .int (nI (k + 1)), .ref B3, .ref B4, .ref B5])), S_9.2) := ⟨_, rfl⟩
        change am_W _ _ _ _ (am_up S_9.1 x (.inr (2, [.ref B1, .ref B2, .int ns, .int (nI (k + 1)), .ref B3, .ref B4, .ref B5])), S_9.2) _
        rw [← eS_17]
        have h_18 : S_17.1 B2 = some (.inl (4, 80, .inr (.inr (.inr (.inr (va_up qv k (some v))))))) := by rw [eS_17]; exact (am_up_n (am_nd h_11 h_10 (by simp [am_kd]))).trans h_11
        have h_19 : S_17.1 v = some (.inr (1, [.ref st, .int (if q = 0 then 0 else sa), .int (nI n), .int (nI q), .ref ex, .ref sp])) := by rw [eS_17]; exact (am_up_n (am_nd h_12 h_10 (by simp [am_kd]))).trans h_12
        have h_20 : S_17.1 st = some (.inr (0, [.int num, .int ln, .ref rw, .int (nI (vo + 1))])) := by rw [eS_17]; exact (am_up_n (am_nd h_16 h_10 (by simp [am_kd]))).trans h_16
        have h_21 : S_17.1 ex = some (.inl (0, 4, .inl fe)) := by rw [eS_17]; exact (am_up_n (am_nd h_13 h_10 (by simp [am_kd]))).trans h_13
        have h_22 : S_17.1 sp = some (.inl (0, 4, .inl fs1)) := by rw [eS_17]; exact (am_up_n (am_nd h_14 h_10 (by simp [am_kd]))).trans h_14
        have hf_23 : ∀ t, t ≠ x → t ≠ B2 → t ≠ st → t ≠ v → t ≠ ex → t ≠ sp → S_17.1 t = S.1 t := by rw [eS_17]; exact fun t h1 h2 h3 h4 h5 h6 => (am_up_n h1).trans (hf_15 t h1 h2 h3 h4 h5 h6)
        have h_24 : S_17.1 x = some (.inr (2, [.ref B1, .ref B2, .int ns, .int (nI (k + 1)), .ref B3, .ref B4, .ref B5])) := by rw [eS_17]; exact am_up_s
        have hnS_17 : S_17.2.1 = S_9.2.1 := by rw [eS_17]
        have hzS_17 : S_17.2.2 = S_9.2.2 := by rw [eS_17]
        refine am_aloadn d_X_keepView_67 rfl ?_
        refine am_get d_X_keepView_68 fl_X_37 h_24 rfl ?_
        refine am_iconst 1 d_X_keepView_71 (by decide) ?_
        refine am_isub d_X_keepView_72 ?_
        refine am_ti (b := nI k) (nI_pred k) ?_
        exact am_iret d_X_keepView_73 rfl (hok hk8 (by omega) S_17 fs1 (by rw [hpr]; exact ⟨h_19, h_21, h_22, hV1.2.2.2⟩) (by rw [hpr]; exact hI) h_24 h_18 h_20 (Prod.ext (by show S_17.2.1 = S.2.1; rw [← hz1]; omega) (by show S_17.2.2 = S.2.2; rw [← hz1]; omega)) hf_23)
      · have hq3 : ¬ q ≤ 3000 := fun z => hz (nI_le z (by decide))
        exact am_thrW d_X_keepView_23 d_X_keepView_26 d_X_keepView_27 d_X_keepView_30 d_X_keepView_33 tw_X_111_267_115 rfl (Nat.le_of_ble_eq_true rfl) (by rw [hz1]; exact hr1) (by rw [hz1]; exact hr2) (hbad (Or.inr (by omega)) S1 hfr)
  · intro r1 S1 hr1
    cases hr1.1
