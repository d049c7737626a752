set_option maxHeartbeats 4000000 in
set_option maxRecDepth 100000 in
/-- layOut, along an axis -/
theorem c_layOut_i {g : am_G} {d : Nat} {S : am_S} {x B1 B2 B3 B4 B5 : Nat} {ns nv : Int32} (hx0 : S.1 x = some (.inr (2, [.ref B1, .ref B2, .int ns, .int nv, .ref B3, .ref B4, .ref B5]))) {fp : Nat → Int32} (hp0 : S.1 B3 = some (.inl (0, 3000, .inl fp))) {v st : Nat} {sa : Int32} {n : Nat} {it : Int32} {ex sp : Nat} {fe fs : Nat → Int32} (hV : sv_V S.1 v st sa n it ex sp fe fs) {w st2 : Nat} {sa2 : Int32} {n2 : Nat} {ex2 sp2 : Nat} {fe2 fs2 : Nat → Int32} {N : Nat} (hV2 : sv_V S.1 w st2 sa2 n2 (nI N) ex2 sp2 fe2 fs2) {D m : Nat} {q : Int32} {F : Nat → Nat} {G : Nat → Int32} (hDp : 0 < D) (hD : D * F m ≤ 3000) (hU : ∀ t, t + D < D * F m → G (t + D) = G t + q) {P : am_O → am_S → Prop} (hK : ∀ (S1 : am_S) (Fp : Nat → Int32), S1.1 B3 = some (.inl (0, 3000, .inl Fp)) → sv_f1 S S1 B3 → (∀ t, t < D * F m → Fp t = sa + G t) → ∀ z8 : Int32, am_W g d mm_X_layOut (113, [some (.ref x), some (.ref v), some (.ref w), some (.int (nI D)), some (.int (nI (n2 - n))), some (.int (nI m)), some (.int q), some (.int (nI (D * F m))), some (.int z8)], []) S1 P) : ∀ (c i : Nat), i + c = D * F m → D ≤ i → ∀ (S0 : am_S) (Fp : Nat → Int32), S0.1 B3 = some (.inl (0, 3000, .inl Fp)) → sv_f1 S S0 B3 → (∀ t, t < i → Fp t = sa + G t) → am_W g d mm_X_layOut (81, [some (.ref x), some (.ref v), some (.ref w), some (.int (nI D)), some (.int (nI (n2 - n))), some (.int (nI m)), some (.int q), some (.int (nI (D * F m))), some (.int (nI i))], []) S0 P := by
  obtain ⟨hv0, he0, hs0, hne, hn4⟩ := id hV
  obtain ⟨hw0, he20, hs20, hne2, hn42⟩ := id hV2
  intro c
  induction c using Nat.strongRecOn with
  | ind c ih =>
    intro i hi hDi S0 Fp hp hfr hI
    have hx := (hfr.2 x (am_nd hx0 hp0 (by simp [am_kd]))).trans hx0
    have hv := (hfr.2 v (am_nd hv0 hp0 (by simp [am_kd]))).trans hv0
    have hs := (hfr.2 sp (am_nd hs0 hp0 (by simp [am_kd]))).trans hs0
    have hw := (hfr.2 w (am_nd hw0 hp0 (by simp [am_kd]))).trans hw0
    have he2 := (hfr.2 ex2 (am_nd he20 hp0 (by simp [am_kd]))).trans he20
    refine am_iload d_X_layOut_81 rfl ?_
    refine am_iload d_X_layOut_83 rfl ?_
    refine am_icge (tgt := 113) d_X_layOut_85 (by decide) (fun hc => ?_) (fun hc => ?_)
    · have hk0 : D * F m ≤ i := (nI_leI (by omega) (by omega)).mp hc
      exact hK S0 Fp hp hfr (fun t ht => hI t (by omega)) (nI i)
    · have hlt : i < D * F m := Nat.lt_of_not_le (fun q => hc (nI_le q (by omega)))
      refine am_aloadn d_X_layOut_88 rfl ?_
      refine am_get d_X_layOut_89 fl_X_21 hx rfl ?_
      refine am_iload d_X_layOut_92 rfl ?_
      refine am_aloadn d_X_layOut_94 rfl ?_
      refine am_get d_X_layOut_95 fl_X_21 hx rfl ?_
      refine am_iload d_X_layOut_98 rfl ?_
      refine am_iloadn d_X_layOut_100 rfl ?_
      refine am_isub d_X_layOut_101 ?_
      refine am_ti (b := nI (i - D)) (pk_sub hDi) ?_
      refine am_ialdN (t := 0) (k := i - D) d_X_layOut_102 rfl hp (by omega) (by omega) ?_
      refine am_iload d_X_layOut_103 rfl ?_
      refine am_iadd d_X_layOut_105 ?_
      refine am_iastN (t := 0) d_X_layOut_106 rfl hp (by omega) (by omega) ?_
      obtain ⟨S_1, eS_1⟩ : ∃ z : am_S, z = (am_up S0.1 B3 (.inl (0, 3000, .inl (upd Fp i ((Fp (i - D)) + q)))), S0.2) := ⟨_, rfl⟩
      change am_W _ _ _ _ (am_up S0.1 B3 (.inl (0, 3000, .inl (upd Fp i ((Fp (i - D)) + q)))), S0.2) _
      rw [← eS_1]
      have h_2 : S_1.1 x = some (.inr (2, [.ref B1, .ref B2, .int ns, .int nv, .ref B3, .ref B4, .ref B5])) := by rw [eS_1]; exact (am_up_n (am_nd hx hp (by simp [am_kd]))).trans hx
      have h_3 : S_1.1 v = some (.inr (1, [.ref st, .int sa, .int (nI n), .int it, .ref ex, .ref sp])) := by rw [eS_1]; exact (am_up_n (am_nd hv hp (by simp [am_kd]))).trans hv
      have h_4 : S_1.1 sp = some (.inl (0, 4, .inl fs)) := by rw [eS_1]; exact (am_up_n (am_nd hs hp (by simp [am_kd]))).trans hs
      have h_5 : S_1.1 w = some (.inr (1, [.ref st2, .int sa2, .int (nI n2), .int (nI N), .ref ex2, .ref sp2])) := by rw [eS_1]; exact (am_up_n (am_nd hw hp (by simp [am_kd]))).trans hw
      have h_6 : S_1.1 ex2 = some (.inl (0, 4, .inl fe2)) := by rw [eS_1]; exact (am_up_n (am_nd he2 hp (by simp [am_kd]))).trans he2
      have hf_7 : sv_f1 S S_1 B3 := by rw [eS_1]; exact hfr.u
      have h_8 : S_1.1 B3 = some (.inl (0, 3000, .inl (upd Fp i ((Fp (i - D)) + q)))) := by rw [eS_1]; exact am_up_s
      have hnS_1 : S_1.2.1 = S0.2.1 := by rw [eS_1]
      have hzS_1 : S_1.2.2 = S0.2.2 := by rw [eS_1]
      refine am_iinc (v := nI (i + 1)) (L' := [some (.ref x), some (.ref v), some (.ref w), some (.int (nI D)), some (.int (nI (n2 - n))), some (.int (nI m)), some (.int q), some (.int (nI (D * F m))), some (.int (nI (i + 1)))]) d_X_layOut_107 rfl (nI_1 i) (by decide) rfl rfl ?_
      refine am_goto (tgt := 81) d_X_layOut_110 (by decide) ?_
      refine ih (c - 1) (by omega) (i + 1) (by omega) (by omega) _ _ h_8 hf_7 (fun t ht => ?_)
      by_cases hti : t = i
      · subst hti
        rw [show (upd Fp t (Fp (t - D) + q)) t = _ from pk_us, hI (t - D) (by omega)]
        have h7 := hU (t - D) (by omega)
        rw [show t - D + D = t by omega] at h7
        rw [h7, Int32.add_assoc]
      · rw [show (upd Fp i (Fp (i - D) + q)) t = Fp t from pk_un hti]
        exact hI t (by omega)
set_option maxHeartbeats 4000000 in
set_option maxRecDepth 100000 in
/-- layOut, the axes -/
theorem c_layOut_o {g : am_G} {d : Nat} {S : am_S} {x B1 B2 B3 B4 B5 : Nat} {ns nv : Int32} (hx0 : S.1 x = some (.inr (2, [.ref B1, .ref B2, .int ns, .int nv, .ref B3, .ref B4, .ref B5]))) {fp : Nat → Int32} (hp0 : S.1 B3 = some (.inl (0, 3000, .inl fp))) {v st : Nat} {sa : Int32} {n : Nat} {it : Int32} {ex sp : Nat} {fe fs : Nat → Int32} (hV : sv_V S.1 v st sa n it ex sp fe fs) {w st2 : Nat} {sa2 : Int32} {n2 : Nat} {ex2 sp2 : Nat} {fe2 fs2 : Nat → Int32} {N : Nat} (hV2 : sv_V S.1 w st2 sa2 n2 (nI N) ex2 sp2 fe2 fs2) (F : Nat → Nat) (hF : ∀ k, k < n2 → fe2 k = nI (F k)) (hO : sv_ok F n2) (hN : sv_pr F n2 = N) (hN3 : N ≤ 3000) (hnn : n ≤ n2) (hZ : ∀ k, k < n2 → 0 < F k) {P : am_O → am_S → Prop} (hP : ∀ (S1 : am_S) (Fp : Nat → Int32), S1.1 B3 = some (.inl (0, 3000, .inl Fp)) → sv_f1 S S1 B3 → (∀ i, i < N → Fp i = sa + sv_pl F (sv_sh (n2 - n) fs) n2 i) → P (.inl none) S1) : ∀ (m : Nat), m ≤ n2 → ∀ (S0 : am_S) (Fp : Nat → Int32), S0.1 B3 = some (.inl (0, 3000, .inl Fp)) → sv_f1 S S0 B3 → (∀ i, i < sv_dp F n2 (n2 - m) → Fp i = sa + sv_pt F (sv_sh (n2 - n) fs) n2 (n2 - m) i) → am_W g d mm_X_layOut (39, [some (.ref x), some (.ref v), some (.ref w), some (.int (nI (sv_dp F n2 (n2 - m)))), some (.int (nI (n2 - n))), some (.int (sv_dn m)), none, none, none], []) S0 P := by
  obtain ⟨hv0, he0, hs0, hne, hn4⟩ := id hV
  obtain ⟨hw0, he20, hs20, hne2, hn42⟩ := id hV2
  intro m
  induction m with
  | zero =>
    intro hm S0 Fp hp hfr hI
    have hx := (hfr.2 x (am_nd hx0 hp0 (by simp [am_kd]))).trans hx0
    have hv := (hfr.2 v (am_nd hv0 hp0 (by simp [am_kd]))).trans hv0
    have hs := (hfr.2 sp (am_nd hs0 hp0 (by simp [am_kd]))).trans hs0
    have hw := (hfr.2 w (am_nd hw0 hp0 (by simp [am_kd]))).trans hw0
    have he2 := (hfr.2 ex2 (am_nd he20 hp0 (by simp [am_kd]))).trans he20
    refine am_iload d_X_layOut_39 rfl ?_
    refine am_iflt (tgt := 122) d_X_layOut_41 (by decide) (fun hc => ?_) (fun hc => ?_)
    · exact am_vret d_X_layOut_122 rfl (hP S0 Fp hp hfr (fun i hi => by rw [← sv_pt_all]; exact hI i (by rw [Nat.sub_zero, sv_dp_all, hN]; exact hi)))
    · exact absurd sv_dn_0 hc
  | succ m ih =>
    intro hm S0 Fp hp hfr hI
    have hx := (hfr.2 x (am_nd hx0 hp0 (by simp [am_kd]))).trans hx0
    have hv := (hfr.2 v (am_nd hv0 hp0 (by simp [am_kd]))).trans hv0
    have hs := (hfr.2 sp (am_nd hs0 hp0 (by simp [am_kd]))).trans hs0
    have hw := (hfr.2 w (am_nd hw0 hp0 (by simp [am_kd]))).trans hw0
    have he2 := (hfr.2 ex2 (am_nd he20 hp0 (by simp [am_kd]))).trans he20
    refine am_iload d_X_layOut_39 rfl ?_
    refine am_iflt (tgt := 122) d_X_layOut_41 (by decide) (fun hc => ?_) (fun hc => ?_)
    · exact absurd hc (sv_dn_n (by omega))
    · obtain ⟨D, hDe⟩ : ∃ D, D = sv_dp F n2 (n2 - (m + 1)) := ⟨_, rfl⟩
      rw [sv_dn_s m, ← hDe]
      have hD2 : sv_dp F n2 (n2 - m) = D * F m := by
        rw [show n2 - m = (n2 - (m + 1)) + 1 by omega, sv_dp_s F _ n2 (by omega), ← hDe, show n2 - 1 - (n2 - (m + 1)) = m by omega]
      have hD3 : D * F m ≤ 3000 := by rw [← hD2]; exact Nat.le_trans (sv_dp_le F hZ _ (by omega)) (by omega)
      have hDp : 0 < D := by rw [hDe]; exact sv_dp_pos F hZ _ (by omega)
      have hDD : D ≤ D * F m := Nat.le_mul_of_pos_right _ (hZ m (by omega))
      refine am_iload d_X_layOut_44 rfl ?_
      refine am_iload d_X_layOut_46 rfl ?_
      refine am_icge (tgt := 55) d_X_layOut_48 (by decide) (fun hq => ?_) (fun hq => ?_)
      · have hml : n2 - n ≤ m := (nI_leI (by omega) (by omega)).mp hq
        refine am_aloadn d_X_layOut_55 rfl ?_
        refine am_get d_X_layOut_56 fl_X_93 hv rfl ?_
        refine am_iload d_X_layOut_59 rfl ?_
        refine am_iload d_X_layOut_61 rfl ?_
        refine am_isub d_X_layOut_63 ?_
        refine am_ti (b := nI (m - (n2 - n))) (pk_sub hml) ?_
        refine am_ialdN (t := 0) (k := m - (n2 - n)) d_X_layOut_64 rfl hs (by omega) (by omega) ?_
        refine am_istore (L' := [some (.ref x), some (.ref v), some (.ref w), some (.int (nI D)), some (.int (nI (n2 - n))), some (.int (nI m)), some (.int (fs (m - (n2 - n)))), none, none]) d_X_layOut_65 (by decide) rfl rfl ?_
        refine am_iloadn d_X_layOut_67 rfl ?_
        refine am_aloadn d_X_layOut_68 rfl ?_
        refine am_get d_X_layOut_69 fl_X_79 hw rfl ?_
        refine am_iload d_X_layOut_72 rfl ?_
        refine am_ialdN (t := 0) (k := m) d_X_layOut_74 rfl he2 (by omega) (by omega) ?_
        refine am_ti (b := nI (F m)) (hF m (by omega)) ?_
        refine am_imul d_X_layOut_75 ?_
        refine am_ti (b := nI (D * F m)) (pk_mul D (F m)) ?_
        refine am_istore (L' := [some (.ref x), some (.ref v), some (.ref w), some (.int (nI D)), some (.int (nI (n2 - n))), some (.int (nI m)), some (.int (fs (m - (n2 - n)))), some (.int (nI (D * F m))), none]) d_X_layOut_76 (by decide) rfl rfl ?_
        refine am_iloadn d_X_layOut_78 rfl ?_
        refine am_istore (L' := [some (.ref x), some (.ref v), some (.ref w), some (.int (nI D)), some (.int (nI (n2 - n))), some (.int (nI m)), some (.int (fs (m - (n2 - n)))), some (.int (nI (D * F m))), some (.int (nI D))]) d_X_layOut_79 (by decide) rfl rfl ?_
        refine c_layOut_i hx0 hp0 hV hV2 (F := F) (G := sv_pt F (sv_sh (n2 - n) fs) n2 (n2 - m)) hDp hD3 (fun t ht => ?_) (fun S1 Fp1 hp1 hf1 hI1 z8 => ?_) (D * F m - D) D (by omega) (Nat.le_refl D) S0 Fp hp hfr (fun t ht => ?_)
        · have h7 := sv_pt_up F (sv_sh (n2 - n) fs) (n2 - (m + 1)) n2 t (by omega) hZ (by rw [← hDe, show n2 - (m + 1) + 1 = n2 - m by omega, hD2]; exact ht)
          rw [← hDe, show n2 - (m + 1) + 1 = n2 - m by omega, show n2 - 1 - (n2 - (m + 1)) = m by omega] at h7
          rw [h7]
          congr 1
          show (if m < n2 - n then (0 : Int32) else fs (m - (n2 - n))) = _; rw [if_neg (by omega)]
        · refine am_iload d_X_layOut_113 rfl ?_
          refine am_istoren (L' := [some (.ref x), some (.ref v), some (.ref w), some (.int (nI (D * F m))), some (.int (nI (n2 - n))), some (.int (nI m)), some (.int (fs (m - (n2 - n)))), some (.int (nI (D * F m))), some (.int z8)]) d_X_layOut_115 (by decide) rfl rfl ?_
          refine am_iinc (v := sv_dn m) (L' := [some (.ref x), some (.ref v), some (.ref w), some (.int (nI (D * F m))), some (.int (nI (n2 - n))), some (.int (sv_dn m)), some (.int (fs (m - (n2 - n)))), some (.int (nI (D * F m))), some (.int z8)]) d_X_layOut_116 rfl (sv_dn_d m) (by decide) rfl rfl ?_
          refine am_goto (tgt := 39) d_X_layOut_119 (by decide) ?_
          refine am_drop (L' := [some (.ref x), some (.ref v), some (.ref w), some (.int (nI (D * F m))), some (.int (nI (n2 - n))), some (.int (sv_dn m)), none, none, none]) (by simp [am_le]) ?_
          rw [← hD2]
          exact ih (by omega) S1 Fp1 hp1 hf1 (fun i hi => hI1 i (by rw [← hD2]; exact hi))
        · rw [hI t (by rw [← hDe]; exact ht)]
          have h7 := sv_pt_lo F (sv_sh (n2 - n) fs) (n2 - (m + 1)) n2 t (by omega) (by rw [← hDe]; exact ht)
          rw [show n2 - (m + 1) + 1 = n2 - m by omega] at h7
          rw [h7]
      · have hml : m < n2 - n := Nat.lt_of_not_le (fun z => hq (nI_le z (by omega)))
        refine am_iconst 0 d_X_layOut_51 (by decide) ?_
        refine am_goto (tgt := 65) d_X_layOut_52 (by decide) ?_
        refine am_istore (L' := [some (.ref x), some (.ref v), some (.ref w), some (.int (nI D)), some (.int (nI (n2 - n))), some (.int (nI m)), some (.int 0), none, none]) d_X_layOut_65 (by decide) rfl rfl ?_
        refine am_iloadn d_X_layOut_67 rfl ?_
        refine am_aloadn d_X_layOut_68 rfl ?_
        refine am_get d_X_layOut_69 fl_X_79 hw rfl ?_
        refine am_iload d_X_layOut_72 rfl ?_
        refine am_ialdN (t := 0) (k := m) d_X_layOut_74 rfl he2 (by omega) (by omega) ?_
        refine am_ti (b := nI (F m)) (hF m (by omega)) ?_
        refine am_imul d_X_layOut_75 ?_
        refine am_ti (b := nI (D * F m)) (pk_mul D (F m)) ?_
        refine am_istore (L' := [some (.ref x), some (.ref v), some (.ref w), some (.int (nI D)), some (.int (nI (n2 - n))), some (.int (nI m)), some (.int 0), some (.int (nI (D * F m))), none]) d_X_layOut_76 (by decide) rfl rfl ?_
        refine am_iloadn d_X_layOut_78 rfl ?_
        refine am_istore (L' := [some (.ref x), some (.ref v), some (.ref w), some (.int (nI D)), some (.int (nI (n2 - n))), some (.int (nI m)), some (.int 0), some (.int (nI (D * F m))), some (.int (nI D))]) d_X_layOut_79 (by decide) rfl rfl ?_
        refine c_layOut_i hx0 hp0 hV hV2 (F := F) (G := sv_pt F (sv_sh (n2 - n) fs) n2 (n2 - m)) hDp hD3 (fun t ht => ?_) (fun S1 Fp1 hp1 hf1 hI1 z8 => ?_) (D * F m - D) D (by omega) (Nat.le_refl D) S0 Fp hp hfr (fun t ht => ?_)
        · have h7 := sv_pt_up F (sv_sh (n2 - n) fs) (n2 - (m + 1)) n2 t (by omega) hZ (by rw [← hDe, show n2 - (m + 1) + 1 = n2 - m by omega, hD2]; exact ht)
          rw [← hDe, show n2 - (m + 1) + 1 = n2 - m by omega, show n2 - 1 - (n2 - (m + 1)) = m by omega] at h7
          rw [h7]
          congr 1
          show (if m < n2 - n then (0 : Int32) else fs (m - (n2 - n))) = _; rw [if_pos hml]
        · refine am_iload d_X_layOut_113 rfl ?_
          refine am_istoren (L' := [some (.ref x), some (.ref v), some (.ref w), some (.int (nI (D * F m))), some (.int (nI (n2 - n))), some (.int (nI m)), some (.int 0), some (.int (nI (D * F m))), some (.int z8)]) d_X_layOut_115 (by decide) rfl rfl ?_
          refine am_iinc (v := sv_dn m) (L' := [some (.ref x), some (.ref v), some (.ref w), some (.int (nI (D * F m))), some (.int (nI (n2 - n))), some (.int (sv_dn m)), some (.int 0), some (.int (nI (D * F m))), some (.int z8)]) d_X_layOut_116 rfl (sv_dn_d m) (by decide) rfl rfl ?_
          refine am_goto (tgt := 39) d_X_layOut_119 (by decide) ?_
          refine am_drop (L' := [some (.ref x), some (.ref v), some (.ref w), some (.int (nI (D * F m))), some (.int (nI (n2 - n))), some (.int (sv_dn m)), none, none, none]) (by simp [am_le]) ?_
          rw [← hD2]
          exact ih (by omega) S1 Fp1 hp1 hf1 (fun i hi => hI1 i (by rw [← hD2]; exact hi))
        · rw [hI t (by rw [← hDe]; exact ht)]
          have h7 := sv_pt_lo F (sv_sh (n2 - n) fs) (n2 - (m + 1)) n2 t (by omega) (by rw [← hDe]; exact ht)
          rw [show n2 - (m + 1) + 1 = n2 - m by omega] at h7
          rw [h7]
set_option maxHeartbeats 4000000 in
set_option maxRecDepth 100000 in
/-- layOut: where the items lie -/
theorem c_layOut {g : am_G} {d : Nat} {S : am_S} {x B1 B2 B3 B4 B5 : Nat} {ns nv : Int32} (hx0 : S.1 x = some (.inr (2, [.ref B1, .ref B2, .int ns, .int nv, .ref B3, .ref B4, .ref B5]))) {fp : Nat → Int32} (hp0 : S.1 B3 = some (.inl (0, 3000, .inl fp))) {v st : Nat} {sa : Int32} {n : Nat} {it : Int32} {ex sp : Nat} {fe fs : Nat → Int32} (hV : sv_V S.1 v st sa n it ex sp fe fs) {w st2 : Nat} {sa2 : Int32} {n2 : Nat} {ex2 sp2 : Nat} {fe2 fs2 : Nat → Int32} {N : Nat} (hV2 : sv_V S.1 w st2 sa2 n2 (nI N) ex2 sp2 fe2 fs2) (F : Nat → Nat) (hF : ∀ k, k < n2 → fe2 k = nI (F k)) (hO : sv_ok F n2) (hN : sv_pr F n2 = N) (hN3 : N ≤ 3000) (hnn : n ≤ n2) {P : am_O → am_S → Prop} (hP : ∀ (S1 : am_S) (Fp : Nat → Int32), S1.1 B3 = some (.inl (0, 3000, .inl Fp)) → sv_f1 S S1 B3 → (∀ i, i < N → Fp i = sa + sv_pl F (sv_sh (n2 - n) fs) n2 i) → P (.inl none) S1) : am_W g d mm_X_layOut (0, am_ent [.ref x, .ref v, .ref w] 9, []) S (P) := by
  obtain ⟨hv0, he0, hs0, hne, hn4⟩ := id hV
  obtain ⟨hw0, he20, hs20, hne2, hn42⟩ := id hV2
  show am_W g d mm_X_layOut (0, [some (.ref x), some (.ref v), some (.ref w), none, none, none, none, none, none], []) S _
  refine am_aloadn d_X_layOut_0 rfl ?_
  refine am_get d_X_layOut_1 fl_X_139 hw0 rfl ?_
  refine am_ifne (tgt := 8) d_X_layOut_4 (by decide) (fun hc => ?_) (fun hc => ?_)
  · have hN0 : 0 < N := Nat.pos_of_ne_zero (fun h => hc (by rw [h]; exact nI_0))
    have hZ : ∀ k, k < n2 → 0 < F k := sv_pr_pos (by rw [hN]; exact hN0)
    refine am_aloadn d_X_layOut_8 rfl ?_
    refine am_get d_X_layOut_9 fl_X_21 hx0 rfl ?_
    refine am_iconst 0 d_X_layOut_12 (by decide) ?_
    refine am_aloadn d_X_layOut_13 rfl ?_
    refine am_get d_X_layOut_14 fl_X_90 hv0 rfl ?_
    show am_W _ _ _ (_, _, [_, .int (nI 0), _]) _ _
    refine am_iastN (t := 0) d_X_layOut_17 rfl hp0 (by omega) (by omega) ?_
    obtain ⟨S_1, eS_1⟩ : ∃ z : am_S, z = (am_up S.1 B3 (.inl (0, 3000, .inl (upd fp 0 sa))), S.2) := ⟨_, rfl⟩
    change am_W _ _ _ _ (am_up S.1 B3 (.inl (0, 3000, .inl (upd fp 0 sa))), S.2) _
    rw [← eS_1]
    have h_2 : S_1.1 x = some (.inr (2, [.ref B1, .ref B2, .int ns, .int nv, .ref B3, .ref B4, .ref B5])) := by rw [eS_1]; exact (am_up_n (am_nd hx0 hp0 (by simp [am_kd]))).trans hx0
    have h_3 : S_1.1 v = some (.inr (1, [.ref st, .int sa, .int (nI n), .int it, .ref ex, .ref sp])) := by rw [eS_1]; exact (am_up_n (am_nd hv0 hp0 (by simp [am_kd]))).trans hv0
    have h_4 : S_1.1 sp = some (.inl (0, 4, .inl fs)) := by rw [eS_1]; exact (am_up_n (am_nd hs0 hp0 (by simp [am_kd]))).trans hs0
    have h_5 : S_1.1 w = some (.inr (1, [.ref st2, .int sa2, .int (nI n2), .int (nI N), .ref ex2, .ref sp2])) := by rw [eS_1]; exact (am_up_n (am_nd hw0 hp0 (by simp [am_kd]))).trans hw0
    have h_6 : S_1.1 ex2 = some (.inl (0, 4, .inl fe2)) := by rw [eS_1]; exact (am_up_n (am_nd he20 hp0 (by simp [am_kd]))).trans he20
    have hf_7 : sv_f1 S S_1 B3 := by rw [eS_1]; exact sv_f1.rf.u
    have h_8 : S_1.1 B3 = some (.inl (0, 3000, .inl (upd fp 0 sa))) := by rw [eS_1]; exact am_up_s
    have hnS_1 : S_1.2.1 = S.2.1 := by rw [eS_1]
    have hzS_1 : S_1.2.2 = S.2.2 := by rw [eS_1]
    refine am_iconst 1 d_X_layOut_18 (by decide) ?_
    refine am_istoren (L' := [some (.ref x), some (.ref v), some (.ref w), some (.int 1), none, none, none, none, none]) d_X_layOut_19 (by decide) rfl rfl ?_
    refine am_aloadn d_X_layOut_20 rfl ?_
    refine am_get d_X_layOut_21 fl_X_104 h_5 rfl ?_
    refine am_aloadn d_X_layOut_24 rfl ?_
    refine am_get d_X_layOut_25 fl_X_104 h_3 rfl ?_
    refine am_isub d_X_layOut_28 ?_
    refine am_ti (b := nI (n2 - n)) (pk_sub hnn) ?_
    refine am_istore (L' := [some (.ref x), some (.ref v), some (.ref w), some (.int 1), some (.int (nI (n2 - n))), none, none, none, none]) d_X_layOut_29 (by decide) rfl rfl ?_
    refine am_aloadn d_X_layOut_31 rfl ?_
    refine am_get d_X_layOut_32 fl_X_104 h_5 rfl ?_
    refine am_iconst 1 d_X_layOut_35 (by decide) ?_
    refine am_isub d_X_layOut_36 ?_
    refine am_ti (b := sv_dn n2) rfl ?_
    refine am_istore (L' := [some (.ref x), some (.ref v), some (.ref w), some (.int 1), some (.int (nI (n2 - n))), some (.int (sv_dn n2)), none, none, none]) d_X_layOut_37 (by decide) rfl rfl ?_
    have h9 : (1 : Int32) = nI (sv_dp F n2 (n2 - n2)) := by rw [Nat.sub_self, sv_dp_0]; rfl
    rw [h9]
    refine c_layOut_o hx0 hp0 hV hV2 F hF hO hN hN3 hnn hZ hP n2 (Nat.le_refl n2) _ _ h_8 hf_7 (fun i hi => ?_)
    rw [Nat.sub_self, sv_dp_0] at hi
    obtain rfl : i = 0 := by omega
    rw [Nat.sub_self, sv_pt_0, Int32.add_zero]
    exact pk_us
  · have hN0 : N = 0 := (nI_eq (by omega) (by decide)).mp (hc.trans nI_0.symm)
    exact am_vret d_X_layOut_7 rfl (hP S fp hp0 sv_f1.rf (fun i hi => absurd hi (by omega)))
