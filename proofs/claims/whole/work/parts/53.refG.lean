/-! the reference: same, shared -/
theorem q_two_no {T : sv_T} {v w : Int32} {f : sv_A → sv_A → sv_Q} (h : ¬ (sv_iv T v ∧ sv_iv T w)) : sv_qv T v (fun a => sv_qv T w (f a)) = (4, .null, T) := by
  unfold sv_qv
  split
  · rename_i h1
    exact if_neg (fun q => h ⟨h1, q⟩)
  · rfl
set_option maxHeartbeats 4000000 in
set_option maxRecDepth 100000 in
/-- same, the extents -/
theorem e_same_1 {g : am_G} {d : Nat} {S : am_S} {T : sv_T} {th : Int32} {na : Nat} {ne nw rd : Nat → Int64} {mt : Nat → Int32} (hM : sv_N g S.1 T th na ne nw rd mt) {j l : Nat} (hj : j < T.nv) (hl : l < T.nv) {P : am_O → am_S → Prop} (hK : ∀ z : Int32, am_W g d mm_M_same (108, [some (.ref (g.2.2.1 + 6)), some (.int (nI j)), some (.int (nI l)), some (.int (sv_if ((T.vw j).ax = (T.vw l).ax ∧ ∀ t, t < (T.vw j).ax → (T.vw j).ex t = (T.vw l).ex t) 1 0)), some (.int z)], []) S P) : ∀ (m k : Nat), k + m = (T.vw j).ax → am_W g d mm_M_same (56, [some (.ref (g.2.2.1 + 6)), some (.int (nI j)), some (.int (nI l)), some (.int (sv_if ((T.vw j).ax = (T.vw l).ax ∧ ∀ t, t < k → (T.vw j).ex t = (T.vw l).ex t) 1 0)), some (.int (nI k))], []) S P := by
  obtain ⟨fl, fz, fN, fS, fa, fx, fe, fs, ⟨m0, m1, m2, m3, m4, m5, m6, m7, m8, m9, m10, m11, m12⟩, ⟨t1, t2, t3⟩, hw⟩ := id hM
  have h80 := hw.2.1
  have h12 := hw.1
  obtain ⟨v1, v2, v3, v4⟩ := t3 j hj
  obtain ⟨w1, w2, w3, w4, w5, w6, w7⟩ := hw.2.2.2 j hj
  obtain ⟨v1b, v2b, v3b, v4b⟩ := t3 l hl
  obtain ⟨w1b, w2b, w3b, w4b, w5b, w6b, w7b⟩ := hw.2.2.2 l hl
  intro m
  induction m using Nat.strongRecOn with
  | ind m ih =>
    intro k hk
    refine am_iloadn d_M_same_56 rfl ?_
    refine am_ifeq (tgt := 108) d_M_same_57 (by decide) (fun hz => ?_) (fun hz => ?_)
    · rw [sv_if_eq (show ((T.vw j).ax = (T.vw l).ax ∧ ∀ t, t < k → (T.vw j).ex t = (T.vw l).ex t) ↔ ((T.vw j).ax = (T.vw l).ax ∧ ∀ t, t < (T.vw j).ax → (T.vw j).ex t = (T.vw l).ex t) from ⟨fun q => absurd q (sv_b0 hz), fun q => absurd ⟨q.1, fun t ht => q.2 t (by omega)⟩ (sv_b0 hz)⟩)]
      exact hK (nI k)
    · refine am_iload d_M_same_60 rfl ?_
      refine am_aloadn d_M_same_62 rfl ?_
      refine am_get d_M_same_63 fl_M_26 m0 rfl ?_
      refine am_iloadn d_M_same_66 rfl ?_
      refine am_ialdN (t := 0) (k := j) d_M_same_67 rfl m6 (by omega) (by omega) ?_
      refine am_ti (b := nI (T.vw j).ax) v3 ?_
      refine am_icge (tgt := 108) d_M_same_68 (by decide) (fun hc => ?_) (fun hc => ?_)
      · have hk0 : (T.vw j).ax ≤ k := (nI_leI (by omega) (by omega)).mp hc
        rw [sv_if_eq (show ((T.vw j).ax = (T.vw l).ax ∧ ∀ t, t < k → (T.vw j).ex t = (T.vw l).ex t) ↔ ((T.vw j).ax = (T.vw l).ax ∧ ∀ t, t < (T.vw j).ax → (T.vw j).ex t = (T.vw l).ex t) from ⟨fun q => ⟨q.1, fun t ht => q.2 t (by omega)⟩, fun q => ⟨q.1, fun t ht => q.2 t (by omega)⟩⟩)]
        exact hK (nI k)
      · have hlt : k < (T.vw j).ax := Nat.lt_of_not_le (fun q => hc (nI_le q (by omega)))
        have hD := sv_b1 hz
        have hax := hD.1
        have hO9 := w3 k hlt
        have hO8 := w3b k (by omega)
        refine am_aloadn d_M_same_71 rfl ?_
        refine am_get d_M_same_72 fl_M_29 m0 rfl ?_
        refine am_iconst 4 d_M_same_75 (by decide) ?_
        refine am_iloadn d_M_same_76 rfl ?_
        refine am_imul d_M_same_77 ?_
        refine am_iload d_M_same_78 rfl ?_
        refine am_iadd d_M_same_80 ?_
        refine am_ti (b := nI (4 * j + k)) (sv_4 j k) ?_
        refine am_ialdN (t := 0) (k := 4 * j + k) d_M_same_81 rfl m7 (by omega) (by omega) ?_
        refine am_ti (b := nI ((T.vw j).ex k)) ((v4 k hlt).1) ?_
        refine am_aloadn d_M_same_82 rfl ?_
        refine am_get d_M_same_83 fl_M_29 m0 rfl ?_
        refine am_iconst 4 d_M_same_86 (by decide) ?_
        refine am_iloadn d_M_same_87 rfl ?_
        refine am_imul d_M_same_88 ?_
        refine am_iload d_M_same_89 rfl ?_
        refine am_iadd d_M_same_91 ?_
        refine am_ti (b := nI (4 * l + k)) (sv_4 l k) ?_
        refine am_ialdN (t := 0) (k := 4 * l + k) d_M_same_92 rfl m7 (by omega) (by omega) ?_
        refine am_ti (b := nI ((T.vw l).ex k)) ((v4b k (by omega)).1) ?_
        refine am_icne (tgt := 100) d_M_same_93 (by decide) (fun hy => ?_) (fun hy => ?_)
        · refine am_iconst 0 d_M_same_100 (by decide) ?_
          refine am_istoren (L' := [some (.ref (g.2.2.1 + 6)), some (.int (nI j)), some (.int (nI l)), some (.int 0), some (.int (nI k))]) d_M_same_101 (by decide) rfl rfl ?_
          refine am_iinc (v := nI (k + 1)) (L' := [some (.ref (g.2.2.1 + 6)), some (.int (nI j)), some (.int (nI l)), some (.int 0), some (.int (nI (k + 1)))]) d_M_same_102 rfl (nI_1 k) (by decide) rfl rfl ?_
          refine am_goto (tgt := 56) d_M_same_105 (by decide) ?_
          have key := ih (m - 1) (by omega) (k + 1) (by omega)
          rw [sv_if_n (c := (T.vw j).ax = (T.vw l).ax ∧ ∀ t, t < k + 1 → (T.vw j).ex t = (T.vw l).ex t) (fun q => hy (by rw [q.2 k (by omega)]))] at key
          exact key
        · have he := (nI_eq hO9 hO8).mp hy
          refine am_iconst 1 d_M_same_96 (by decide) ?_
          refine am_goto (tgt := 101) d_M_same_97 (by decide) ?_
          refine am_istoren (L' := [some (.ref (g.2.2.1 + 6)), some (.int (nI j)), some (.int (nI l)), some (.int 1), some (.int (nI k))]) d_M_same_101 (by decide) rfl rfl ?_
          refine am_iinc (v := nI (k + 1)) (L' := [some (.ref (g.2.2.1 + 6)), some (.int (nI j)), some (.int (nI l)), some (.int 1), some (.int (nI (k + 1)))]) d_M_same_102 rfl (nI_1 k) (by decide) rfl rfl ?_
          refine am_goto (tgt := 56) d_M_same_105 (by decide) ?_
          have key := ih (m - 1) (by omega) (k + 1) (by omega)
          rw [sv_if_y (c := (T.vw j).ax = (T.vw l).ax ∧ ∀ t, t < k + 1 → (T.vw j).ex t = (T.vw l).ex t) (⟨hax, fun t ht => (Nat.lt_or_ge t k).elim (hD.2 t) (fun z => by rw [show t = k by omega]; exact he)⟩)] at key
          exact key
set_option maxHeartbeats 4000000 in
set_option maxRecDepth 100000 in
/-- same, the numbers -/
theorem e_same_2 {g : am_G} {d : Nat} {S : am_S} {T : sv_T} {th : Int32} {na : Nat} {ne nw rd : Nat → Int64} {mt : Nat → Int32} (hM : sv_N g S.1 T th na ne nw rd mt) {j l : Nat} (hj : j < T.nv) (hl : l < T.nv) {P : am_O → am_S → Prop} (hP : P (.inl (some (.int (sv_if (((T.vw j).ax = (T.vw l).ax ∧ ∀ t, t < (T.vw j).ax → (T.vw j).ex t = (T.vw l).ex t) ∧ ∀ i, i < (T.vw j).it → T.at (T.vw j) i = T.at (T.vw l) i) 1 0)))) S) : ∀ (m k : Nat), k + m = (T.vw j).it → am_W g (d + 3) mm_M_same (111, [some (.ref (g.2.2.1 + 6)), some (.int (nI j)), some (.int (nI l)), some (.int (sv_if (((T.vw j).ax = (T.vw l).ax ∧ ∀ t, t < (T.vw j).ax → (T.vw j).ex t = (T.vw l).ex t) ∧ ∀ i, i < k → T.at (T.vw j) i = T.at (T.vw l) i) 1 0)), some (.int (nI k))], []) S P := by
  obtain ⟨fl, fz, fN, fS, fa, fx, fe, fs, ⟨m0, m1, m2, m3, m4, m5, m6, m7, m8, m9, m10, m11, m12⟩, ⟨t1, t2, t3⟩, hw⟩ := id hM
  have h80 := hw.2.1
  have h12 := hw.1
  obtain ⟨v1, v2, v3, v4⟩ := t3 j hj
  obtain ⟨w1, w2, w3, w4, w5, w6, w7⟩ := hw.2.2.2 j hj
  obtain ⟨v1b, v2b, v3b, v4b⟩ := t3 l hl
  obtain ⟨w1b, w2b, w3b, w4b, w5b, w6b, w7b⟩ := hw.2.2.2 l hl
  intro m
  induction m using Nat.strongRecOn with
  | ind m ih =>
    intro k hk
    refine am_iloadn d_M_same_111 rfl ?_
    refine am_ifeq (tgt := 155) d_M_same_112 (by decide) (fun hz => ?_) (fun hz => ?_)
    · rw [sv_if_eq (show (((T.vw j).ax = (T.vw l).ax ∧ ∀ t, t < (T.vw j).ax → (T.vw j).ex t = (T.vw l).ex t) ∧ ∀ i, i < k → T.at (T.vw j) i = T.at (T.vw l) i) ↔ (((T.vw j).ax = (T.vw l).ax ∧ ∀ t, t < (T.vw j).ax → (T.vw j).ex t = (T.vw l).ex t) ∧ ∀ i, i < (T.vw j).it → T.at (T.vw j) i = T.at (T.vw l) i) from ⟨fun q => absurd q (sv_b0 hz), fun q => absurd ⟨q.1, fun t ht => q.2 t (by omega)⟩ (sv_b0 hz)⟩)]
      refine am_iloadn d_M_same_155 rfl ?_
      exact am_zret d_M_same_156 rfl sv_bo_n hP
    · refine am_iload d_M_same_115 rfl ?_
      refine am_aloadn d_M_same_117 rfl ?_
      refine am_iloadn d_M_same_118 rfl ?_
      refine am_cpsV [.int (nI j)] [.int (nI k)] d_M_same_119 cV_M_117 rfl m0 rfl rfl (Nat.le_of_ble_eq_true rfl) (Nat.le_of_ble_eq_true rfl) (m_items hM hj ?_)
      show am_W g (d + 3) mm_M_same (122, [some (.ref (g.2.2.1 + 6)), some (.int (nI j)), some (.int (nI l)), some (.int (sv_if (((T.vw j).ax = (T.vw l).ax ∧ ∀ t, t < (T.vw j).ax → (T.vw j).ex t = (T.vw l).ex t) ∧ ∀ i, i < k → T.at (T.vw j) i = T.at (T.vw l) i) 1 0)), some (.int (nI k))], [.int (nI (T.vw j).it), .int (nI k)]) S _
      refine am_icge (tgt := 155) d_M_same_122 (by decide) (fun hc => ?_) (fun hc => ?_)
      · have hk0 : (T.vw j).it ≤ k := (nI_leI (by omega) (by omega)).mp hc
        rw [sv_if_eq (show (((T.vw j).ax = (T.vw l).ax ∧ ∀ t, t < (T.vw j).ax → (T.vw j).ex t = (T.vw l).ex t) ∧ ∀ i, i < k → T.at (T.vw j) i = T.at (T.vw l) i) ↔ (((T.vw j).ax = (T.vw l).ax ∧ ∀ t, t < (T.vw j).ax → (T.vw j).ex t = (T.vw l).ex t) ∧ ∀ i, i < (T.vw j).it → T.at (T.vw j) i = T.at (T.vw l) i) from ⟨fun q => ⟨q.1, fun t ht => q.2 t (by omega)⟩, fun q => ⟨q.1, fun t ht => q.2 t (by omega)⟩⟩)]
        refine am_iloadn d_M_same_155 rfl ?_
        exact am_zret d_M_same_156 rfl sv_bo_n hP
      · have hlt : k < (T.vw j).it := Nat.lt_of_not_le (fun q => hc (nI_le q (by omega)))
        have hD := sv_b1 hz
        have hit : (T.vw j).it = (T.vw l).it := by show sv_pr (T.vw j).ex (T.vw j).ax = sv_pr (T.vw l).ex (T.vw l).ax; rw [← hD.1.1]; exact sv_pr_congr hD.1.2
        refine am_aloadn d_M_same_125 rfl ?_
        refine am_iloadn d_M_same_126 rfl ?_
        refine am_iload d_M_same_127 rfl ?_
        refine am_cpsV [.int (nI j), .int (nI k)] [] d_M_same_129 cV_M_128 rfl m0 rfl rfl (Nat.le_of_ble_eq_true rfl) (Nat.le_of_ble_eq_true rfl) (m_item hM hj hlt ?_)
        show am_W g (d + 3) mm_M_same (132, [some (.ref (g.2.2.1 + 6)), some (.int (nI j)), some (.int (nI l)), some (.int (sv_if (((T.vw j).ax = (T.vw l).ax ∧ ∀ t, t < (T.vw j).ax → (T.vw j).ex t = (T.vw l).ex t) ∧ ∀ i, i < k → T.at (T.vw j) i = T.at (T.vw l) i) 1 0)), some (.int (nI k))], [.long (T.at (T.vw j) k)]) S _
        refine am_aloadn d_M_same_132 rfl ?_
        refine am_iloadn d_M_same_133 rfl ?_
        refine am_iload d_M_same_134 rfl ?_
        refine am_cpsV [.int (nI l), .int (nI k)] [.long (T.at (T.vw j) k)] d_M_same_136 cV_M_128 rfl m0 rfl rfl (Nat.le_of_ble_eq_true rfl) (Nat.le_of_ble_eq_true rfl) (m_item hM hl (i := k) (by omega) ?_)
        show am_W g (d + 3) mm_M_same (139, [some (.ref (g.2.2.1 + 6)), some (.int (nI j)), some (.int (nI l)), some (.int (sv_if (((T.vw j).ax = (T.vw l).ax ∧ ∀ t, t < (T.vw j).ax → (T.vw j).ex t = (T.vw l).ex t) ∧ ∀ i, i < k → T.at (T.vw j) i = T.at (T.vw l) i) 1 0)), some (.int (nI k))], [.long (T.at (T.vw l) k), .long (T.at (T.vw j) k)]) S _
        refine am_lcmp d_M_same_139 ?_
        refine am_ifne (tgt := 147) d_M_same_140 (by decide) (fun hy => ?_) (fun hy => ?_)
        · refine am_iconst 0 d_M_same_147 (by decide) ?_
          refine am_istoren (L' := [some (.ref (g.2.2.1 + 6)), some (.int (nI j)), some (.int (nI l)), some (.int 0), some (.int (nI k))]) d_M_same_148 (by decide) rfl rfl ?_
          refine am_iinc (v := nI (k + 1)) (L' := [some (.ref (g.2.2.1 + 6)), some (.int (nI j)), some (.int (nI l)), some (.int 0), some (.int (nI (k + 1)))]) d_M_same_149 rfl (nI_1 k) (by decide) rfl rfl ?_
          refine am_goto (tgt := 111) d_M_same_152 (by decide) ?_
          have key := ih (m - 1) (by omega) (k + 1) (by omega)
          rw [sv_if_n (c := ((T.vw j).ax = (T.vw l).ax ∧ ∀ t, t < (T.vw j).ax → (T.vw j).ex t = (T.vw l).ex t) ∧ ∀ i, i < k + 1 → T.at (T.vw j) i = T.at (T.vw l) i) (fun q => hy (sv_lce.mpr (q.2 k (by omega))))] at key
          exact key
        · refine am_iconst 1 d_M_same_143 (by decide) ?_
          refine am_goto (tgt := 148) d_M_same_144 (by decide) ?_
          refine am_istoren (L' := [some (.ref (g.2.2.1 + 6)), some (.int (nI j)), some (.int (nI l)), some (.int 1), some (.int (nI k))]) d_M_same_148 (by decide) rfl rfl ?_
          refine am_iinc (v := nI (k + 1)) (L' := [some (.ref (g.2.2.1 + 6)), some (.int (nI j)), some (.int (nI l)), some (.int 1), some (.int (nI (k + 1)))]) d_M_same_149 rfl (nI_1 k) (by decide) rfl rfl ?_
          refine am_goto (tgt := 111) d_M_same_152 (by decide) ?_
          have key := ih (m - 1) (by omega) (k + 1) (by omega)
          rw [sv_if_y (c := ((T.vw j).ax = (T.vw l).ax ∧ ∀ t, t < (T.vw j).ax → (T.vw j).ex t = (T.vw l).ex t) ∧ ∀ i, i < k + 1 → T.at (T.vw j) i = T.at (T.vw l) i) (⟨hD.1, fun t ht => (Nat.lt_or_ge t k).elim (hD.2 t) (fun z => by rw [show t = k by omega]; exact sv_lce.mp hy)⟩)] at key
          exact key
set_option maxHeartbeats 4000000 in
set_option maxRecDepth 100000 in
/-- M_same -/
theorem e_same {g : am_G} {d : Nat} {S : am_S} {T : sv_T} {th : Int32} {na : Nat} {ne nw rd : Nat → Int64} {mt : Nat → Int32} (hM : sv_N g S.1 T th na ne nw rd mt) {v w : Int32} : am_W g (d + 3) mm_M_same (0, am_ent [.ref (g.2.2.1 + 6), .int v, .int w] 5, []) S (sv_E g S (q_same T v w) (sv_cd 4 6 9)) := by
  obtain ⟨fl, fz, fN, fS, fa, fx, fe, fs, ⟨m0, m1, m2, m3, m4, m5, m6, m7, m8, m9, m10, m11, m12⟩, ⟨t1, t2, t3⟩, hw⟩ := id hM
  have h80 := hw.2.1
  have h12 := hw.1
  show am_W g (d + 3) mm_M_same (0, [some (.ref (g.2.2.1 + 6)), some (.int v), some (.int w), none, none], []) S _
  refine am_aloadn d_M_same_0 rfl ?_
  refine am_cut (F := (22, [some (.ref (g.2.2.1 + 6)), some (.int v), some (.int w), none, none], [.int (sv_if (sv_iv T v ∧ sv_iv T w) 0 1), .ref (g.2.2.1 + 6)])) ?_ (fun key => ?_)
  · by_cases hC : sv_iv T v ∧ sv_iv T w
    · rw [sv_if_y hC]
      obtain ⟨j, hj, rfl⟩ := sv_iv_of hC.1 h80
      obtain ⟨l, hl, rfl⟩ := sv_iv_of hC.2 h80
      rw [q_same, sv_qv_j hj h80, sv_qv_j hl h80]
      obtain ⟨v1, v2, v3, v4⟩ := t3 j hj
      obtain ⟨v1b, v2b, v3b, v4b⟩ := t3 l hl
      have hx4 := (hw.2.2.2 j hj).2.1
      have hx4b := (hw.2.2.2 l hl).2.1
      refine am_put d_M_same_22 fp_M_48 m0 rfl rfl (Nat.le_of_ble_eq_true rfl) ?_
      obtain ⟨S_1, eS_1⟩ : ∃ z : am_S, z = (am_up S.1 (g.2.2.1 + 6) (.inr (3, [.int 0, .int (nI T.ns), .ref (g.2.2.1 + 7), .ref (g.2.2.1 + 8), .ref (g.2.2.1 + 9), .int (nI T.nv), .ref (g.2.2.1 + 10), .ref (g.2.2.1 + 11), .ref (g.2.2.1 + 12), .ref (g.2.2.1 + 13), .ref (g.2.2.1 + 14), .ref (g.2.2.1 + 15), .ref (g.2.2.1 + 16), .int (nI na), .ref (g.2.2.1 + 17), .ref (g.2.2.1 + 18)])), S.2) := ⟨_, rfl⟩
      change am_W _ _ _ _ (am_up S.1 (g.2.2.1 + 6) (.inr (3, [.int 0, .int (nI T.ns), .ref (g.2.2.1 + 7), .ref (g.2.2.1 + 8), .ref (g.2.2.1 + 9), .int (nI T.nv), .ref (g.2.2.1 + 10), .ref (g.2.2.1 + 11), .ref (g.2.2.1 + 12), .ref (g.2.2.1 + 13), .ref (g.2.2.1 + 14), .ref (g.2.2.1 + 15), .ref (g.2.2.1 + 16), .int (nI na), .ref (g.2.2.1 + 17), .ref (g.2.2.1 + 18)])), S.2) _
      rw [← eS_1]
      have h_2 : S_1.1 (g.2.2.1 + 7) = some (.inl (0, 12, .inl fl)) := by rw [eS_1]; exact (am_up_n (by omega)).trans m1
      have h_3 : S_1.1 (g.2.2.1 + 8) = some (.inl (0, 12, .inl fz)) := by rw [eS_1]; exact (am_up_n (by omega)).trans m2
      have h_4 : S_1.1 (g.2.2.1 + 9) = some (.inl (1, 3600, .inr (.inl fN))) := by rw [eS_1]; exact (am_up_n (by omega)).trans m3
      have h_5 : S_1.1 (g.2.2.1 + 10) = some (.inl (0, 80, .inl fS)) := by rw [eS_1]; exact (am_up_n (by omega)).trans m4
      have h_6 : S_1.1 (g.2.2.1 + 11) = some (.inl (0, 80, .inl fa)) := by rw [eS_1]; exact (am_up_n (by omega)).trans m5
      have h_7 : S_1.1 (g.2.2.1 + 12) = some (.inl (0, 80, .inl fx)) := by rw [eS_1]; exact (am_up_n (by omega)).trans m6
      have h_8 : S_1.1 (g.2.2.1 + 13) = some (.inl (0, 320, .inl fe)) := by rw [eS_1]; exact (am_up_n (by omega)).trans m7
      have h_9 : S_1.1 (g.2.2.1 + 14) = some (.inl (0, 320, .inl fs)) := by rw [eS_1]; exact (am_up_n (by omega)).trans m8
      have h_10 : S_1.1 (g.2.2.1 + 15) = some (.inl (1, 5, .inr (.inl ne))) := by rw [eS_1]; exact (am_up_n (by omega)).trans m9
      have h_11 : S_1.1 (g.2.2.1 + 16) = some (.inl (1, 5, .inr (.inl nw))) := by rw [eS_1]; exact (am_up_n (by omega)).trans m10
      have h_12 : S_1.1 (g.2.2.1 + 17) = some (.inl (1, 3000, .inr (.inl rd))) := by rw [eS_1]; exact (am_up_n (by omega)).trans m11
      have h_13 : S_1.1 (g.2.2.1 + 18) = some (.inl (2, 300, .inl mt)) := by rw [eS_1]; exact (am_up_n (by omega)).trans m12
      have hf_14 : sv_MF g S S_1 := by rw [eS_1]; exact sv_MF.rf.u (by omega) (by omega)
      have h_15 : S_1.1 (g.2.2.1 + 6) = some (.inr (3, [.int 0, .int (nI T.ns), .ref (g.2.2.1 + 7), .ref (g.2.2.1 + 8), .ref (g.2.2.1 + 9), .int (nI T.nv), .ref (g.2.2.1 + 10), .ref (g.2.2.1 + 11), .ref (g.2.2.1 + 12), .ref (g.2.2.1 + 13), .ref (g.2.2.1 + 14), .ref (g.2.2.1 + 15), .ref (g.2.2.1 + 16), .int (nI na), .ref (g.2.2.1 + 17), .ref (g.2.2.1 + 18)])) := by rw [eS_1]; exact am_up_s
      have hnS_1 : S_1.2.1 = S.2.1 := by rw [eS_1]
      have hzS_1 : S_1.2.2 = S.2.2 := by rw [eS_1]
      have hN1 : sv_N g S_1.1 T 0 na ne nw rd mt := ⟨fl, fz, fN, fS, fa, fx, fe, fs, ⟨h_15, h_2, h_3, h_4, h_5, h_6, h_7, h_8, h_9, h_10, h_11, h_12, h_13⟩, ⟨t1, t2, t3⟩, hw⟩
      have hf1 : sv_MF g S S_1 := hf_14
      refine am_aloadn d_M_same_25 rfl ?_
      refine am_get d_M_same_26 fl_M_48 h_15 rfl ?_
      refine am_ifne (tgt := 51) d_M_same_29 (by decide) (fun hz => ?_) (fun hz => ?_)
      · exact absurd rfl hz
      · refine am_aloadn d_M_same_32 rfl ?_
        refine am_get d_M_same_33 fl_M_26 h_15 rfl ?_
        refine am_iloadn d_M_same_36 rfl ?_
        refine am_ialdN (t := 0) (k := j) d_M_same_37 rfl h_7 (by omega) (by omega) ?_
        refine am_ti (b := nI (T.vw j).ax) v3 ?_
        refine am_aloadn d_M_same_38 rfl ?_
        refine am_get d_M_same_39 fl_M_26 h_15 rfl ?_
        refine am_iloadn d_M_same_42 rfl ?_
        refine am_ialdN (t := 0) (k := l) d_M_same_43 rfl h_7 (by omega) (by omega) ?_
        refine am_ti (b := nI (T.vw l).ax) v3b ?_
        refine am_icne (tgt := 51) d_M_same_44 (by decide) (fun hy => ?_) (fun hy => ?_)
        · refine am_iconst 0 d_M_same_51 (by decide) ?_
          refine am_istoren (L' := [some (.ref (g.2.2.1 + 6)), some (.int (nI j)), some (.int (nI l)), some (.int 0), none]) d_M_same_52 (by decide) rfl rfl ?_
          refine am_iconst 0 d_M_same_53 (by decide) ?_
          refine am_istore (L' := [some (.ref (g.2.2.1 + 6)), some (.int (nI j)), some (.int (nI l)), some (.int 0), some (.int 0)]) d_M_same_54 (by decide) rfl rfl ?_
          have key : am_W g (d + 3) mm_M_same (56, [some (.ref (g.2.2.1 + 6)), some (.int (nI j)), some (.int (nI l)), some (.int (sv_if ((T.vw j).ax = (T.vw l).ax ∧ ∀ t, t < 0 → (T.vw j).ex t = (T.vw l).ex t) 1 0)), some (.int (nI 0))], []) S_1 (sv_E g S (0, .int (sv_if (((T.vw j).ax = (T.vw l).ax ∧ ∀ t, t < (T.vw j).ax → (T.vw j).ex t = (T.vw l).ex t) ∧ ∀ i, i < (T.vw j).it → T.at (T.vw j) i = T.at (T.vw l) i) 1 0), T) (sv_cd 4 6 9)) := by
            refine e_same_1 hN1 hj hl (fun z => ?_) (T.vw j).ax 0 (Nat.zero_add _)
            refine am_iconst 0 d_M_same_108 (by decide) ?_
            refine am_istore (L' := [some (.ref (g.2.2.1 + 6)), some (.int (nI j)), some (.int (nI l)), some (.int (sv_if ((T.vw j).ax = (T.vw l).ax ∧ ∀ t, t < (T.vw j).ax → (T.vw j).ex t = (T.vw l).ex t) 1 0)), some (.int 0)]) d_M_same_109 (by decide) rfl rfl ?_
            have key2 := e_same_2 hN1 hj hl (d := d) (P := sv_E g S (0, .int (sv_if (((T.vw j).ax = (T.vw l).ax ∧ ∀ t, t < (T.vw j).ax → (T.vw j).ex t = (T.vw l).ex t) ∧ ∀ i, i < (T.vw j).it → T.at (T.vw j) i = T.at (T.vw l) i) 1 0), T) (sv_cd 4 6 9)) (sv_E.ok hN1 hf1) (T.vw j).it 0 (Nat.zero_add _)
            rw [sv_if_eq (show (((T.vw j).ax = (T.vw l).ax ∧ ∀ t, t < (T.vw j).ax → (T.vw j).ex t = (T.vw l).ex t) ∧ ∀ i, i < 0 → T.at (T.vw j) i = T.at (T.vw l) i) ↔ ((T.vw j).ax = (T.vw l).ax ∧ ∀ t, t < (T.vw j).ax → (T.vw j).ex t = (T.vw l).ex t) from ⟨fun q => q.1, fun q => ⟨q, fun t ht => absurd ht (Nat.not_lt_zero t)⟩⟩)] at key2
            exact key2
          rw [sv_if_n (c := (T.vw j).ax = (T.vw l).ax ∧ ∀ t, t < 0 → (T.vw j).ex t = (T.vw l).ex t) (fun q => hy (by rw [q.1]))] at key
          exact key
        · refine am_iconst 1 d_M_same_47 (by decide) ?_
          refine am_goto (tgt := 52) d_M_same_48 (by decide) ?_
          refine am_istoren (L' := [some (.ref (g.2.2.1 + 6)), some (.int (nI j)), some (.int (nI l)), some (.int 1), none]) d_M_same_52 (by decide) rfl rfl ?_
          refine am_iconst 0 d_M_same_53 (by decide) ?_
          refine am_istore (L' := [some (.ref (g.2.2.1 + 6)), some (.int (nI j)), some (.int (nI l)), some (.int 1), some (.int 0)]) d_M_same_54 (by decide) rfl rfl ?_
          have key : am_W g (d + 3) mm_M_same (56, [some (.ref (g.2.2.1 + 6)), some (.int (nI j)), some (.int (nI l)), some (.int (sv_if ((T.vw j).ax = (T.vw l).ax ∧ ∀ t, t < 0 → (T.vw j).ex t = (T.vw l).ex t) 1 0)), some (.int (nI 0))], []) S_1 (sv_E g S (0, .int (sv_if (((T.vw j).ax = (T.vw l).ax ∧ ∀ t, t < (T.vw j).ax → (T.vw j).ex t = (T.vw l).ex t) ∧ ∀ i, i < (T.vw j).it → T.at (T.vw j) i = T.at (T.vw l) i) 1 0), T) (sv_cd 4 6 9)) := by
            refine e_same_1 hN1 hj hl (fun z => ?_) (T.vw j).ax 0 (Nat.zero_add _)
            refine am_iconst 0 d_M_same_108 (by decide) ?_
            refine am_istore (L' := [some (.ref (g.2.2.1 + 6)), some (.int (nI j)), some (.int (nI l)), some (.int (sv_if ((T.vw j).ax = (T.vw l).ax ∧ ∀ t, t < (T.vw j).ax → (T.vw j).ex t = (T.vw l).ex t) 1 0)), some (.int 0)]) d_M_same_109 (by decide) rfl rfl ?_
            have key2 := e_same_2 hN1 hj hl (d := d) (P := sv_E g S (0, .int (sv_if (((T.vw j).ax = (T.vw l).ax ∧ ∀ t, t < (T.vw j).ax → (T.vw j).ex t = (T.vw l).ex t) ∧ ∀ i, i < (T.vw j).it → T.at (T.vw j) i = T.at (T.vw l) i) 1 0), T) (sv_cd 4 6 9)) (sv_E.ok hN1 hf1) (T.vw j).it 0 (Nat.zero_add _)
            rw [sv_if_eq (show (((T.vw j).ax = (T.vw l).ax ∧ ∀ t, t < (T.vw j).ax → (T.vw j).ex t = (T.vw l).ex t) ∧ ∀ i, i < 0 → T.at (T.vw j) i = T.at (T.vw l) i) ↔ ((T.vw j).ax = (T.vw l).ax ∧ ∀ t, t < (T.vw j).ax → (T.vw j).ex t = (T.vw l).ex t) from ⟨fun q => q.1, fun q => ⟨q, fun t ht => absurd ht (Nat.not_lt_zero t)⟩⟩)] at key2
            exact key2
          rw [sv_if_y (c := (T.vw j).ax = (T.vw l).ax ∧ ∀ t, t < 0 → (T.vw j).ex t = (T.vw l).ex t) ⟨(nI_eq (by omega) (by omega)).mp hy, fun t ht => absurd ht (Nat.not_lt_zero t)⟩] at key
          exact key
    · rw [sv_if_n hC]
      refine am_put d_M_same_22 fp_M_48 m0 rfl rfl (Nat.le_of_ble_eq_true rfl) ?_
      obtain ⟨S_16, eS_16⟩ : ∃ z : am_S, z = (am_up S.1 (g.2.2.1 + 6) (.inr (3, [.int 1, .int (nI T.ns), .ref (g.2.2.1 + 7), .ref (g.2.2.1 + 8), .ref (g.2.2.1 + 9), .int (nI T.nv), .ref (g.2.2.1 + 10), .ref (g.2.2.1 + 11), .ref (g.2.2.1 + 12), .ref (g.2.2.1 + 13), .ref (g.2.2.1 + 14), .ref (g.2.2.1 + 15), .ref (g.2.2.1 + 16), .int (nI na), .ref (g.2.2.1 + 17), .ref (g.2.2.1 + 18)])), S.2) := ⟨_, rfl⟩
      change am_W _ _ _ _ (am_up S.1 (g.2.2.1 + 6) (.inr (3, [.int 1, .int (nI T.ns), .ref (g.2.2.1 + 7), .ref (g.2.2.1 + 8), .ref (g.2.2.1 + 9), .int (nI T.nv), .ref (g.2.2.1 + 10), .ref (g.2.2.1 + 11), .ref (g.2.2.1 + 12), .ref (g.2.2.1 + 13), .ref (g.2.2.1 + 14), .ref (g.2.2.1 + 15), .ref (g.2.2.1 + 16), .int (nI na), .ref (g.2.2.1 + 17), .ref (g.2.2.1 + 18)])), S.2) _
      rw [← eS_16]
      have h_17 : S_16.1 (g.2.2.1 + 7) = some (.inl (0, 12, .inl fl)) := by rw [eS_16]; exact (am_up_n (by omega)).trans m1
      have h_18 : S_16.1 (g.2.2.1 + 8) = some (.inl (0, 12, .inl fz)) := by rw [eS_16]; exact (am_up_n (by omega)).trans m2
      have h_19 : S_16.1 (g.2.2.1 + 9) = some (.inl (1, 3600, .inr (.inl fN))) := by rw [eS_16]; exact (am_up_n (by omega)).trans m3
      have h_20 : S_16.1 (g.2.2.1 + 10) = some (.inl (0, 80, .inl fS)) := by rw [eS_16]; exact (am_up_n (by omega)).trans m4
      have h_21 : S_16.1 (g.2.2.1 + 11) = some (.inl (0, 80, .inl fa)) := by rw [eS_16]; exact (am_up_n (by omega)).trans m5
      have h_22 : S_16.1 (g.2.2.1 + 12) = some (.inl (0, 80, .inl fx)) := by rw [eS_16]; exact (am_up_n (by omega)).trans m6
      have h_23 : S_16.1 (g.2.2.1 + 13) = some (.inl (0, 320, .inl fe)) := by rw [eS_16]; exact (am_up_n (by omega)).trans m7
      have h_24 : S_16.1 (g.2.2.1 + 14) = some (.inl (0, 320, .inl fs)) := by rw [eS_16]; exact (am_up_n (by omega)).trans m8
      have h_25 : S_16.1 (g.2.2.1 + 15) = some (.inl (1, 5, .inr (.inl ne))) := by rw [eS_16]; exact (am_up_n (by omega)).trans m9
      have h_26 : S_16.1 (g.2.2.1 + 16) = some (.inl (1, 5, .inr (.inl nw))) := by rw [eS_16]; exact (am_up_n (by omega)).trans m10
      have h_27 : S_16.1 (g.2.2.1 + 17) = some (.inl (1, 3000, .inr (.inl rd))) := by rw [eS_16]; exact (am_up_n (by omega)).trans m11
      have h_28 : S_16.1 (g.2.2.1 + 18) = some (.inl (2, 300, .inl mt)) := by rw [eS_16]; exact (am_up_n (by omega)).trans m12
      have hf_29 : sv_MF g S S_16 := by rw [eS_16]; exact sv_MF.rf.u (by omega) (by omega)
      have h_30 : S_16.1 (g.2.2.1 + 6) = some (.inr (3, [.int 1, .int (nI T.ns), .ref (g.2.2.1 + 7), .ref (g.2.2.1 + 8), .ref (g.2.2.1 + 9), .int (nI T.nv), .ref (g.2.2.1 + 10), .ref (g.2.2.1 + 11), .ref (g.2.2.1 + 12), .ref (g.2.2.1 + 13), .ref (g.2.2.1 + 14), .ref (g.2.2.1 + 15), .ref (g.2.2.1 + 16), .int (nI na), .ref (g.2.2.1 + 17), .ref (g.2.2.1 + 18)])) := by rw [eS_16]; exact am_up_s
      have hnS_16 : S_16.2.1 = S.2.1 := by rw [eS_16]
      have hzS_16 : S_16.2.2 = S.2.2 := by rw [eS_16]
      have hN1 : sv_N g S_16.1 T 1 na ne nw rd mt := ⟨fl, fz, fN, fS, fa, fx, fe, fs, ⟨h_30, h_17, h_18, h_19, h_20, h_21, h_22, h_23, h_24, h_25, h_26, h_27, h_28⟩, ⟨t1, t2, t3⟩, hw⟩
      have hf1 : sv_MF g S S_16 := hf_29
      refine am_aloadn d_M_same_25 rfl ?_
      refine am_get d_M_same_26 fl_M_48 h_30 rfl ?_
      refine am_ifne (tgt := 51) d_M_same_29 (by decide) (fun hz => ?_) (fun hz => ?_)
      · refine am_iconst 0 d_M_same_51 (by decide) ?_
        refine am_istoren (L' := [some (.ref (g.2.2.1 + 6)), some (.int v), some (.int w), some (.int 0), none]) d_M_same_52 (by decide) rfl rfl ?_
        refine am_iconst 0 d_M_same_53 (by decide) ?_
        refine am_istore (L' := [some (.ref (g.2.2.1 + 6)), some (.int v), some (.int w), some (.int 0), some (.int 0)]) d_M_same_54 (by decide) rfl rfl ?_
        refine am_iloadn d_M_same_56 rfl ?_
        refine am_ifeq (tgt := 108) d_M_same_57 (by decide) (fun hy => ?_) (fun hy => ?_)
        · refine am_iconst 0 d_M_same_108 (by decide) ?_
          refine am_istore (L' := [some (.ref (g.2.2.1 + 6)), some (.int v), some (.int w), some (.int 0), some (.int 0)]) d_M_same_109 (by decide) rfl rfl ?_
          refine am_iloadn d_M_same_111 rfl ?_
          refine am_ifeq (tgt := 155) d_M_same_112 (by decide) (fun hx => ?_) (fun hx => ?_)
          · refine am_iloadn d_M_same_155 rfl ?_
            rw [q_same, q_two_no hC]
            exact am_zret d_M_same_156 rfl rfl (sv_E.no hN1 hf1 (by decide))
          · exact absurd rfl hx
        · exact absurd rfl hy
      · exact absurd hz (by decide)
  · refine am_aloadn d_M_same_1 rfl ?_
    refine am_iloadn d_M_same_2 rfl ?_
    refine am_cpsV [.int v] [.ref (g.2.2.1 + 6)] d_M_same_3 cV_M_55 rfl m0 rfl rfl (Nat.le_of_ble_eq_true rfl) (Nat.le_of_ble_eq_true rfl) (m_isView hM ?_)
    show am_W g (d + 3) mm_M_same (6, [some (.ref (g.2.2.1 + 6)), some (.int v), some (.int w), none, none], [.int (sv_if (sv_iv T v) 1 0), .ref (g.2.2.1 + 6)]) S _
    refine am_ifeq (tgt := 21) d_M_same_6 (by decide) (fun hc => ?_) (fun hc => ?_)
    · refine am_iconst 1 d_M_same_21 (by decide) ?_
      rw [sv_if_n (fun q => sv_b0 hc q.1)] at key
      exact key
    · refine am_aloadn d_M_same_9 rfl ?_
      refine am_iloadn d_M_same_10 rfl ?_
      refine am_cpsV [.int w] [.ref (g.2.2.1 + 6)] d_M_same_11 cV_M_55 rfl m0 rfl rfl (Nat.le_of_ble_eq_true rfl) (Nat.le_of_ble_eq_true rfl) (m_isView hM ?_)
      show am_W g (d + 3) mm_M_same (14, [some (.ref (g.2.2.1 + 6)), some (.int v), some (.int w), none, none], [.int (sv_if (sv_iv T w) 1 0), .ref (g.2.2.1 + 6)]) S _
      refine am_ifeq (tgt := 21) d_M_same_14 (by decide) (fun hd => ?_) (fun hd => ?_)
      · refine am_iconst 1 d_M_same_21 (by decide) ?_
        rw [sv_if_n (fun q => sv_b0 hd q.2)] at key
        exact key
      · refine am_iconst 0 d_M_same_17 (by decide) ?_
        refine am_goto (tgt := 22) d_M_same_18 (by decide) ?_
        rw [sv_if_y (⟨sv_b1 hc, sv_b1 hd⟩)] at key
        exact key
set_option maxHeartbeats 4000000 in
set_option maxRecDepth 100000 in
/-- shared, no marks -/
theorem e_shared_0 {g : am_G} {d : Nat} {S : am_S} {T : sv_T} {th : Int32} {na : Nat} {ne nw rd : Nat → Int64} {j l : Nat} {P : am_O → am_S → Prop} (hK : ∀ (S1 : am_S) (Mt : Nat → Int32), sv_N g S1.1 T th na ne nw rd Mt → sv_MF g S S1 → (∀ t, t < 300 → Mt t = 0) → ∀ z : Int32, am_W g d mm_M_shared (71, [some (.ref (g.2.2.1 + 6)), some (.int (nI j)), some (.int (nI l)), some (.int z), none, none, none], []) S1 P) : ∀ (m k : Nat), k + m = 300 → ∀ (S0 : am_S) (Mt : Nat → Int32), sv_N g S0.1 T th na ne nw rd Mt → sv_MF g S S0 → (∀ t, t < k → Mt t = 0) → am_W g d mm_M_shared (51, [some (.ref (g.2.2.1 + 6)), some (.int (nI j)), some (.int (nI l)), some (.int (nI k)), none, none, none], []) S0 P := by
  intro m
  induction m using Nat.strongRecOn with
  | ind m ih =>
    intro k hk S0 Mt hN hfr hI
    obtain ⟨fl, fz, fN, fS, fa, fx, fe, fs, ⟨m0, m1, m2, m3, m4, m5, m6, m7, m8, m9, m10, m11, m12⟩, ⟨t1, t2, t3⟩, hw⟩ := id hN
    have h80 := hw.2.1
    refine am_iloadn d_M_shared_51 rfl ?_
    refine am_sipush 300 d_M_shared_52 (by decide) ?_
    refine am_icge (tgt := 71) d_M_shared_55 (by decide) (fun hc => ?_) (fun hc => ?_)
    · have hk0 : 300 ≤ k := (nI_leI (a := 300) (by decide) (by omega)).mp hc
      exact hK S0 Mt hN hfr (fun t ht => hI t (by omega)) (nI k)
    · have hlt : k < 300 := Nat.lt_of_not_le (fun q => hc (nI_le (a := 300) q (by omega)))
      refine am_aloadn d_M_shared_58 rfl ?_
      refine am_get d_M_shared_59 fl_M_44 m0 rfl ?_
      refine am_iloadn d_M_shared_62 rfl ?_
      refine am_iconst 0 d_M_shared_63 (by decide) ?_
      refine am_zastN (t := 2) d_M_shared_64 rfl m12 (by omega) (by omega) ?_
      obtain ⟨S_1, eS_1⟩ : ∃ z : am_S, z = (am_up S0.1 (g.2.2.1 + 18) (.inl (2, 300, .inl (upd Mt k (vp_nar .boolean 0)))), S0.2) := ⟨_, rfl⟩
      change am_W _ _ _ _ (am_up S0.1 (g.2.2.1 + 18) (.inl (2, 300, .inl (upd Mt k (vp_nar .boolean 0)))), S0.2) _
      rw [← eS_1]
      have h_2 : S_1.1 (g.2.2.1 + 6) = some (.inr (3, [.int th, .int (nI T.ns), .ref (g.2.2.1 + 7), .ref (g.2.2.1 + 8), .ref (g.2.2.1 + 9), .int (nI T.nv), .ref (g.2.2.1 + 10), .ref (g.2.2.1 + 11), .ref (g.2.2.1 + 12), .ref (g.2.2.1 + 13), .ref (g.2.2.1 + 14), .ref (g.2.2.1 + 15), .ref (g.2.2.1 + 16), .int (nI na), .ref (g.2.2.1 + 17), .ref (g.2.2.1 + 18)])) := by rw [eS_1]; exact (am_up_n (by omega)).trans m0
      have h_3 : S_1.1 (g.2.2.1 + 7) = some (.inl (0, 12, .inl fl)) := by rw [eS_1]; exact (am_up_n (by omega)).trans m1
      have h_4 : S_1.1 (g.2.2.1 + 8) = some (.inl (0, 12, .inl fz)) := by rw [eS_1]; exact (am_up_n (by omega)).trans m2
      have h_5 : S_1.1 (g.2.2.1 + 9) = some (.inl (1, 3600, .inr (.inl fN))) := by rw [eS_1]; exact (am_up_n (by omega)).trans m3
      have h_6 : S_1.1 (g.2.2.1 + 10) = some (.inl (0, 80, .inl fS)) := by rw [eS_1]; exact (am_up_n (by omega)).trans m4
      have h_7 : S_1.1 (g.2.2.1 + 11) = some (.inl (0, 80, .inl fa)) := by rw [eS_1]; exact (am_up_n (by omega)).trans m5
      have h_8 : S_1.1 (g.2.2.1 + 12) = some (.inl (0, 80, .inl fx)) := by rw [eS_1]; exact (am_up_n (by omega)).trans m6
      have h_9 : S_1.1 (g.2.2.1 + 13) = some (.inl (0, 320, .inl fe)) := by rw [eS_1]; exact (am_up_n (by omega)).trans m7
      have h_10 : S_1.1 (g.2.2.1 + 14) = some (.inl (0, 320, .inl fs)) := by rw [eS_1]; exact (am_up_n (by omega)).trans m8
      have h_11 : S_1.1 (g.2.2.1 + 15) = some (.inl (1, 5, .inr (.inl ne))) := by rw [eS_1]; exact (am_up_n (by omega)).trans m9
      have h_12 : S_1.1 (g.2.2.1 + 16) = some (.inl (1, 5, .inr (.inl nw))) := by rw [eS_1]; exact (am_up_n (by omega)).trans m10
      have h_13 : S_1.1 (g.2.2.1 + 17) = some (.inl (1, 3000, .inr (.inl rd))) := by rw [eS_1]; exact (am_up_n (by omega)).trans m11
      have hf_14 : sv_MF g S S_1 := by rw [eS_1]; exact hfr.u (by omega) (by omega)
      have h_15 : S_1.1 (g.2.2.1 + 18) = some (.inl (2, 300, .inl (upd Mt k (vp_nar .boolean 0)))) := by rw [eS_1]; exact am_up_s
      have hnS_1 : S_1.2.1 = S0.2.1 := by rw [eS_1]
      have hzS_1 : S_1.2.2 = S0.2.2 := by rw [eS_1]
      refine am_iinc (v := nI (k + 1)) (L' := [some (.ref (g.2.2.1 + 6)), some (.int (nI j)), some (.int (nI l)), some (.int (nI (k + 1))), none, none, none]) d_M_shared_65 rfl (nI_1 k) (by decide) rfl rfl ?_
      refine am_goto (tgt := 51) d_M_shared_68 (by decide) ?_
      refine ih (m - 1) (by omega) (k + 1) (by omega) _ _ ⟨fl, fz, fN, fS, fa, fx, fe, fs, ⟨h_2, h_3, h_4, h_5, h_6, h_7, h_8, h_9, h_10, h_11, h_12, h_13, h_15⟩, ⟨t1, t2, t3⟩, hw⟩ hf_14 (fun t ht => ?_)
      by_cases e : t = k
      · subst e
        rw [pk_us]
        rfl
      · rw [pk_un e]
        exact hI t (by omega)
set_option maxHeartbeats 4000000 in
set_option maxRecDepth 100000 in
/-- shared, marks -/
theorem e_shared_1 {g : am_G} {d : Nat} {S : am_S} {T : sv_T} {th : Int32} {na : Nat} {ne nw rd : Nat → Int64} {j l : Nat} (hj : j < T.nv) {P : am_O → am_S → Prop} (hK : ∀ (S1 : am_S) (Mt : Nat → Int32), sv_N g S1.1 T th na ne nw rd Mt → sv_MF g S S1 → (∀ t, t < 300 → Mt t = sv_mk (fun i => ((T.vw j).pl i).toNatClampNeg) (T.vw j).it t) → ∀ z : Int32, am_W g (d + 2) mm_M_shared (105, [some (.ref (g.2.2.1 + 6)), some (.int (nI j)), some (.int (nI l)), some (.int (nI (T.vw j).it)), some (.int z), none, none], []) S1 P) : ∀ (c i : Nat), i + c = (T.vw j).it → ∀ (S0 : am_S) (Mt : Nat → Int32), sv_N g S0.1 T th na ne nw rd Mt → sv_MF g S S0 → (∀ t, t < 300 → Mt t = sv_mk (fun i => ((T.vw j).pl i).toNatClampNeg) i t) → am_W g (d + 2) mm_M_shared (80, [some (.ref (g.2.2.1 + 6)), some (.int (nI j)), some (.int (nI l)), some (.int (nI (T.vw j).it)), some (.int (nI i)), none, none], []) S0 P := by
  intro c
  induction c using Nat.strongRecOn with
  | ind c ih =>
    intro i hi S0 Mt hN hfr hI
    obtain ⟨fl, fz, fN, fS, fa, fx, fe, fs, ⟨m0, m1, m2, m3, m4, m5, m6, m7, m8, m9, m10, m11, m12⟩, ⟨t1, t2, t3⟩, hw⟩ := id hN
    have h80 := hw.2.1
    obtain ⟨w1, w2, w3, w4, w5, w6, w7⟩ := hw.2.2.2 j hj
    have hsz := hw.2.2.1 _ w1
    refine am_iload d_M_shared_80 rfl ?_
    refine am_iloadn d_M_shared_82 rfl ?_
    refine am_icge (tgt := 105) d_M_shared_83 (by decide) (fun hc => ?_) (fun hc => ?_)
    · have hk0 : (T.vw j).it ≤ i := (nI_leI (by omega) (by omega)).mp hc
      obtain rfl : i = (T.vw j).it := by omega
      exact hK S0 Mt hN hfr hI (nI (T.vw j).it)
    · have hlt : i < (T.vw j).it := Nat.lt_of_not_le (fun q => hc (nI_le q (by omega)))
      have hin := vp_in_mono (w7 i hlt) hsz
      refine am_aloadn d_M_shared_86 rfl ?_
      refine am_get d_M_shared_87 fl_M_44 m0 rfl ?_
      refine am_aloadn d_M_shared_90 rfl ?_
      refine am_iloadn d_M_shared_91 rfl ?_
      refine am_iload d_M_shared_92 rfl ?_
      refine am_cpsV [.int (nI j), .int (nI i)] [.ref (g.2.2.1 + 18)] d_M_shared_94 cV_M_70 rfl m0 rfl rfl (Nat.le_of_ble_eq_true rfl) (Nat.le_of_ble_eq_true rfl) (m_place hN hj hlt ?_)
      show am_W g (d + 2) mm_M_shared (97, [some (.ref (g.2.2.1 + 6)), some (.int (nI j)), some (.int (nI l)), some (.int (nI (T.vw j).it)), some (.int (nI i)), none, none], [.int ((T.vw j).pl i), .ref (g.2.2.1 + 18)]) S0 _
      refine am_iconst 1 d_M_shared_97 (by decide) ?_
      refine am_zast (t := 2) d_M_shared_98 rfl m12 hin ?_
      obtain ⟨S_1, eS_1⟩ : ∃ z : am_S, z = (am_up S0.1 (g.2.2.1 + 18) (.inl (2, 300, .inl (upd Mt ((T.vw j).pl i).toNatClampNeg (vp_nar .boolean 1)))), S0.2) := ⟨_, rfl⟩
      change am_W _ _ _ _ (am_up S0.1 (g.2.2.1 + 18) (.inl (2, 300, .inl (upd Mt ((T.vw j).pl i).toNatClampNeg (vp_nar .boolean 1)))), S0.2) _
      rw [← eS_1]
      have h_2 : S_1.1 (g.2.2.1 + 6) = some (.inr (3, [.int th, .int (nI T.ns), .ref (g.2.2.1 + 7), .ref (g.2.2.1 + 8), .ref (g.2.2.1 + 9), .int (nI T.nv), .ref (g.2.2.1 + 10), .ref (g.2.2.1 + 11), .ref (g.2.2.1 + 12), .ref (g.2.2.1 + 13), .ref (g.2.2.1 + 14), .ref (g.2.2.1 + 15), .ref (g.2.2.1 + 16), .int (nI na), .ref (g.2.2.1 + 17), .ref (g.2.2.1 + 18)])) := by rw [eS_1]; exact (am_up_n (by omega)).trans m0
      have h_3 : S_1.1 (g.2.2.1 + 7) = some (.inl (0, 12, .inl fl)) := by rw [eS_1]; exact (am_up_n (by omega)).trans m1
      have h_4 : S_1.1 (g.2.2.1 + 8) = some (.inl (0, 12, .inl fz)) := by rw [eS_1]; exact (am_up_n (by omega)).trans m2
      have h_5 : S_1.1 (g.2.2.1 + 9) = some (.inl (1, 3600, .inr (.inl fN))) := by rw [eS_1]; exact (am_up_n (by omega)).trans m3
      have h_6 : S_1.1 (g.2.2.1 + 10) = some (.inl (0, 80, .inl fS)) := by rw [eS_1]; exact (am_up_n (by omega)).trans m4
      have h_7 : S_1.1 (g.2.2.1 + 11) = some (.inl (0, 80, .inl fa)) := by rw [eS_1]; exact (am_up_n (by omega)).trans m5
      have h_8 : S_1.1 (g.2.2.1 + 12) = some (.inl (0, 80, .inl fx)) := by rw [eS_1]; exact (am_up_n (by omega)).trans m6
      have h_9 : S_1.1 (g.2.2.1 + 13) = some (.inl (0, 320, .inl fe)) := by rw [eS_1]; exact (am_up_n (by omega)).trans m7
      have h_10 : S_1.1 (g.2.2.1 + 14) = some (.inl (0, 320, .inl fs)) := by rw [eS_1]; exact (am_up_n (by omega)).trans m8
      have h_11 : S_1.1 (g.2.2.1 + 15) = some (.inl (1, 5, .inr (.inl ne))) := by rw [eS_1]; exact (am_up_n (by omega)).trans m9
      have h_12 : S_1.1 (g.2.2.1 + 16) = some (.inl (1, 5, .inr (.inl nw))) := by rw [eS_1]; exact (am_up_n (by omega)).trans m10
      have h_13 : S_1.1 (g.2.2.1 + 17) = some (.inl (1, 3000, .inr (.inl rd))) := by rw [eS_1]; exact (am_up_n (by omega)).trans m11
      have hf_14 : sv_MF g S S_1 := by rw [eS_1]; exact hfr.u (by omega) (by omega)
      have h_15 : S_1.1 (g.2.2.1 + 18) = some (.inl (2, 300, .inl (upd Mt ((T.vw j).pl i).toNatClampNeg (vp_nar .boolean 1)))) := by rw [eS_1]; exact am_up_s
      have hnS_1 : S_1.2.1 = S0.2.1 := by rw [eS_1]
      have hzS_1 : S_1.2.2 = S0.2.2 := by rw [eS_1]
      refine am_iinc (v := nI (i + 1)) (L' := [some (.ref (g.2.2.1 + 6)), some (.int (nI j)), some (.int (nI l)), some (.int (nI (T.vw j).it)), some (.int (nI (i + 1))), none, none]) d_M_shared_99 rfl (nI_1 i) (by decide) rfl rfl ?_
      refine am_goto (tgt := 80) d_M_shared_102 (by decide) ?_
      refine ih (c - 1) (by omega) (i + 1) (by omega) _ _ ⟨fl, fz, fN, fS, fa, fx, fe, fs, ⟨h_2, h_3, h_4, h_5, h_6, h_7, h_8, h_9, h_10, h_11, h_12, h_13, h_15⟩, ⟨t1, t2, t3⟩, hw⟩ hf_14 (fun t ht => ?_)
      show upd Mt ((T.vw j).pl i).toNatClampNeg (vp_nar .boolean 1) t = upd (sv_mk (fun i => ((T.vw j).pl i).toNatClampNeg) i) ((T.vw j).pl i).toNatClampNeg 1 t
      by_cases hti : t = ((T.vw j).pl i).toNatClampNeg
      · subst hti
        rw [pk_us, pk_us]
        rfl
      · rw [pk_un hti, pk_un hti]
        exact hI t ht
set_option maxHeartbeats 4000000 in
set_option maxRecDepth 100000 in
/-- shared, what is met -/
theorem e_shared_2 {g : am_G} {d : Nat} {S : am_S} {T : sv_T} {th : Int32} {na : Nat} {ne nw rd : Nat → Int64} {j l : Nat} (hl : l < T.nv) {mk0 : Nat → Int32} {P : am_O → am_S → Prop} (hP : ∀ (S1 : am_S) (Mt : Nat → Int32), sv_N g S1.1 T th na ne nw rd Mt → sv_MF g S S1 → P (.inl (some (.int (nI (sv_mt mk0 (fun i => ((T.vw l).pl i).toNatClampNeg) (T.vw l).it).2)))) S1) : ∀ (c i : Nat), i + c = (T.vw l).it → ∀ (S0 : am_S) (Mt : Nat → Int32), sv_N g S0.1 T th na ne nw rd Mt → sv_MF g S S0 → (∀ t, t < 300 → Mt t = (sv_mt mk0 (fun i => ((T.vw l).pl i).toNatClampNeg) i).1 t) → am_W g (d + 2) mm_M_shared (117, [some (.ref (g.2.2.1 + 6)), some (.int (nI j)), some (.int (nI l)), some (.int (nI (T.vw l).it)), some (.int (nI (sv_mt mk0 (fun i => ((T.vw l).pl i).toNatClampNeg) i).2)), some (.int (nI i)), none], []) S0 P := by
  intro c
  induction c using Nat.strongRecOn with
  | ind c ih =>
    intro i hi S0 Mt hN hfr hI
    obtain ⟨fl, fz, fN, fS, fa, fx, fe, fs, ⟨m0, m1, m2, m3, m4, m5, m6, m7, m8, m9, m10, m11, m12⟩, ⟨t1, t2, t3⟩, hw⟩ := id hN
    have h80 := hw.2.1
    obtain ⟨w1, w2, w3, w4, w5, w6, w7⟩ := hw.2.2.2 l hl
    have hsz := hw.2.2.1 _ w1
    refine am_iload d_M_shared_117 rfl ?_
    refine am_iloadn d_M_shared_119 rfl ?_
    refine am_icge (tgt := 166) d_M_shared_120 (by decide) (fun hc => ?_) (fun hc => ?_)
    · have hk0 : (T.vw l).it ≤ i := (nI_leI (by omega) (by omega)).mp hc
      obtain rfl : i = (T.vw l).it := by omega
      refine am_iload d_M_shared_166 rfl ?_
      exact am_iret d_M_shared_168 rfl (hP S0 Mt hN hfr)
    · have hlt : i < (T.vw l).it := Nat.lt_of_not_le (fun q => hc (nI_le q (by omega)))
      have hin := vp_in_mono (w7 i hlt) hsz
      have hle := sv_mt_le mk0 (fun i => ((T.vw l).pl i).toNatClampNeg) i
      refine am_aloadn d_M_shared_123 rfl ?_
      refine am_iloadn d_M_shared_124 rfl ?_
      refine am_iload d_M_shared_125 rfl ?_
      refine am_cpsV [.int (nI l), .int (nI i)] [] d_M_shared_127 cV_M_70 rfl m0 rfl rfl (Nat.le_of_ble_eq_true rfl) (Nat.le_of_ble_eq_true rfl) (m_place hN hl hlt ?_)
      show am_W g (d + 2) mm_M_shared (130, [some (.ref (g.2.2.1 + 6)), some (.int (nI j)), some (.int (nI l)), some (.int (nI (T.vw l).it)), some (.int (nI (sv_mt mk0 (fun i => ((T.vw l).pl i).toNatClampNeg) i).2)), some (.int (nI i)), none], [.int ((T.vw l).pl i)]) S0 _
      refine am_istore (L' := [some (.ref (g.2.2.1 + 6)), some (.int (nI j)), some (.int (nI l)), some (.int (nI (T.vw l).it)), some (.int (nI (sv_mt mk0 (fun i => ((T.vw l).pl i).toNatClampNeg) i).2)), some (.int (nI i)), some (.int ((T.vw l).pl i))]) d_M_shared_130 (by decide) rfl rfl ?_
      refine am_iload d_M_shared_132 rfl ?_
      refine am_aloadn d_M_shared_134 rfl ?_
      refine am_get d_M_shared_135 fl_M_44 m0 rfl ?_
      refine am_iload d_M_shared_138 rfl ?_
      refine am_zald (t := 2) d_M_shared_140 rfl m12 hin ?_
      refine am_ti (b := (sv_mt mk0 (fun i => ((T.vw l).pl i).toNatClampNeg) i).1 ((T.vw l).pl i).toNatClampNeg) (hI _ (vp_in_lt hin)) ?_
      refine am_ifeq (tgt := 148) d_M_shared_141 (by decide) (fun hz => ?_) (fun hz => ?_)
      · refine am_iconst 0 d_M_shared_148 (by decide) ?_
        refine am_iadd d_M_shared_149 ?_
        refine am_ti (b := nI (sv_mt mk0 (fun i => ((T.vw l).pl i).toNatClampNeg) (i + 1)).2) (by rw [show (sv_mt mk0 (fun i => ((T.vw l).pl i).toNatClampNeg) (i + 1)).2 = (sv_mt mk0 (fun i => ((T.vw l).pl i).toNatClampNeg) i).2 from if_pos hz]; exact Int32.add_zero _) ?_
        refine am_istore (L' := [some (.ref (g.2.2.1 + 6)), some (.int (nI j)), some (.int (nI l)), some (.int (nI (T.vw l).it)), some (.int (nI (sv_mt mk0 (fun i => ((T.vw l).pl i).toNatClampNeg) (i + 1)).2)), some (.int (nI i)), some (.int ((T.vw l).pl i))]) d_M_shared_150 (by decide) rfl rfl ?_
        refine am_aloadn d_M_shared_152 rfl ?_
        refine am_get d_M_shared_153 fl_M_44 m0 rfl ?_
        refine am_iload d_M_shared_156 rfl ?_
        refine am_iconst 0 d_M_shared_158 (by decide) ?_
        refine am_zast (t := 2) d_M_shared_159 rfl m12 hin ?_
        obtain ⟨S_1, eS_1⟩ : ∃ z : am_S, z = (am_up S0.1 (g.2.2.1 + 18) (.inl (2, 300, .inl (upd Mt ((T.vw l).pl i).toNatClampNeg (vp_nar .boolean 0)))), S0.2) := ⟨_, rfl⟩
        change am_W _ _ _ _ (am_up S0.1 (g.2.2.1 + 18) (.inl (2, 300, .inl (upd Mt ((T.vw l).pl i).toNatClampNeg (vp_nar .boolean 0)))), S0.2) _
        rw [← eS_1]
        have h_2 : S_1.1 (g.2.2.1 + 6) = some (.inr (3, [.int th, .int (nI T.ns), .ref (g.2.2.1 + 7), .ref (g.2.2.1 + 8), .ref (g.2.2.1 + 9), .int (nI T.nv), .ref (g.2.2.1 + 10), .ref (g.2.2.1 + 11), .ref (g.2.2.1 + 12), .ref (g.2.2.1 + 13), .ref (g.2.2.1 + 14), .ref (g.2.2.1 + 15), .ref (g.2.2.1 + 16), .int (nI na), .ref (g.2.2.1 + 17), .ref (g.2.2.1 + 18)])) := by rw [eS_1]; exact (am_up_n (by omega)).trans m0
        have h_3 : S_1.1 (g.2.2.1 + 7) = some (.inl (0, 12, .inl fl)) := by rw [eS_1]; exact (am_up_n (by omega)).trans m1
        have h_4 : S_1.1 (g.2.2.1 + 8) = some (.inl (0, 12, .inl fz)) := by rw [eS_1]; exact (am_up_n (by omega)).trans m2
        have h_5 : S_1.1 (g.2.2.1 + 9) = some (.inl (1, 3600, .inr (.inl fN))) := by rw [eS_1]; exact (am_up_n (by omega)).trans m3
        have h_6 : S_1.1 (g.2.2.1 + 10) = some (.inl (0, 80, .inl fS)) := by rw [eS_1]; exact (am_up_n (by omega)).trans m4
        have h_7 : S_1.1 (g.2.2.1 + 11) = some (.inl (0, 80, .inl fa)) := by rw [eS_1]; exact (am_up_n (by omega)).trans m5
        have h_8 : S_1.1 (g.2.2.1 + 12) = some (.inl (0, 80, .inl fx)) := by rw [eS_1]; exact (am_up_n (by omega)).trans m6
        have h_9 : S_1.1 (g.2.2.1 + 13) = some (.inl (0, 320, .inl fe)) := by rw [eS_1]; exact (am_up_n (by omega)).trans m7
        have h_10 : S_1.1 (g.2.2.1 + 14) = some (.inl (0, 320, .inl fs)) := by rw [eS_1]; exact (am_up_n (by omega)).trans m8
        have h_11 : S_1.1 (g.2.2.1 + 15) = some (.inl (1, 5, .inr (.inl ne))) := by rw [eS_1]; exact (am_up_n (by omega)).trans m9
        have h_12 : S_1.1 (g.2.2.1 + 16) = some (.inl (1, 5, .inr (.inl nw))) := by rw [eS_1]; exact (am_up_n (by omega)).trans m10
        have h_13 : S_1.1 (g.2.2.1 + 17) = some (.inl (1, 3000, .inr (.inl rd))) := by rw [eS_1]; exact (am_up_n (by omega)).trans m11
        have hf_14 : sv_MF g S S_1 := by rw [eS_1]; exact hfr.u (by omega) (by omega)
        have h_15 : S_1.1 (g.2.2.1 + 18) = some (.inl (2, 300, .inl (upd Mt ((T.vw l).pl i).toNatClampNeg (vp_nar .boolean 0)))) := by rw [eS_1]; exact am_up_s
        have hnS_1 : S_1.2.1 = S0.2.1 := by rw [eS_1]
        have hzS_1 : S_1.2.2 = S0.2.2 := by rw [eS_1]
        refine am_iinc (v := nI (i + 1)) (L' := [some (.ref (g.2.2.1 + 6)), some (.int (nI j)), some (.int (nI l)), some (.int (nI (T.vw l).it)), some (.int (nI (sv_mt mk0 (fun i => ((T.vw l).pl i).toNatClampNeg) (i + 1)).2)), some (.int (nI (i + 1))), some (.int ((T.vw l).pl i))]) d_M_shared_160 rfl (nI_1 i) (by decide) rfl rfl ?_
        refine am_goto (tgt := 117) d_M_shared_163 (by decide) ?_
        refine am_drop (L' := [some (.ref (g.2.2.1 + 6)), some (.int (nI j)), some (.int (nI l)), some (.int (nI (T.vw l).it)), some (.int (nI (sv_mt mk0 (fun i => ((T.vw l).pl i).toNatClampNeg) (i + 1)).2)), some (.int (nI (i + 1))), none]) (by simp [am_le]) ?_
        refine ih (c - 1) (by omega) (i + 1) (by omega) _ _ ⟨fl, fz, fN, fS, fa, fx, fe, fs, ⟨h_2, h_3, h_4, h_5, h_6, h_7, h_8, h_9, h_10, h_11, h_12, h_13, h_15⟩, ⟨t1, t2, t3⟩, hw⟩ hf_14 (fun t ht => ?_)
        show upd Mt ((T.vw l).pl i).toNatClampNeg (vp_nar .boolean 0) t = upd (sv_mt mk0 (fun i => ((T.vw l).pl i).toNatClampNeg) i).1 ((T.vw l).pl i).toNatClampNeg 0 t
        by_cases hti : t = ((T.vw l).pl i).toNatClampNeg
        · subst hti
          rw [pk_us, pk_us]
          rfl
        · rw [pk_un hti, pk_un hti]
          exact hI t ht
      · refine am_iconst 1 d_M_shared_144 (by decide) ?_
        refine am_goto (tgt := 149) d_M_shared_145 (by decide) ?_
        refine am_iadd d_M_shared_149 ?_
        refine am_ti (b := nI (sv_mt mk0 (fun i => ((T.vw l).pl i).toNatClampNeg) (i + 1)).2) (by rw [show (sv_mt mk0 (fun i => ((T.vw l).pl i).toNatClampNeg) (i + 1)).2 = (sv_mt mk0 (fun i => ((T.vw l).pl i).toNatClampNeg) i).2 + 1 from if_neg hz]; exact nI_1 _) ?_
        refine am_istore (L' := [some (.ref (g.2.2.1 + 6)), some (.int (nI j)), some (.int (nI l)), some (.int (nI (T.vw l).it)), some (.int (nI (sv_mt mk0 (fun i => ((T.vw l).pl i).toNatClampNeg) (i + 1)).2)), some (.int (nI i)), some (.int ((T.vw l).pl i))]) d_M_shared_150 (by decide) rfl rfl ?_
        refine am_aloadn d_M_shared_152 rfl ?_
        refine am_get d_M_shared_153 fl_M_44 m0 rfl ?_
        refine am_iload d_M_shared_156 rfl ?_
        refine am_iconst 0 d_M_shared_158 (by decide) ?_
        refine am_zast (t := 2) d_M_shared_159 rfl m12 hin ?_
        obtain ⟨S_16, eS_16⟩ : ∃ z : am_S, z = (am_up S0.1 (g.2.2.1 + 18) (.inl (2, 300, .inl (upd Mt ((T.vw l).pl i).toNatClampNeg (vp_nar .boolean 0)))), S0.2) := ⟨_, rfl⟩
        change am_W _ _ _ _ (am_up S0.1 (g.2.2.1 + 18) (.inl (2, 300, .inl (upd Mt ((T.vw l).pl i).toNatClampNeg (vp_nar .boolean 0)))), S0.2) _
        rw [← eS_16]
        have h_17 : S_16.1 (g.2.2.1 + 6) = some (.inr (3, [.int th, .int (nI T.ns), .ref (g.2.2.1 + 7), .ref (g.2.2.1 + 8), .ref (g.2.2.1 + 9), .int (nI T.nv), .ref (g.2.2.1 + 10), .ref (g.2.2.1 + 11), .ref (g.2.2.1 + 12), .ref (g.2.2.1 + 13), .ref (g.2.2.1 + 14), .ref (g.2.2.1 + 15), .ref (g.2.2.1 + 16), .int (nI na), .ref (g.2.2.1 + 17), .ref (g.2.2.1 + 18)])) := by rw [eS_16]; exact (am_up_n (by omega)).trans m0
        have h_18 : S_16.1 (g.2.2.1 + 7) = some (.inl (0, 12, .inl fl)) := by rw [eS_16]; exact (am_up_n (by omega)).trans m1
        have h_19 : S_16.1 (g.2.2.1 + 8) = some (.inl (0, 12, .inl fz)) := by rw [eS_16]; exact (am_up_n (by omega)).trans m2
        have h_20 : S_16.1 (g.2.2.1 + 9) = some (.inl (1, 3600, .inr (.inl fN))) := by rw [eS_16]; exact (am_up_n (by omega)).trans m3
        have h_21 : S_16.1 (g.2.2.1 + 10) = some (.inl (0, 80, .inl fS)) := by rw [eS_16]; exact (am_up_n (by omega)).trans m4
        have h_22 : S_16.1 (g.2.2.1 + 11) = some (.inl (0, 80, .inl fa)) := by rw [eS_16]; exact (am_up_n (by omega)).trans m5
        have h_23 : S_16.1 (g.2.2.1 + 12) = some (.inl (0, 80, .inl fx)) := by rw [eS_16]; exact (am_up_n (by omega)).trans m6
        have h_24 : S_16.1 (g.2.2.1 + 13) = some (.inl (0, 320, .inl fe)) := by rw [eS_16]; exact (am_up_n (by omega)).trans m7
        have h_25 : S_16.1 (g.2.2.1 + 14) = some (.inl (0, 320, .inl fs)) := by rw [eS_16]; exact (am_up_n (by omega)).trans m8
        have h_26 : S_16.1 (g.2.2.1 + 15) = some (.inl (1, 5, .inr (.inl ne))) := by rw [eS_16]; exact (am_up_n (by omega)).trans m9
        have h_27 : S_16.1 (g.2.2.1 + 16) = some (.inl (1, 5, .inr (.inl nw))) := by rw [eS_16]; exact (am_up_n (by omega)).trans m10
        have h_28 : S_16.1 (g.2.2.1 + 17) = some (.inl (1, 3000, .inr (.inl rd))) := by rw [eS_16]; exact (am_up_n (by omega)).trans m11
        have hf_29 : sv_MF g S S_16 := by rw [eS_16]; exact hfr.u (by omega) (by omega)
        have h_30 : S_16.1 (g.2.2.1 + 18) = some (.inl (2, 300, .inl (upd Mt ((T.vw l).pl i).toNatClampNeg (vp_nar .boolean 0)))) := by rw [eS_16]; exact am_up_s
        have hnS_16 : S_16.2.1 = S0.2.1 := by rw [eS_16]
        have hzS_16 : S_16.2.2 = S0.2.2 := by rw [eS_16]
        refine am_iinc (v := nI (i + 1)) (L' := [some (.ref (g.2.2.1 + 6)), some (.int (nI j)), some (.int (nI l)), some (.int (nI (T.vw l).it)), some (.int (nI (sv_mt mk0 (fun i => ((T.vw l).pl i).toNatClampNeg) (i + 1)).2)), some (.int (nI (i + 1))), some (.int ((T.vw l).pl i))]) d_M_shared_160 rfl (nI_1 i) (by decide) rfl rfl ?_
        refine am_goto (tgt := 117) d_M_shared_163 (by decide) ?_
        refine am_drop (L' := [some (.ref (g.2.2.1 + 6)), some (.int (nI j)), some (.int (nI l)), some (.int (nI (T.vw l).it)), some (.int (nI (sv_mt mk0 (fun i => ((T.vw l).pl i).toNatClampNeg) (i + 1)).2)), some (.int (nI (i + 1))), none]) (by simp [am_le]) ?_
        refine ih (c - 1) (by omega) (i + 1) (by omega) _ _ ⟨fl, fz, fN, fS, fa, fx, fe, fs, ⟨h_17, h_18, h_19, h_20, h_21, h_22, h_23, h_24, h_25, h_26, h_27, h_28, h_30⟩, ⟨t1, t2, t3⟩, hw⟩ hf_29 (fun t ht => ?_)
        show upd Mt ((T.vw l).pl i).toNatClampNeg (vp_nar .boolean 0) t = upd (sv_mt mk0 (fun i => ((T.vw l).pl i).toNatClampNeg) i).1 ((T.vw l).pl i).toNatClampNeg 0 t
        by_cases hti : t = ((T.vw l).pl i).toNatClampNeg
        · subst hti
          rw [pk_us, pk_us]
          rfl
        · rw [pk_un hti, pk_un hti]
          exact hI t ht
set_option maxHeartbeats 4000000 in
set_option maxRecDepth 100000 in
/-- M_shared -/
theorem e_shared {g : am_G} {d : Nat} {S : am_S} {T : sv_T} {th : Int32} {na : Nat} {ne nw rd : Nat → Int64} {mt : Nat → Int32} (hM : sv_N g S.1 T th na ne nw rd mt) {v w : Int32} : am_W g (d + 2) mm_M_shared (0, am_ent [.ref (g.2.2.1 + 6), .int v, .int w] 7, []) S (sv_E g S (q_shared T v w) (sv_cd 4 6 9)) := by
  obtain ⟨fl, fz, fN, fS, fa, fx, fe, fs, ⟨m0, m1, m2, m3, m4, m5, m6, m7, m8, m9, m10, m11, m12⟩, ⟨t1, t2, t3⟩, hw⟩ := id hM
  have h80 := hw.2.1
  have h12 := hw.1
  show am_W g (d + 2) mm_M_shared (0, [some (.ref (g.2.2.1 + 6)), some (.int v), some (.int w), none, none, none, none], []) S _
  refine am_aloadn d_M_shared_0 rfl ?_
  refine am_cut (F := (22, [some (.ref (g.2.2.1 + 6)), some (.int v), some (.int w), none, none, none, none], [.int (sv_if (sv_iv T v ∧ sv_iv T w) 0 1), .ref (g.2.2.1 + 6)])) ?_ (fun key => ?_)
  · by_cases hC : sv_iv T v ∧ sv_iv T w
    · rw [sv_if_y hC]
      obtain ⟨j, hj, rfl⟩ := sv_iv_of hC.1 h80
      obtain ⟨l, hl, rfl⟩ := sv_iv_of hC.2 h80
      rw [q_shared, sv_qv_j hj h80, sv_qv_j hl h80]
      obtain ⟨v1, v2, v3, v4⟩ := t3 j hj
      obtain ⟨v1b, v2b, v3b, v4b⟩ := t3 l hl
      have hs1 := (hw.2.2.2 j hj).1
      have hs2 := (hw.2.2.2 l hl).1
      refine am_put d_M_shared_22 fp_M_48 m0 rfl rfl (Nat.le_of_ble_eq_true rfl) ?_
      obtain ⟨S_1, eS_1⟩ : ∃ z : am_S, z = (am_up S.1 (g.2.2.1 + 6) (.inr (3, [.int 0, .int (nI T.ns), .ref (g.2.2.1 + 7), .ref (g.2.2.1 + 8), .ref (g.2.2.1 + 9), .int (nI T.nv), .ref (g.2.2.1 + 10), .ref (g.2.2.1 + 11), .ref (g.2.2.1 + 12), .ref (g.2.2.1 + 13), .ref (g.2.2.1 + 14), .ref (g.2.2.1 + 15), .ref (g.2.2.1 + 16), .int (nI na), .ref (g.2.2.1 + 17), .ref (g.2.2.1 + 18)])), S.2) := ⟨_, rfl⟩
      change am_W _ _ _ _ (am_up S.1 (g.2.2.1 + 6) (.inr (3, [.int 0, .int (nI T.ns), .ref (g.2.2.1 + 7), .ref (g.2.2.1 + 8), .ref (g.2.2.1 + 9), .int (nI T.nv), .ref (g.2.2.1 + 10), .ref (g.2.2.1 + 11), .ref (g.2.2.1 + 12), .ref (g.2.2.1 + 13), .ref (g.2.2.1 + 14), .ref (g.2.2.1 + 15), .ref (g.2.2.1 + 16), .int (nI na), .ref (g.2.2.1 + 17), .ref (g.2.2.1 + 18)])), S.2) _
      rw [← eS_1]
      have h_2 : S_1.1 (g.2.2.1 + 7) = some (.inl (0, 12, .inl fl)) := by rw [eS_1]; exact (am_up_n (by omega)).trans m1
      have h_3 : S_1.1 (g.2.2.1 + 8) = some (.inl (0, 12, .inl fz)) := by rw [eS_1]; exact (am_up_n (by omega)).trans m2
      have h_4 : S_1.1 (g.2.2.1 + 9) = some (.inl (1, 3600, .inr (.inl fN))) := by rw [eS_1]; exact (am_up_n (by omega)).trans m3
      have h_5 : S_1.1 (g.2.2.1 + 10) = some (.inl (0, 80, .inl fS)) := by rw [eS_1]; exact (am_up_n (by omega)).trans m4
      have h_6 : S_1.1 (g.2.2.1 + 11) = some (.inl (0, 80, .inl fa)) := by rw [eS_1]; exact (am_up_n (by omega)).trans m5
      have h_7 : S_1.1 (g.2.2.1 + 12) = some (.inl (0, 80, .inl fx)) := by rw [eS_1]; exact (am_up_n (by omega)).trans m6
      have h_8 : S_1.1 (g.2.2.1 + 13) = some (.inl (0, 320, .inl fe)) := by rw [eS_1]; exact (am_up_n (by omega)).trans m7
      have h_9 : S_1.1 (g.2.2.1 + 14) = some (.inl (0, 320, .inl fs)) := by rw [eS_1]; exact (am_up_n (by omega)).trans m8
      have h_10 : S_1.1 (g.2.2.1 + 15) = some (.inl (1, 5, .inr (.inl ne))) := by rw [eS_1]; exact (am_up_n (by omega)).trans m9
      have h_11 : S_1.1 (g.2.2.1 + 16) = some (.inl (1, 5, .inr (.inl nw))) := by rw [eS_1]; exact (am_up_n (by omega)).trans m10
      have h_12 : S_1.1 (g.2.2.1 + 17) = some (.inl (1, 3000, .inr (.inl rd))) := by rw [eS_1]; exact (am_up_n (by omega)).trans m11
      have h_13 : S_1.1 (g.2.2.1 + 18) = some (.inl (2, 300, .inl mt)) := by rw [eS_1]; exact (am_up_n (by omega)).trans m12
      have hf_14 : sv_MF g S S_1 := by rw [eS_1]; exact sv_MF.rf.u (by omega) (by omega)
      have h_15 : S_1.1 (g.2.2.1 + 6) = some (.inr (3, [.int 0, .int (nI T.ns), .ref (g.2.2.1 + 7), .ref (g.2.2.1 + 8), .ref (g.2.2.1 + 9), .int (nI T.nv), .ref (g.2.2.1 + 10), .ref (g.2.2.1 + 11), .ref (g.2.2.1 + 12), .ref (g.2.2.1 + 13), .ref (g.2.2.1 + 14), .ref (g.2.2.1 + 15), .ref (g.2.2.1 + 16), .int (nI na), .ref (g.2.2.1 + 17), .ref (g.2.2.1 + 18)])) := by rw [eS_1]; exact am_up_s
      have hnS_1 : S_1.2.1 = S.2.1 := by rw [eS_1]
      have hzS_1 : S_1.2.2 = S.2.2 := by rw [eS_1]
      have hN1 : sv_N g S_1.1 T 0 na ne nw rd mt := ⟨fl, fz, fN, fS, fa, fx, fe, fs, ⟨h_15, h_2, h_3, h_4, h_5, h_6, h_7, h_8, h_9, h_10, h_11, h_12, h_13⟩, ⟨t1, t2, t3⟩, hw⟩
      have hf1 : sv_MF g S S_1 := hf_14
      refine am_aloadn d_M_shared_25 rfl ?_
      refine am_get d_M_shared_26 fl_M_48 h_15 rfl ?_
      refine am_ifgt (tgt := 47) d_M_shared_29 (by decide) (fun hz => ?_) (fun hz => ?_)
      · exact absurd hz (by decide)
      · refine am_aloadn d_M_shared_32 rfl ?_
        refine am_get d_M_shared_33 fl_M_20 h_15 rfl ?_
        refine am_iloadn d_M_shared_36 rfl ?_
        refine am_ialdN (t := 0) (k := j) d_M_shared_37 rfl h_5 (by omega) (by omega) ?_
        refine am_ti (b := nI (T.vw j).st) v1 ?_
        refine am_aloadn d_M_shared_38 rfl ?_
        refine am_get d_M_shared_39 fl_M_20 h_15 rfl ?_
        refine am_iloadn d_M_shared_42 rfl ?_
        refine am_ialdN (t := 0) (k := l) d_M_shared_43 rfl h_5 (by omega) (by omega) ?_
        refine am_ti (b := nI (T.vw l).st) v1b ?_
        refine am_iceq (tgt := 49) d_M_shared_44 (by decide) (fun hy => ?_) (fun hy => ?_)
        · have heq : (T.vw j).st = (T.vw l).st := (nI_eq (by omega) (by omega)).mp hy
          rw [if_pos heq]
          refine am_iconst 0 d_M_shared_49 (by decide) ?_
          refine am_istoren (L' := [some (.ref (g.2.2.1 + 6)), some (.int (nI j)), some (.int (nI l)), some (.int 0), none, none, none]) d_M_shared_50 (by decide) rfl rfl ?_
          refine e_shared_0 (S := S_1) (fun S2 Mt2 hN2 hf2 hI2 z2 => ?_) 300 0 rfl S_1 mt hN1 sv_MF.rf (fun t ht => absurd ht (Nat.not_lt_zero t))
          obtain ⟨flc, fzc, fNc, fSc, fac, fxc, fec, fsc, ⟨m0c, m1c, m2c, m3c, m4c, m5c, m6c, m7c, m8c, m9c, m10c, m11c, m12c⟩, ⟨t1c, t2c, t3c⟩, hwc⟩ := id hN2
          refine am_aloadn d_M_shared_71 rfl ?_
          refine am_iloadn d_M_shared_72 rfl ?_
          refine am_cpsV [.int (nI j)] [] d_M_shared_73 cV_M_117 rfl m0c rfl rfl (Nat.le_of_ble_eq_true rfl) (Nat.le_of_ble_eq_true rfl) (m_items hN2 hj ?_)
          show am_W g (d + 2) mm_M_shared (76, [some (.ref (g.2.2.1 + 6)), some (.int (nI j)), some (.int (nI l)), some (.int z2), none, none, none], [.int (nI (T.vw j).it)]) S2 _
          refine am_istoren (L' := [some (.ref (g.2.2.1 + 6)), some (.int (nI j)), some (.int (nI l)), some (.int (nI (T.vw j).it)), none, none, none]) d_M_shared_76 (by decide) rfl rfl ?_
          refine am_iconst 0 d_M_shared_77 (by decide) ?_
          refine am_istore (L' := [some (.ref (g.2.2.1 + 6)), some (.int (nI j)), some (.int (nI l)), some (.int (nI (T.vw j).it)), some (.int 0), none, none]) d_M_shared_78 (by decide) rfl rfl ?_
          refine e_shared_1 (S := S2) hj (fun S3 Mt3 hN3 hf3 hI3 z3 => ?_) (T.vw j).it 0 (Nat.zero_add _) S2 Mt2 hN2 sv_MF.rf hI2
          obtain ⟨fld, fzd, fNd, fSd, fad, fxd, fed, fsd, ⟨m0d, m1d, m2d, m3d, m4d, m5d, m6d, m7d, m8d, m9d, m10d, m11d, m12d⟩, ⟨t1d, t2d, t3d⟩, hwd⟩ := id hN3
          refine am_iconst 0 d_M_shared_105 (by decide) ?_
          refine am_istore (L' := [some (.ref (g.2.2.1 + 6)), some (.int (nI j)), some (.int (nI l)), some (.int (nI (T.vw j).it)), some (.int 0), none, none]) d_M_shared_106 (by decide) rfl rfl ?_
          refine am_aloadn d_M_shared_108 rfl ?_
          refine am_iloadn d_M_shared_109 rfl ?_
          refine am_cpsV [.int (nI l)] [] d_M_shared_110 cV_M_117 rfl m0d rfl rfl (Nat.le_of_ble_eq_true rfl) (Nat.le_of_ble_eq_true rfl) (m_items hN3 hl ?_)
          show am_W g (d + 2) mm_M_shared (113, [some (.ref (g.2.2.1 + 6)), some (.int (nI j)), some (.int (nI l)), some (.int (nI (T.vw j).it)), some (.int 0), none, none], [.int (nI (T.vw l).it)]) S3 _
          refine am_istoren (L' := [some (.ref (g.2.2.1 + 6)), some (.int (nI j)), some (.int (nI l)), some (.int (nI (T.vw l).it)), some (.int 0), none, none]) d_M_shared_113 (by decide) rfl rfl ?_
          refine am_iconst 0 d_M_shared_114 (by decide) ?_
          refine am_istore (L' := [some (.ref (g.2.2.1 + 6)), some (.int (nI j)), some (.int (nI l)), some (.int (nI (T.vw l).it)), some (.int 0), some (.int 0), none]) d_M_shared_115 (by decide) rfl rfl ?_
          exact e_shared_2 (S := S3) hl (mk0 := sv_mk (fun i => ((T.vw j).pl i).toNatClampNeg) (T.vw j).it) (fun S4 Mt4 hN4 hf4 => sv_E.ok hN4 (hf1.tr (hf2.tr (hf3.tr hf4)))) (T.vw l).it 0 (Nat.zero_add _) S3 Mt3 hN3 sv_MF.rf hI3
        · have hne : ¬ (T.vw j).st = (T.vw l).st := fun q => hy (by rw [q])
          rw [if_neg hne]
          refine am_iconst 0 d_M_shared_47 (by decide) ?_
          exact am_iret d_M_shared_48 rfl (sv_E.ok hN1 hf1)
    · rw [sv_if_n hC]
      refine am_put d_M_shared_22 fp_M_48 m0 rfl rfl (Nat.le_of_ble_eq_true rfl) ?_
      obtain ⟨S_16, eS_16⟩ : ∃ z : am_S, z = (am_up S.1 (g.2.2.1 + 6) (.inr (3, [.int 1, .int (nI T.ns), .ref (g.2.2.1 + 7), .ref (g.2.2.1 + 8), .ref (g.2.2.1 + 9), .int (nI T.nv), .ref (g.2.2.1 + 10), .ref (g.2.2.1 + 11), .ref (g.2.2.1 + 12), .ref (g.2.2.1 + 13), .ref (g.2.2.1 + 14), .ref (g.2.2.1 + 15), .ref (g.2.2.1 + 16), .int (nI na), .ref (g.2.2.1 + 17), .ref (g.2.2.1 + 18)])), S.2) := ⟨_, rfl⟩
      change am_W _ _ _ _ (am_up S.1 (g.2.2.1 + 6) (.inr (3, [.int 1, .int (nI T.ns), .ref (g.2.2.1 + 7), .ref (g.2.2.1 + 8), .ref (g.2.2.1 + 9), .int (nI T.nv), .ref (g.2.2.1 + 10), .ref (g.2.2.1 + 11), .ref (g.2.2.1 + 12), .ref (g.2.2.1 + 13), .ref (g.2.2.1 + 14), .ref (g.2.2.1 + 15), .ref (g.2.2.1 + 16), .int (nI na), .ref (g.2.2.1 + 17), .ref (g.2.2.1 + 18)])), S.2) _
      rw [← eS_16]
      have h_17 : S_16.1 (g.2.2.1 + 7) = some (.inl (0, 12, .inl fl)) := by rw [eS_16]; exact (am_up_n (by omega)).trans m1
      have h_18 : S_16.1 (g.2.2.1 + 8) = some (.inl (0, 12, .inl fz)) := by rw [eS_16]; exact (am_up_n (by omega)).trans m2
      have h_19 : S_16.1 (g.2.2.1 + 9) = some (.inl (1, 3600, .inr (.inl fN))) := by rw [eS_16]; exact (am_up_n (by omega)).trans m3
      have h_20 : S_16.1 (g.2.2.1 + 10) = some (.inl (0, 80, .inl fS)) := by rw [eS_16]; exact (am_up_n (by omega)).trans m4
      have h_21 : S_16.1 (g.2.2.1 + 11) = some (.inl (0, 80, .inl fa)) := by rw [eS_16]; exact (am_up_n (by omega)).trans m5
      have h_22 : S_16.1 (g.2.2.1 + 12) = some (.inl (0, 80, .inl fx)) := by rw [eS_16]; exact (am_up_n (by omega)).trans m6
      have h_23 : S_16.1 (g.2.2.1 + 13) = some (.inl (0, 320, .inl fe)) := by rw [eS_16]; exact (am_up_n (by omega)).trans m7
      have h_24 : S_16.1 (g.2.2.1 + 14) = some (.inl (0, 320, .inl fs)) := by rw [eS_16]; exact (am_up_n (by omega)).trans m8
      have h_25 : S_16.1 (g.2.2.1 + 15) = some (.inl (1, 5, .inr (.inl ne))) := by rw [eS_16]; exact (am_up_n (by omega)).trans m9
      have h_26 : S_16.1 (g.2.2.1 + 16) = some (.inl (1, 5, .inr (.inl nw))) := by rw [eS_16]; exact (am_up_n (by omega)).trans m10
      have h_27 : S_16.1 (g.2.2.1 + 17) = some (.inl (1, 3000, .inr (.inl rd))) := by rw [eS_16]; exact (am_up_n (by omega)).trans m11
      have h_28 : S_16.1 (g.2.2.1 + 18) = some (.inl (2, 300, .inl mt)) := by rw [eS_16]; exact (am_up_n (by omega)).trans m12
      have hf_29 : sv_MF g S S_16 := by rw [eS_16]; exact sv_MF.rf.u (by omega) (by omega)
      have h_30 : S_16.1 (g.2.2.1 + 6) = some (.inr (3, [.int 1, .int (nI T.ns), .ref (g.2.2.1 + 7), .ref (g.2.2.1 + 8), .ref (g.2.2.1 + 9), .int (nI T.nv), .ref (g.2.2.1 + 10), .ref (g.2.2.1 + 11), .ref (g.2.2.1 + 12), .ref (g.2.2.1 + 13), .ref (g.2.2.1 + 14), .ref (g.2.2.1 + 15), .ref (g.2.2.1 + 16), .int (nI na), .ref (g.2.2.1 + 17), .ref (g.2.2.1 + 18)])) := by rw [eS_16]; exact am_up_s
      have hnS_16 : S_16.2.1 = S.2.1 := by rw [eS_16]
      have hzS_16 : S_16.2.2 = S.2.2 := by rw [eS_16]
      have hN1 : sv_N g S_16.1 T 1 na ne nw rd mt := ⟨fl, fz, fN, fS, fa, fx, fe, fs, ⟨h_30, h_17, h_18, h_19, h_20, h_21, h_22, h_23, h_24, h_25, h_26, h_27, h_28⟩, ⟨t1, t2, t3⟩, hw⟩
      have hf1 : sv_MF g S S_16 := hf_29
      refine am_aloadn d_M_shared_25 rfl ?_
      refine am_get d_M_shared_26 fl_M_48 h_30 rfl ?_
      refine am_ifgt (tgt := 47) d_M_shared_29 (by decide) (fun hz => ?_) (fun hz => ?_)
      · refine am_iconst 0 d_M_shared_47 (by decide) ?_
        rw [q_shared, q_two_no hC]
        exact am_iret d_M_shared_48 rfl (sv_E.no hN1 hf1 (by decide))
      · exact absurd (by decide) hz
  · refine am_aloadn d_M_shared_1 rfl ?_
    refine am_iloadn d_M_shared_2 rfl ?_
    refine am_cpsV [.int v] [.ref (g.2.2.1 + 6)] d_M_shared_3 cV_M_55 rfl m0 rfl rfl (Nat.le_of_ble_eq_true rfl) (Nat.le_of_ble_eq_true rfl) (m_isView hM ?_)
    show am_W g (d + 2) mm_M_shared (6, [some (.ref (g.2.2.1 + 6)), some (.int v), some (.int w), none, none, none, none], [.int (sv_if (sv_iv T v) 1 0), .ref (g.2.2.1 + 6)]) S _
    refine am_ifeq (tgt := 21) d_M_shared_6 (by decide) (fun hc => ?_) (fun hc => ?_)
    · refine am_iconst 1 d_M_shared_21 (by decide) ?_
      rw [sv_if_n (fun q => sv_b0 hc q.1)] at key
      exact key
    · refine am_aloadn d_M_shared_9 rfl ?_
      refine am_iloadn d_M_shared_10 rfl ?_
      refine am_cpsV [.int w] [.ref (g.2.2.1 + 6)] d_M_shared_11 cV_M_55 rfl m0 rfl rfl (Nat.le_of_ble_eq_true rfl) (Nat.le_of_ble_eq_true rfl) (m_isView hM ?_)
      show am_W g (d + 2) mm_M_shared (14, [some (.ref (g.2.2.1 + 6)), some (.int v), some (.int w), none, none, none, none], [.int (sv_if (sv_iv T w) 1 0), .ref (g.2.2.1 + 6)]) S _
      refine am_ifeq (tgt := 21) d_M_shared_14 (by decide) (fun hd => ?_) (fun hd => ?_)
      · refine am_iconst 1 d_M_shared_21 (by decide) ?_
        rw [sv_if_n (fun q => sv_b0 hd q.2)] at key
        exact key
      · refine am_iconst 0 d_M_shared_17 (by decide) ?_
        refine am_goto (tgt := 22) d_M_shared_18 (by decide) ?_
        rw [sv_if_y (⟨sv_b1 hc, sv_b1 hd⟩)] at key
        exact key
