/-! the reference: spread -/
theorem sv_app {n : Nat} {Ne Nw : Nat → Int64} {E : Nat → Nat} {p : Nat → Int32} {x y : Int64} (h : ∀ t, t < n → Ne t = lN (E t) ∧ Nw t = (p t).toInt64) (hx : x = lN (E n)) (hy : y = (p n).toInt64) : ∀ t, t < n + 1 → vp_updL Ne n x t = lN (E t) ∧ vp_updL Nw n y t = (p t).toInt64 := by
  intro t ht
  by_cases e : t = n
  · subst e
    rw [pk_uLs, pk_uLs]
    exact ⟨hx, hy⟩
  · rw [pk_uLn e, pk_uLn e]
    exact h t (by omega)
theorem q_spread_4 {T : sv_T} {v x n : Int32} (h : ¬ (sv_iv T v ∧ 0 ≤ x ∧ x ≤ nI (T.va v).ax)) : q_spread T v x n = (4, .null, T) := by
  unfold q_spread sv_qv
  split
  · rename_i h1
    exact if_neg (fun q => h ⟨h1, q⟩)
  · rfl
theorem q_spread_5 {T : sv_T} {v x n : Int32} (h : sv_iv T v ∧ 0 ≤ x ∧ x ≤ nI (T.va v).ax) (hn : ¬ 0 ≤ n) : q_spread T v x n = (5, .null, T) := by
  unfold q_spread sv_qv
  rw [if_pos h.1]
  dsimp only
  rw [if_pos h.2, if_neg hn]
theorem sv_3000 {X : Nat} (h : ¬ (3000 : Int64) < lN (min X 3001)) : X ≤ 3000 := by
  have : ¬ 3000 < min X 3001 := fun q => h ((pk_lLT (a := 3000) (b := min X 3001) (by decide) (by omega)).mpr q)
  omega
theorem sv_3001 {X : Nat} (h : X ≤ 3000) (h2 : (3000 : Int64) < lN (min X 3001)) : False := by
  have := (pk_lLT (a := 3000) (b := min X 3001) (by decide) (by omega)).mp h2
  omega
theorem sv_spread_6 {T : sv_T} {a b : sv_A} (h : ¬ (T.nv < 80 ∧ a.ax < 4 ∧ b.it ≤ 3000)) : (if a.ax < 4 then sv_kp T b else (6, .null, T)) = (6, .null, T) := by
  by_cases h4 : a.ax < 4
  · rw [if_pos h4]
    exact if_neg (fun q => h ⟨q.1, h4, q.2⟩)
  · rw [if_neg h4]
set_option maxHeartbeats 4000000 in
set_option maxRecDepth 100000 in
/-- spread, the axes -/
theorem e_spread_l {g : am_G} {d : Nat} {S : am_S} {T : sv_T} {th : Int32} {rd : Nat → Int64} {mt : Nat → Int32} {j x0 N : Nat} (hj : j < T.nv) (hx0 : x0 ≤ (T.vw j).ax) (hN31 : N < 2 ^ 31) {z4 z5 : Int32} {P : am_O → am_S → Prop} (hK : ∀ (S1 : am_S) (Ne Nw : Nat → Int64), sv_N g S1.1 T th ((T.vw j).ax + 1) Ne Nw rd mt → sv_MF g S S1 → (∀ t, t < (T.vw j).ax + 1 → Ne t = lN ((sv_ins (T.vw j).ex x0 N) t) ∧ Nw t = ((sv_ins (T.vw j).sp x0 0) t).toInt64) → ∀ z : Int32, am_W g (d + 1) mm_M_spread (131, [some (.ref (g.2.2.1 + 6)), some (.int (nI j)), some (.int (nI x0)), some (.int (nI N)), some (.int z4), some (.int z5), some (.int z)], []) S1 P) : ∀ (m k : Nat), k + m = (T.vw j).ax + 1 → ∀ (S0 : am_S) (Ne Nw : Nat → Int64), sv_N g S0.1 T th (min k (T.vw j).ax + (if x0 < k then 1 else 0)) Ne Nw rd mt → sv_MF g S S0 → (∀ t, t < (min k (T.vw j).ax + (if x0 < k then 1 else 0)) → Ne t = lN ((sv_ins (T.vw j).ex x0 N) t) ∧ Nw t = ((sv_ins (T.vw j).sp x0 0) t).toInt64) → am_W g (d + 1) mm_M_spread (62, [some (.ref (g.2.2.1 + 6)), some (.int (nI j)), some (.int (nI x0)), some (.int (nI N)), some (.int z4), some (.int z5), some (.int (nI k))], []) S0 P := by
  intro m
  induction m using Nat.strongRecOn with
  | ind m ih =>
    intro k hk S0 Ne Nw hN hfr hI
    obtain ⟨fl, fz, fN, fS, fa, fx, fe, fs, ⟨m0, m1, m2, m3, m4, m5, m6, m7, m8, m9, m10, m11, m12⟩, ⟨t1, t2, t3⟩, hw⟩ := id hN
    have h80 := hw.2.1
    obtain ⟨v1, v2, v3, v4⟩ := t3 j hj
    obtain ⟨w1, w2, w3, w4, w5, w6, w7⟩ := hw.2.2.2 j hj
    refine am_iload d_M_spread_62 rfl ?_
    refine am_aloadn d_M_spread_64 rfl ?_
    refine am_get d_M_spread_65 fl_M_26 m0 rfl ?_
    refine am_iloadn d_M_spread_68 rfl ?_
    refine am_ialdN (t := 0) (k := j) d_M_spread_69 rfl m6 (by omega) (by omega) ?_
    refine am_ti (b := nI (T.vw j).ax) v3 ?_
    refine am_icgt (tgt := 131) d_M_spread_70 (by decide) (fun hc => ?_) (fun hc => ?_)
    · have hk0 : (T.vw j).ax < k := (nI_ltI (by omega) (by omega)).mp hc
      obtain rfl : k = (T.vw j).ax + 1 := by omega
      have hna : (min ((T.vw j).ax + 1) (T.vw j).ax + (if x0 < (T.vw j).ax + 1 then 1 else 0)) = (T.vw j).ax + 1 := by rw [if_pos (by omega)]; omega
      rw [hna] at hN hI
      exact hK S0 Ne Nw hN hfr hI (nI ((T.vw j).ax + 1))
    · have hlt : k ≤ (T.vw j).ax := Nat.le_of_not_lt (fun q => hc (nI_lt q (by omega)))
      refine am_iload d_M_spread_73 rfl ?_
      refine am_iloadn d_M_spread_75 rfl ?_
      refine am_icne (tgt := 86) d_M_spread_76 (by decide) (fun hz => ?_) (fun hz => ?_)
      · have hkx : k ≠ x0 := fun q => hz (by rw [q])
        refine am_iload d_M_spread_86 rfl ?_
        refine am_aloadn d_M_spread_88 rfl ?_
        refine am_get d_M_spread_89 fl_M_26 m0 rfl ?_
        refine am_iloadn d_M_spread_92 rfl ?_
        refine am_ialdN (t := 0) (k := j) d_M_spread_93 rfl m6 (by omega) (by omega) ?_
        refine am_ti (b := nI (T.vw j).ax) v3 ?_
        refine am_icge (tgt := 125) d_M_spread_94 (by decide) (fun hy => ?_) (fun hy => ?_)
        · have hka : k = (T.vw j).ax := by have := (nI_leI (by omega) (by omega)).mp hy; omega
          refine am_iinc (v := nI (k + 1)) (L' := [some (.ref (g.2.2.1 + 6)), some (.int (nI j)), some (.int (nI x0)), some (.int (nI N)), some (.int z4), some (.int z5), some (.int (nI (k + 1)))]) d_M_spread_125 rfl (nI_1 k) (by decide) rfl rfl ?_
          refine am_goto (tgt := 62) d_M_spread_128 (by decide) ?_
          have hnn : (min (k + 1) (T.vw j).ax + (if x0 < k + 1 then 1 else 0)) = (min k (T.vw j).ax + (if x0 < k then 1 else 0)) := by
            by_cases c1 : x0 < k + 1 <;> by_cases c2 : x0 < k <;> simp only [c1, c2, if_true, if_false] <;> omega
          refine ih (m - 1) (by omega) (k + 1) (by omega) S0 Ne Nw (by rw [hnn]; exact hN) hfr (by rw [hnn]; exact hI)
        · have hka : k < (T.vw j).ax := Nat.lt_of_not_le (fun q => hy (nI_le q (by omega)))
          have hOk := w3 k hka
          refine am_aloadn d_M_spread_97 rfl ?_
          refine am_aloadn d_M_spread_98 rfl ?_
          refine am_get d_M_spread_99 fl_M_29 m0 rfl ?_
          refine am_iconst 4 d_M_spread_102 (by decide) ?_
          refine am_iloadn d_M_spread_103 rfl ?_
          refine am_imul d_M_spread_104 ?_
          refine am_iload d_M_spread_105 rfl ?_
          refine am_iadd d_M_spread_107 ?_
          refine am_ti (b := nI (4 * j + k)) (sv_4 j k) ?_
          refine am_ialdN (t := 0) (k := 4 * j + k) d_M_spread_108 rfl m7 (by omega) (by omega) ?_
          refine am_ti (b := nI ((T.vw j).ex k)) ((v4 k hka).1) ?_
          refine am_i2l d_M_spread_109 ?_
          refine am_tl (b := lN ((T.vw j).ex k)) (nI_l hOk) ?_
          refine am_aloadn d_M_spread_110 rfl ?_
          refine am_get d_M_spread_111 fl_M_32 m0 rfl ?_
          refine am_iconst 4 d_M_spread_114 (by decide) ?_
          refine am_iloadn d_M_spread_115 rfl ?_
          refine am_imul d_M_spread_116 ?_
          refine am_iload d_M_spread_117 rfl ?_
          refine am_iadd d_M_spread_119 ?_
          refine am_ti (b := nI (4 * j + k)) (sv_4 j k) ?_
          refine am_ialdN (t := 0) (k := 4 * j + k) d_M_spread_120 rfl m8 (by omega) (by omega) ?_
          refine am_ti (b := (T.vw j).sp k) ((v4 k hka).2) ?_
          refine am_i2l d_M_spread_121 ?_
          refine am_cpsV [.long (lN ((T.vw j).ex k)), .long (((T.vw j).sp k).toInt64)] [] d_M_spread_122 cV_M_94 rfl m0 rfl rfl (Nat.le_of_ble_eq_true rfl) (Nat.le_of_ble_eq_true rfl) (m_more hN (by split <;> omega) (fun S3 hN3 hf3 => ?_))
          show am_W g (d + 1) mm_M_spread (125, [some (.ref (g.2.2.1 + 6)), some (.int (nI j)), some (.int (nI x0)), some (.int (nI N)), some (.int z4), some (.int z5), some (.int (nI k))], []) S3 _
          have hfk : lN ((T.vw j).ex k) = lN ((sv_ins (T.vw j).ex x0 N) ((min k (T.vw j).ax + (if x0 < k then 1 else 0)))) ∧ ((T.vw j).sp k).toInt64 = ((sv_ins (T.vw j).sp x0 0) ((min k (T.vw j).ax + (if x0 < k then 1 else 0)))).toInt64 := by
            by_cases c2 : x0 < k
            · rw [if_pos c2, Nat.min_eq_left (by omega)]; simp only [sv_ins]; rw [if_neg (by omega), if_neg (by omega), if_neg (by omega), if_neg (by omega), Nat.add_sub_cancel]; exact ⟨rfl, rfl⟩
            · rw [if_neg c2, Nat.min_eq_left (by omega), Nat.add_zero]; simp only [sv_ins]; rw [if_pos (by omega), if_pos (by omega)]; exact ⟨rfl, rfl⟩
          refine am_iinc (v := nI (k + 1)) (L' := [some (.ref (g.2.2.1 + 6)), some (.int (nI j)), some (.int (nI x0)), some (.int (nI N)), some (.int z4), some (.int z5), some (.int (nI (k + 1)))]) d_M_spread_125 rfl (nI_1 k) (by decide) rfl rfl ?_
          refine am_goto (tgt := 62) d_M_spread_128 (by decide) ?_
          have hnn : (min (k + 1) (T.vw j).ax + (if x0 < k + 1 then 1 else 0)) = (min k (T.vw j).ax + (if x0 < k then 1 else 0)) + 1 := by
            by_cases c1 : x0 < k + 1 <;> by_cases c2 : x0 < k <;> simp only [c1, c2, if_true, if_false] <;> omega
          refine ih (m - 1) (by omega) (k + 1) (by omega) S3 (vp_updL Ne ((min k (T.vw j).ax + (if x0 < k then 1 else 0))) (lN ((T.vw j).ex k))) (vp_updL Nw ((min k (T.vw j).ax + (if x0 < k then 1 else 0))) ((T.vw j).sp k).toInt64) (by rw [hnn]; exact hN3) (hfr.tr hf3) (by rw [hnn]; exact sv_app hI hfk.1 hfk.2)
      · have hkx : k = x0 := (nI_eq (by omega) (by omega)).mp hz
        refine am_aloadn d_M_spread_79 rfl ?_
        refine am_iloadn d_M_spread_80 rfl ?_
        refine am_i2l d_M_spread_81 ?_
        refine am_tl (b := lN N) (nI_l hN31) ?_
        refine am_lconst 0 d_M_spread_82 (by decide) ?_
        refine am_cpsV [.long (lN N), .long 0] [] d_M_spread_83 cV_M_94 rfl m0 rfl rfl (Nat.le_of_ble_eq_true rfl) (Nat.le_of_ble_eq_true rfl) (m_more hN (by rw [if_neg (by omega)]; omega) (fun S2 hN2 hf2 => ?_))
        show am_W g (d + 1) mm_M_spread (86, [some (.ref (g.2.2.1 + 6)), some (.int (nI j)), some (.int (nI x0)), some (.int (nI N)), some (.int z4), some (.int z5), some (.int (nI k))], []) S2 _
        have hnk : (min k (T.vw j).ax + (if x0 < k then 1 else 0)) = k := by rw [if_neg (by omega)]; omega
        have hI2 : ∀ t, t < (min k (T.vw j).ax + (if x0 < k then 1 else 0)) + 1 → (vp_updL Ne (min k (T.vw j).ax + (if x0 < k then 1 else 0)) (lN N)) t = lN ((sv_ins (T.vw j).ex x0 N) t) ∧ (vp_updL Nw (min k (T.vw j).ax + (if x0 < k then 1 else 0)) 0) t = ((sv_ins (T.vw j).sp x0 0) t).toInt64 := sv_app hI (by rw [hnk]; simp only [sv_ins]; rw [if_neg (by omega), if_pos hkx]) (by rw [hnk]; simp only [sv_ins]; rw [if_neg (by omega), if_pos hkx]; rfl)
        obtain ⟨flc, fzc, fNc, fSc, fac, fxc, fec, fsc, ⟨m0c, m1c, m2c, m3c, m4c, m5c, m6c, m7c, m8c, m9c, m10c, m11c, m12c⟩, ⟨t1c, t2c, t3c⟩, hwc⟩ := id hN2
        obtain ⟨u1, u2, u3, u4⟩ := t3c j hj
        refine am_iload d_M_spread_86 rfl ?_
        refine am_aloadn d_M_spread_88 rfl ?_
        refine am_get d_M_spread_89 fl_M_26 m0c rfl ?_
        refine am_iloadn d_M_spread_92 rfl ?_
        refine am_ialdN (t := 0) (k := j) d_M_spread_93 rfl m6c (by omega) (by omega) ?_
        refine am_ti (b := nI (T.vw j).ax) u3 ?_
        refine am_icge (tgt := 125) d_M_spread_94 (by decide) (fun hy => ?_) (fun hy => ?_)
        · have hka : k = (T.vw j).ax := by have := (nI_leI (by omega) (by omega)).mp hy; omega
          refine am_iinc (v := nI (k + 1)) (L' := [some (.ref (g.2.2.1 + 6)), some (.int (nI j)), some (.int (nI x0)), some (.int (nI N)), some (.int z4), some (.int z5), some (.int (nI (k + 1)))]) d_M_spread_125 rfl (nI_1 k) (by decide) rfl rfl ?_
          refine am_goto (tgt := 62) d_M_spread_128 (by decide) ?_
          have hnn : (min (k + 1) (T.vw j).ax + (if x0 < k + 1 then 1 else 0)) = (min k (T.vw j).ax + (if x0 < k then 1 else 0)) + 1 := by
            by_cases c1 : x0 < k + 1 <;> by_cases c2 : x0 < k <;> simp only [c1, c2, if_true, if_false] <;> omega
          refine ih (m - 1) (by omega) (k + 1) (by omega) S2 (vp_updL Ne (min k (T.vw j).ax + (if x0 < k then 1 else 0)) (lN N)) (vp_updL Nw (min k (T.vw j).ax + (if x0 < k then 1 else 0)) 0) (by rw [hnn]; exact hN2) (hfr.tr hf2) (by rw [hnn]; exact hI2)
        · have hka : k < (T.vw j).ax := Nat.lt_of_not_le (fun q => hy (nI_le q (by omega)))
          have hOk := w3 k hka
          refine am_aloadn d_M_spread_97 rfl ?_
          refine am_aloadn d_M_spread_98 rfl ?_
          refine am_get d_M_spread_99 fl_M_29 m0c rfl ?_
          refine am_iconst 4 d_M_spread_102 (by decide) ?_
          refine am_iloadn d_M_spread_103 rfl ?_
          refine am_imul d_M_spread_104 ?_
          refine am_iload d_M_spread_105 rfl ?_
          refine am_iadd d_M_spread_107 ?_
          refine am_ti (b := nI (4 * j + k)) (sv_4 j k) ?_
          refine am_ialdN (t := 0) (k := 4 * j + k) d_M_spread_108 rfl m7c (by omega) (by omega) ?_
          refine am_ti (b := nI ((T.vw j).ex k)) ((u4 k hka).1) ?_
          refine am_i2l d_M_spread_109 ?_
          refine am_tl (b := lN ((T.vw j).ex k)) (nI_l hOk) ?_
          refine am_aloadn d_M_spread_110 rfl ?_
          refine am_get d_M_spread_111 fl_M_32 m0c rfl ?_
          refine am_iconst 4 d_M_spread_114 (by decide) ?_
          refine am_iloadn d_M_spread_115 rfl ?_
          refine am_imul d_M_spread_116 ?_
          refine am_iload d_M_spread_117 rfl ?_
          refine am_iadd d_M_spread_119 ?_
          refine am_ti (b := nI (4 * j + k)) (sv_4 j k) ?_
          refine am_ialdN (t := 0) (k := 4 * j + k) d_M_spread_120 rfl m8c (by omega) (by omega) ?_
          refine am_ti (b := (T.vw j).sp k) ((u4 k hka).2) ?_
          refine am_i2l d_M_spread_121 ?_
          refine am_cpsV [.long (lN ((T.vw j).ex k)), .long (((T.vw j).sp k).toInt64)] [] d_M_spread_122 cV_M_94 rfl m0c rfl rfl (Nat.le_of_ble_eq_true rfl) (Nat.le_of_ble_eq_true rfl) (m_more hN2 (by rw [if_neg (by omega)]; omega) (fun S3 hN3 hf3 => ?_))
          show am_W g (d + 1) mm_M_spread (125, [some (.ref (g.2.2.1 + 6)), some (.int (nI j)), some (.int (nI x0)), some (.int (nI N)), some (.int z4), some (.int z5), some (.int (nI k))], []) S3 _
          have hfk : lN ((T.vw j).ex k) = lN ((sv_ins (T.vw j).ex x0 N) ((min k (T.vw j).ax + (if x0 < k then 1 else 0)) + 1)) ∧ ((T.vw j).sp k).toInt64 = ((sv_ins (T.vw j).sp x0 0) ((min k (T.vw j).ax + (if x0 < k then 1 else 0)) + 1)).toInt64 := by
            have hnk : (min k (T.vw j).ax + (if x0 < k then 1 else 0)) + 1 = k + 1 := by rw [if_neg (by omega)]; omega
            rw [hnk]; simp only [sv_ins]; rw [if_neg (by omega), if_neg (by omega), if_neg (by omega), if_neg (by omega), Nat.add_sub_cancel]; exact ⟨rfl, rfl⟩
          refine am_iinc (v := nI (k + 1)) (L' := [some (.ref (g.2.2.1 + 6)), some (.int (nI j)), some (.int (nI x0)), some (.int (nI N)), some (.int z4), some (.int z5), some (.int (nI (k + 1)))]) d_M_spread_125 rfl (nI_1 k) (by decide) rfl rfl ?_
          refine am_goto (tgt := 62) d_M_spread_128 (by decide) ?_
          have hnn : (min (k + 1) (T.vw j).ax + (if x0 < k + 1 then 1 else 0)) = (min k (T.vw j).ax + (if x0 < k then 1 else 0)) + 1 + 1 := by
            by_cases c1 : x0 < k + 1 <;> by_cases c2 : x0 < k <;> simp only [c1, c2, if_true, if_false] <;> omega
          refine ih (m - 1) (by omega) (k + 1) (by omega) S3 (vp_updL (vp_updL Ne (min k (T.vw j).ax + (if x0 < k then 1 else 0)) (lN N)) ((min k (T.vw j).ax + (if x0 < k then 1 else 0)) + 1) (lN ((T.vw j).ex k))) (vp_updL (vp_updL Nw (min k (T.vw j).ax + (if x0 < k then 1 else 0)) 0) ((min k (T.vw j).ax + (if x0 < k then 1 else 0)) + 1) ((T.vw j).sp k).toInt64) (by rw [hnn]; exact hN3) ((hfr.tr hf2).tr hf3) (by rw [hnn]; exact sv_app hI2 hfk.1 hfk.2)
set_option maxHeartbeats 4000000 in
set_option maxRecDepth 100000 in
/-- M_spread -/
theorem e_spread {g : am_G} {d : Nat} {S : am_S} {T : sv_T} {th : Int32} {na : Nat} {ne nw rd : Nat → Int64} {mt : Nat → Int32} (hM : sv_N g S.1 T th na ne nw rd mt) {v x n : Int32} : am_W g (d + 2) mm_M_spread (0, am_ent [.ref (g.2.2.1 + 6), .int v, .int x, .int n] 7, []) S (sv_E g S (q_spread T v x n) (sv_cd 4 5 6)) := by
  obtain ⟨fl, fz, fN, fS, fa, fx, fe, fs, ⟨m0, m1, m2, m3, m4, m5, m6, m7, m8, m9, m10, m11, m12⟩, ⟨t1, t2, t3⟩, hw⟩ := id hM
  have h80 := hw.2.1
  have h12 := hw.1
  show am_W g (d + 2) mm_M_spread (0, [some (.ref (g.2.2.1 + 6)), some (.int v), some (.int x), some (.int n), none, none, none], []) S _
  refine am_cut (F := (27, [some (.ref (g.2.2.1 + 6)), some (.int v), some (.int x), some (.int n), none, none, none], [.int (sv_if (sv_iv T v ∧ 0 ≤ x ∧ x ≤ nI (T.va v).ax) 1 0)])) ?_ (fun key => ?_)
  · skip
    refine am_istore (L' := [some (.ref (g.2.2.1 + 6)), some (.int v), some (.int x), some (.int n), some (.int (sv_if (sv_iv T v ∧ 0 ≤ x ∧ x ≤ nI (T.va v).ax) 1 0)), none, none]) d_M_spread_27 (by decide) rfl rfl ?_
    refine am_cut (F := (43, [some (.ref (g.2.2.1 + 6)), some (.int v), some (.int x), some (.int n), some (.int (sv_if (sv_iv T v ∧ 0 ≤ x ∧ x ≤ nI (T.va v).ax) 1 0)), none, none], [.int (sv_if (T.nv < 80) 1 0)])) ?_ (fun key => ?_)
    · skip
      refine am_istore (L' := [some (.ref (g.2.2.1 + 6)), some (.int v), some (.int x), some (.int n), some (.int (sv_if (sv_iv T v ∧ 0 ≤ x ∧ x ≤ nI (T.va v).ax) 1 0)), some (.int (sv_if (T.nv < 80) 1 0)), none]) d_M_spread_43 (by decide) rfl rfl ?_
      by_cases hX : (sv_iv T v ∧ 0 ≤ x ∧ x ≤ nI (T.va v).ax) ∧ 0 ≤ n
      · have hC := hX.1
        have hiv := hC.1
        obtain ⟨j, hj, rfl⟩ := sv_iv_of hiv h80
        obtain ⟨w1, w2, w3, w4, w5, w6, w7⟩ := hw.2.2.2 j hj
        have hC2 := hC.2
        rw [sv_va_j hj h80] at hC2
        obtain ⟨x0, hx31, rfl⟩ := nI_of (Int32.not_lt.mpr hC2.1)
        have hx0 : x0 ≤ (T.vw j).ax := (nI_leI hx31 (by omega)).mp hC2.2
        obtain ⟨N, hN31, rfl⟩ := nI_of (Int32.not_lt.mpr hX.2)
        rw [q_spread, sv_qv_j hj h80, if_pos hC2, if_pos hX.2, nI_clamp hx31, nI_clamp hN31]
        refine am_iload d_M_spread_45 rfl ?_
        refine am_ifeq (tgt := 162) d_M_spread_47 (by decide) (fun hz => ?_) (fun hz => ?_)
        · exact absurd hC (sv_b0 hz)
        · refine am_iloadn d_M_spread_50 rfl ?_
          refine am_iflt (tgt := 162) d_M_spread_51 (by decide) (fun hy => ?_) (fun hy => ?_)
          · exact absurd hy (nI_pos hN31)
          · refine am_aloadn d_M_spread_54 rfl ?_
            refine am_iconst 0 d_M_spread_55 (by decide) ?_
            show am_W _ _ _ (_, _, [.int (nI 0), _]) _ _
            refine am_put d_M_spread_56 fp_M_59 m0 rfl rfl (Nat.le_of_ble_eq_true rfl) ?_
            obtain ⟨S_3, eS_3⟩ : ∃ z : am_S, z = (am_up S.1 (g.2.2.1 + 6) (.inr (3, [.int th, .int (nI T.ns), .ref (g.2.2.1 + 7), .ref (g.2.2.1 + 8), .ref (g.2.2.1 + 9), .int (nI T.nv), .ref (g.2.2.1 + 10), .ref (g.2.2.1 + 11), .ref (g.2.2.1 + 12), .ref (g.2.2.1 + 13), .ref (g.2.2.1 + 14), .ref (g.2.2.1 + 15), .ref (g.2.2.1 + 16), .int (nI 0), .ref (g.2.2.1 + 17), .ref (g.2.2.1 + 18)])), S.2) := ⟨_, rfl⟩
            change am_W _ _ _ _ (am_up S.1 (g.2.2.1 + 6) (.inr (3, [.int th, .int (nI T.ns), .ref (g.2.2.1 + 7), .ref (g.2.2.1 + 8), .ref (g.2.2.1 + 9), .int (nI T.nv), .ref (g.2.2.1 + 10), .ref (g.2.2.1 + 11), .ref (g.2.2.1 + 12), .ref (g.2.2.1 + 13), .ref (g.2.2.1 + 14), .ref (g.2.2.1 + 15), .ref (g.2.2.1 + 16), .int (nI 0), .ref (g.2.2.1 + 17), .ref (g.2.2.1 + 18)])), S.2) _
            rw [← eS_3]
            have h_4 : S_3.1 (g.2.2.1 + 7) = some (.inl (0, 12, .inl fl)) := by rw [eS_3]; exact (am_up_n (by omega)).trans m1
            have h_5 : S_3.1 (g.2.2.1 + 8) = some (.inl (0, 12, .inl fz)) := by rw [eS_3]; exact (am_up_n (by omega)).trans m2
            have h_6 : S_3.1 (g.2.2.1 + 9) = some (.inl (1, 3600, .inr (.inl fN))) := by rw [eS_3]; exact (am_up_n (by omega)).trans m3
            have h_7 : S_3.1 (g.2.2.1 + 10) = some (.inl (0, 80, .inl fS)) := by rw [eS_3]; exact (am_up_n (by omega)).trans m4
            have h_8 : S_3.1 (g.2.2.1 + 11) = some (.inl (0, 80, .inl fa)) := by rw [eS_3]; exact (am_up_n (by omega)).trans m5
            have h_9 : S_3.1 (g.2.2.1 + 12) = some (.inl (0, 80, .inl fx)) := by rw [eS_3]; exact (am_up_n (by omega)).trans m6
            have h_10 : S_3.1 (g.2.2.1 + 13) = some (.inl (0, 320, .inl fe)) := by rw [eS_3]; exact (am_up_n (by omega)).trans m7
            have h_11 : S_3.1 (g.2.2.1 + 14) = some (.inl (0, 320, .inl fs)) := by rw [eS_3]; exact (am_up_n (by omega)).trans m8
            have h_12 : S_3.1 (g.2.2.1 + 15) = some (.inl (1, 5, .inr (.inl ne))) := by rw [eS_3]; exact (am_up_n (by omega)).trans m9
            have h_13 : S_3.1 (g.2.2.1 + 16) = some (.inl (1, 5, .inr (.inl nw))) := by rw [eS_3]; exact (am_up_n (by omega)).trans m10
            have h_14 : S_3.1 (g.2.2.1 + 17) = some (.inl (1, 3000, .inr (.inl rd))) := by rw [eS_3]; exact (am_up_n (by omega)).trans m11
            have h_15 : S_3.1 (g.2.2.1 + 18) = some (.inl (2, 300, .inl mt)) := by rw [eS_3]; exact (am_up_n (by omega)).trans m12
            have hf_16 : sv_MF g S S_3 := by rw [eS_3]; exact sv_MF.rf.u (by omega) (by omega)
            have h_17 : S_3.1 (g.2.2.1 + 6) = some (.inr (3, [.int th, .int (nI T.ns), .ref (g.2.2.1 + 7), .ref (g.2.2.1 + 8), .ref (g.2.2.1 + 9), .int (nI T.nv), .ref (g.2.2.1 + 10), .ref (g.2.2.1 + 11), .ref (g.2.2.1 + 12), .ref (g.2.2.1 + 13), .ref (g.2.2.1 + 14), .ref (g.2.2.1 + 15), .ref (g.2.2.1 + 16), .int (nI 0), .ref (g.2.2.1 + 17), .ref (g.2.2.1 + 18)])) := by rw [eS_3]; exact am_up_s
            have hnS_3 : S_3.2.1 = S.2.1 := by rw [eS_3]
            have hzS_3 : S_3.2.2 = S.2.2 := by rw [eS_3]
            refine am_iconst 0 d_M_spread_59 (by decide) ?_
            refine am_istore (L' := [some (.ref (g.2.2.1 + 6)), some (.int (nI j)), some (.int (nI x0)), some (.int (nI N)), some (.int (sv_if (sv_iv T (nI j) ∧ 0 ≤ nI x0 ∧ nI x0 ≤ nI (T.va (nI j)).ax) 1 0)), some (.int (sv_if (T.nv < 80) 1 0)), some (.int 0)]) d_M_spread_60 (by decide) rfl rfl ?_
            have hN2 : sv_N g S_3.1 T th (min 0 (T.vw j).ax + (if x0 < 0 then 1 else 0)) ne nw rd mt := by
              rw [if_neg (Nat.not_lt_zero _), Nat.zero_min, Nat.add_zero]
              exact ⟨fl, fz, fN, fS, fa, fx, fe, fs, ⟨h_17, h_4, h_5, h_6, h_7, h_8, h_9, h_10, h_11, h_12, h_13, h_14, h_15⟩, ⟨t1, t2, t3⟩, hw⟩
            refine e_spread_l hj hx0 hN31 (fun S2 Ne Nw hN3 hf3 hI3 z => ?_) ((T.vw j).ax + 1) 0 (Nat.zero_add _) S_3 ne nw hN2 hf_16 (fun t ht => absurd ht (by rw [if_neg (Nat.not_lt_zero _), Nat.zero_min]; omega))
            obtain ⟨flc, fzc, fNc, fSc, fac, fxc, fec, fsc, ⟨m0c, m1c, m2c, m3c, m4c, m5c, m6c, m7c, m8c, m9c, m10c, m11c, m12c⟩, ⟨t1c, t2c, t3c⟩, hwc⟩ := id hN3
            have hOn : sv_ok (sv_ins (T.vw j).ex x0 N) ((T.vw j).ax + 1) := fun i hi => by
              simp only [sv_ins]; split
              · exact w3 i (by omega)
              · split
                · exact hN31
                · exact w3 (i - 1) (by omega)
            refine am_cut (F := (160, [some (.ref (g.2.2.1 + 6)), some (.int (nI j)), some (.int (nI x0)), some (.int (nI N)), some (.int (sv_if (sv_iv T (nI j) ∧ 0 ≤ nI x0 ∧ nI x0 ≤ nI (T.va (nI j)).ax) 1 0)), some (.int (sv_if (T.nv < 80) 1 0)), some (.int z)], [.int (sv_if (T.nv < 80 ∧ (T.vw j).ax < 4 ∧ sv_pr (sv_ins (T.vw j).ex x0 N) ((T.vw j).ax + 1) ≤ 3000) 1 0)])) ?_ (fun key => ?_)
            · skip
              refine am_istore (L' := [some (.ref (g.2.2.1 + 6)), some (.int (nI j)), some (.int (nI x0)), some (.int (nI N)), some (.int (sv_if (sv_iv T (nI j) ∧ 0 ≤ nI x0 ∧ nI x0 ≤ nI (T.va (nI j)).ax) 1 0)), some (.int (sv_if (T.nv < 80 ∧ (T.vw j).ax < 4 ∧ sv_pr (sv_ins (T.vw j).ex x0 N) ((T.vw j).ax + 1) ≤ 3000) 1 0)), some (.int z)]) d_M_spread_160 (by decide) rfl rfl ?_
              refine am_aloadn d_M_spread_162 rfl ?_
              refine am_iload d_M_spread_163 rfl ?_
              refine am_cut (F := (174, [some (.ref (g.2.2.1 + 6)), some (.int (nI j)), some (.int (nI x0)), some (.int (nI N)), some (.int (sv_if (sv_iv T (nI j) ∧ 0 ≤ nI x0 ∧ nI x0 ≤ nI (T.va (nI j)).ax) 1 0)), some (.int (sv_if (T.nv < 80 ∧ (T.vw j).ax < 4 ∧ sv_pr (sv_ins (T.vw j).ex x0 N) ((T.vw j).ax + 1) ≤ 3000) 1 0)), some (.int z)], [.int (sv_if (0 ≤ nI N) 1 0), .int (sv_if (sv_iv T (nI j) ∧ 0 ≤ nI x0 ∧ nI x0 ≤ nI (T.va (nI j)).ax) 1 0), .ref (g.2.2.1 + 6)])) ?_ (fun key => ?_)
              · skip
                refine am_iload d_M_spread_174 rfl ?_
                refine am_cpsV [.int (sv_if (sv_iv T (nI j) ∧ 0 ≤ nI x0 ∧ nI x0 ≤ nI (T.va (nI j)).ax) 1 0), .int (sv_if (0 ≤ nI N) 1 0), .int (sv_if (T.nv < 80 ∧ (T.vw j).ax < 4 ∧ sv_pr (sv_ins (T.vw j).ex x0 N) ((T.vw j).ax + 1) ≤ 3000) 1 0)] [] d_M_spread_176 cV_M_109 rfl m0c rfl rfl (Nat.le_of_ble_eq_true rfl) (Nat.le_of_ble_eq_true rfl) (m_goes hN3 (fun b1 S4 hN1 hf1 => ?_) (fun b1 b2 S4 hN1 hf1 => ?_) (fun b1 b2 b3 S4 hN1 hf1 => ?_) (fun b1 b2 b3 S4 hN1 hf1 => ?_))
                · show am_W g (d + 2) mm_M_spread (179, [some (.ref (g.2.2.1 + 6)), some (.int (nI j)), some (.int (nI x0)), some (.int (nI N)), some (.int (sv_if (sv_iv T (nI j) ∧ 0 ≤ nI x0 ∧ nI x0 ≤ nI (T.va (nI j)).ax) 1 0)), some (.int (sv_if (T.nv < 80 ∧ (T.vw j).ax < 4 ∧ sv_pr (sv_ins (T.vw j).ex x0 N) ((T.vw j).ax + 1) ≤ 3000) 1 0)), some (.int z)], [.int 0]) S4 _
                  refine am_ifne (tgt := 184) d_M_spread_179 (by decide) (fun hz => ?_) (fun hz => ?_)
                  · exact absurd rfl hz
                  · exact absurd hC (sv_b0 b1)
                · show am_W g (d + 2) mm_M_spread (179, [some (.ref (g.2.2.1 + 6)), some (.int (nI j)), some (.int (nI x0)), some (.int (nI N)), some (.int (sv_if (sv_iv T (nI j) ∧ 0 ≤ nI x0 ∧ nI x0 ≤ nI (T.va (nI j)).ax) 1 0)), some (.int (sv_if (T.nv < 80 ∧ (T.vw j).ax < 4 ∧ sv_pr (sv_ins (T.vw j).ex x0 N) ((T.vw j).ax + 1) ≤ 3000) 1 0)), some (.int z)], [.int 0]) S4 _
                  refine am_ifne (tgt := 184) d_M_spread_179 (by decide) (fun hz => ?_) (fun hz => ?_)
                  · exact absurd rfl hz
                  · exact absurd hX.2 (sv_b0 b2)
                · show am_W g (d + 2) mm_M_spread (179, [some (.ref (g.2.2.1 + 6)), some (.int (nI j)), some (.int (nI x0)), some (.int (nI N)), some (.int (sv_if (sv_iv T (nI j) ∧ 0 ≤ nI x0 ∧ nI x0 ≤ nI (T.va (nI j)).ax) 1 0)), some (.int (sv_if (T.nv < 80 ∧ (T.vw j).ax < 4 ∧ sv_pr (sv_ins (T.vw j).ex x0 N) ((T.vw j).ax + 1) ≤ 3000) 1 0)), some (.int z)], [.int 0]) S4 _
                  refine am_ifne (tgt := 184) d_M_spread_179 (by decide) (fun hz => ?_) (fun hz => ?_)
                  · exact absurd rfl hz
                  · refine am_iconst 0 d_M_spread_182 (by decide) ?_
                    rw [sv_spread_6 (sv_b0 b3)]
                    exact am_iret d_M_spread_183 rfl (sv_E.no hN1 (hf3.tr hf1) (by decide))
                · skip
                  show am_W g (d + 2) mm_M_spread (179, [some (.ref (g.2.2.1 + 6)), some (.int (nI j)), some (.int (nI x0)), some (.int (nI N)), some (.int (sv_if (sv_iv T (nI j) ∧ 0 ≤ nI x0 ∧ nI x0 ≤ nI (T.va (nI j)).ax) 1 0)), some (.int (sv_if (T.nv < 80 ∧ (T.vw j).ax < 4 ∧ sv_pr (sv_ins (T.vw j).ex x0 N) ((T.vw j).ax + 1) ≤ 3000) 1 0)), some (.int z)], [.int 1]) S4 _
                  refine am_ifne (tgt := 184) d_M_spread_179 (by decide) (fun hz => ?_) (fun hz => ?_)
                  · skip
                    have hR := sv_b1 b3
                    rw [if_pos hR.2.1]
                    obtain ⟨fld, fzd, fNd, fSd, fad, fxd, fed, fsd, ⟨m0d, m1d, m2d, m3d, m4d, m5d, m6d, m7d, m8d, m9d, m10d, m11d, m12d⟩, ⟨t1d, t2d, t3d⟩, hwd⟩ := id hN1
                    obtain ⟨u1, u2, u3, u4⟩ := t3d j hj
                    refine am_aloadn d_M_spread_184 rfl ?_
                    refine am_aloadn d_M_spread_185 rfl ?_
                    refine am_get d_M_spread_186 fl_M_20 m0d rfl ?_
                    refine am_iloadn d_M_spread_189 rfl ?_
                    refine am_ialdN (t := 0) (k := j) d_M_spread_190 rfl m4d (by omega) (by omega) ?_
                    refine am_ti (b := nI (T.vw j).st) u1 ?_
                    refine am_aloadn d_M_spread_191 rfl ?_
                    refine am_get d_M_spread_192 fl_M_23 m0d rfl ?_
                    refine am_iloadn d_M_spread_195 rfl ?_
                    refine am_ialdN (t := 0) (k := j) d_M_spread_196 rfl m5d (by omega) (by omega) ?_
                    refine am_ti (b := (T.vw j).sa) u2 ?_
                    refine am_i2l d_M_spread_197 ?_
                    refine am_cpsV [.int (nI (T.vw j).st), .long (((T.vw j).sa).toInt64)] [] d_M_spread_198 cV_M_101 rfl m0d rfl rfl (Nat.le_of_ble_eq_true rfl) (Nat.le_of_ble_eq_true rfl) (m_add hN1 (a := ((T.vw j).st, (T.vw j).sa, (T.vw j).ax + 1, sv_ins (T.vw j).ex x0 N, sv_ins (T.vw j).sp x0 0)) rfl (show (T.vw j).ax + 1 ≤ 4 by omega) (fun t ht => (hI3 t ht).1) (fun t ht => by rw [(hI3 t ht).2]; exact sv_li2 _) hOn hR.2.2 w1 (sv_in_spread w7 hx0) hR.1 (sv_li2 _) (fun S9 hN9 hf9 => ?_))
                    show am_W g (d + 2) mm_M_spread (201, [some (.ref (g.2.2.1 + 6)), some (.int (nI j)), some (.int (nI x0)), some (.int (nI N)), some (.int (sv_if (sv_iv T (nI j) ∧ 0 ≤ nI x0 ∧ nI x0 ≤ nI (T.va (nI j)).ax) 1 0)), some (.int (sv_if (T.nv < 80 ∧ (T.vw j).ax < 4 ∧ sv_pr (sv_ins (T.vw j).ex x0 N) ((T.vw j).ax + 1) ≤ 3000) 1 0)), some (.int z)], [.int (nI T.nv)]) S9 _
                    rw [sv_kp, if_pos ⟨hR.1, hR.2.2⟩]
                    exact am_iret d_M_spread_201 rfl (sv_E.ok hN9 ((hf3.tr hf1).tr hf9))
                  · exact absurd hz (by decide)
              · refine am_iloadn d_M_spread_165 rfl ?_
                refine am_iflt (tgt := 173) d_M_spread_166 (by decide) (fun hb_21 => ?_) (fun hb_21 => ?_)
                · refine am_iconst 0 d_M_spread_173 (by decide) ?_
                  rw [sv_if_n (c := 0 ≤ nI N) (fun q => Int32.not_lt.mpr q hb_21)] at key
                  exact key
                · refine am_iconst 1 d_M_spread_169 (by decide) ?_
                  refine am_goto (tgt := 174) d_M_spread_170 (by decide) ?_
                  rw [sv_if_y (c := 0 ≤ nI N) (Int32.not_lt.mp hb_21)] at key
                  exact key
            · refine am_iload d_M_spread_131 rfl ?_
              refine am_ifeq (tgt := 159) d_M_spread_133 (by decide) (fun hb_18 => ?_) (fun hb_18 => ?_)
              · refine am_iconst 0 d_M_spread_159 (by decide) ?_
                rw [sv_if_n (c := T.nv < 80 ∧ (T.vw j).ax < 4 ∧ sv_pr (sv_ins (T.vw j).ex x0 N) ((T.vw j).ax + 1) ≤ 3000) (fun q => sv_b0 hb_18 q.1)] at key
                exact key
              · refine am_aloadn d_M_spread_136 rfl ?_
                refine am_get d_M_spread_137 fl_M_59 m0c rfl ?_
                refine am_iconst 5 d_M_spread_140 (by decide) ?_
                refine am_icge (tgt := 159) d_M_spread_141 (by decide) (fun hb_19 => ?_) (fun hb_19 => ?_)
                · refine am_iconst 0 d_M_spread_159 (by decide) ?_
                  rw [sv_if_n (c := T.nv < 80 ∧ (T.vw j).ax < 4 ∧ sv_pr (sv_ins (T.vw j).ex x0 N) ((T.vw j).ax + 1) ≤ 3000) (fun q => nI_ge (a := (T.vw j).ax + 1) (b := 5) (by have := q.2.1; omega) (by decide) hb_19)] at key
                  exact key
                · refine am_aloadn d_M_spread_144 rfl ?_
                  refine am_cpsV [] [] d_M_spread_145 cV_M_78 rfl m0c rfl rfl (Nat.le_of_ble_eq_true rfl) (Nat.le_of_ble_eq_true rfl) (m_product hN3 (sv_ins (T.vw j).ex x0 N) (fun t ht => (hI3 t ht).1) hOn (by omega) ?_)
                  show am_W g (d + 2) mm_M_spread (148, [some (.ref (g.2.2.1 + 6)), some (.int (nI j)), some (.int (nI x0)), some (.int (nI N)), some (.int (sv_if (sv_iv T (nI j) ∧ 0 ≤ nI x0 ∧ nI x0 ≤ nI (T.va (nI j)).ax) 1 0)), some (.int (sv_if (T.nv < 80) 1 0)), some (.int z)], [.long (lN (min (sv_pr (sv_ins (T.vw j).ex x0 N) ((T.vw j).ax + 1)) 3001))]) S2 _
                  refine am_ldc2 3000 d_M_spread_148 (am_in 607 (by decide +kernel) rfl) ?_
                  refine am_lcmp d_M_spread_151 ?_
                  refine am_ifgt (tgt := 159) d_M_spread_152 (by decide) (fun hb_20 => ?_) (fun hb_20 => ?_)
                  · refine am_iconst 0 d_M_spread_159 (by decide) ?_
                    rw [sv_if_n (c := T.nv < 80 ∧ (T.vw j).ax < 4 ∧ sv_pr (sv_ins (T.vw j).ex x0 N) ((T.vw j).ax + 1) ≤ 3000) (fun q => sv_3001 q.2.2 (sv_lcgt.mp hb_20))] at key
                    exact key
                  · refine am_iconst 1 d_M_spread_155 (by decide) ?_
                    refine am_goto (tgt := 160) d_M_spread_156 (by decide) ?_
                    rw [sv_if_y (c := T.nv < 80 ∧ (T.vw j).ax < 4 ∧ sv_pr (sv_ins (T.vw j).ex x0 N) ((T.vw j).ax + 1) ≤ 3000) ⟨sv_b1 hb_18, (show (T.vw j).ax < 4 by have := Nat.lt_of_not_le (fun z => hb_19 (nI_le (a := 5) (b := (T.vw j).ax + 1) z (by omega))); omega), (sv_3000 (fun z => hb_20 (sv_lcgt.mpr z)))⟩] at key
                    exact key
      · refine am_cut (F := (162, [some (.ref (g.2.2.1 + 6)), some (.int v), some (.int x), some (.int n), some (.int (sv_if (sv_iv T v ∧ 0 ≤ x ∧ x ≤ nI (T.va v).ax) 1 0)), some (.int (sv_if (T.nv < 80) 1 0)), none], [])) ?_ (fun key => ?_)
        · skip
          refine am_aloadn d_M_spread_162 rfl ?_
          refine am_iload d_M_spread_163 rfl ?_
          refine am_cut (F := (174, [some (.ref (g.2.2.1 + 6)), some (.int v), some (.int x), some (.int n), some (.int (sv_if (sv_iv T v ∧ 0 ≤ x ∧ x ≤ nI (T.va v).ax) 1 0)), some (.int (sv_if (T.nv < 80) 1 0)), none], [.int (sv_if (0 ≤ n) 1 0), .int (sv_if (sv_iv T v ∧ 0 ≤ x ∧ x ≤ nI (T.va v).ax) 1 0), .ref (g.2.2.1 + 6)])) ?_ (fun key => ?_)
          · skip
            refine am_iload d_M_spread_174 rfl ?_
            refine am_cpsV [.int (sv_if (sv_iv T v ∧ 0 ≤ x ∧ x ≤ nI (T.va v).ax) 1 0), .int (sv_if (0 ≤ n) 1 0), .int (sv_if (T.nv < 80) 1 0)] [] d_M_spread_176 cV_M_109 rfl m0 rfl rfl (Nat.le_of_ble_eq_true rfl) (Nat.le_of_ble_eq_true rfl) (m_goes hM (fun b1 S1 hN1 hf1 => ?_) (fun b1 b2 S1 hN1 hf1 => ?_) (fun b1 b2 b3 S1 hN1 hf1 => ?_) (fun b1 b2 b3 S1 hN1 hf1 => ?_))
            · show am_W g (d + 2) mm_M_spread (179, [some (.ref (g.2.2.1 + 6)), some (.int v), some (.int x), some (.int n), some (.int (sv_if (sv_iv T v ∧ 0 ≤ x ∧ x ≤ nI (T.va v).ax) 1 0)), some (.int (sv_if (T.nv < 80) 1 0)), none], [.int 0]) S1 _
              refine am_ifne (tgt := 184) d_M_spread_179 (by decide) (fun hz => ?_) (fun hz => ?_)
              · exact absurd rfl hz
              · refine am_iconst 0 d_M_spread_182 (by decide) ?_
                rw [q_spread_4 (sv_b0 b1)]
                exact am_iret d_M_spread_183 rfl (sv_E.no hN1 hf1 (by decide))
            · show am_W g (d + 2) mm_M_spread (179, [some (.ref (g.2.2.1 + 6)), some (.int v), some (.int x), some (.int n), some (.int (sv_if (sv_iv T v ∧ 0 ≤ x ∧ x ≤ nI (T.va v).ax) 1 0)), some (.int (sv_if (T.nv < 80) 1 0)), none], [.int 0]) S1 _
              refine am_ifne (tgt := 184) d_M_spread_179 (by decide) (fun hz => ?_) (fun hz => ?_)
              · exact absurd rfl hz
              · refine am_iconst 0 d_M_spread_182 (by decide) ?_
                rw [q_spread_5 (sv_b1 b1) (sv_b0 b2)]
                exact am_iret d_M_spread_183 rfl (sv_E.no hN1 hf1 (by decide))
            · show am_W g (d + 2) mm_M_spread (179, [some (.ref (g.2.2.1 + 6)), some (.int v), some (.int x), some (.int n), some (.int (sv_if (sv_iv T v ∧ 0 ≤ x ∧ x ≤ nI (T.va v).ax) 1 0)), some (.int (sv_if (T.nv < 80) 1 0)), none], [.int 0]) S1 _
              refine am_ifne (tgt := 184) d_M_spread_179 (by decide) (fun hz => ?_) (fun hz => ?_)
              · exact absurd rfl hz
              · exact absurd ⟨sv_b1 b1, sv_b1 b2⟩ hX
            · skip
              show am_W g (d + 2) mm_M_spread (179, [some (.ref (g.2.2.1 + 6)), some (.int v), some (.int x), some (.int n), some (.int (sv_if (sv_iv T v ∧ 0 ≤ x ∧ x ≤ nI (T.va v).ax) 1 0)), some (.int (sv_if (T.nv < 80) 1 0)), none], [.int 1]) S1 _
              refine am_ifne (tgt := 184) d_M_spread_179 (by decide) (fun hz => ?_) (fun hz => ?_)
              · skip
                exact absurd ⟨sv_b1 b1, sv_b1 b2⟩ hX
              · exact absurd hz (by decide)
          · refine am_iloadn d_M_spread_165 rfl ?_
            refine am_iflt (tgt := 173) d_M_spread_166 (by decide) (fun hb_2 => ?_) (fun hb_2 => ?_)
            · refine am_iconst 0 d_M_spread_173 (by decide) ?_
              rw [sv_if_n (c := 0 ≤ n) (fun q => Int32.not_lt.mpr q hb_2)] at key
              exact key
            · refine am_iconst 1 d_M_spread_169 (by decide) ?_
              refine am_goto (tgt := 174) d_M_spread_170 (by decide) ?_
              rw [sv_if_y (c := 0 ≤ n) (Int32.not_lt.mp hb_2)] at key
              exact key
        · refine am_iload d_M_spread_45 rfl ?_
          refine am_ifeq (tgt := 162) d_M_spread_47 (by decide) (fun hz => ?_) (fun hz => ?_)
          · exact key
          · refine am_iloadn d_M_spread_50 rfl ?_
            refine am_iflt (tgt := 162) d_M_spread_51 (by decide) (fun hy => ?_) (fun hy => ?_)
            · exact key
            · exact absurd ⟨sv_b1 hz, Int32.not_lt.mp hy⟩ hX
    · refine am_aloadn d_M_spread_29 rfl ?_
      refine am_get d_M_spread_30 fl_M_52 m0 rfl ?_
      refine am_bipush 80 d_M_spread_33 (by decide) ?_
      refine am_icge (tgt := 42) d_M_spread_35 (by decide) (fun hb_1 => ?_) (fun hb_1 => ?_)
      · refine am_iconst 0 d_M_spread_42 (by decide) ?_
        rw [sv_if_n (c := T.nv < 80) (fun q => nI_ge (b := 80) q (by decide) hb_1)] at key
        exact key
      · refine am_iconst 1 d_M_spread_38 (by decide) ?_
        refine am_goto (tgt := 43) d_M_spread_39 (by decide) ?_
        rw [sv_if_y (c := T.nv < 80) (Nat.lt_of_not_le (fun z => hb_1 (nI_le (a := 80) z (by omega))))] at key
        exact key
  · refine am_aloadn d_M_spread_0 rfl ?_
    refine am_iloadn d_M_spread_1 rfl ?_
    refine am_cpsV [.int v] [] d_M_spread_2 cV_M_55 rfl m0 rfl rfl (Nat.le_of_ble_eq_true rfl) (Nat.le_of_ble_eq_true rfl) (m_isView hM ?_)
    show am_W g (d + 2) mm_M_spread (5, [some (.ref (g.2.2.1 + 6)), some (.int v), some (.int x), some (.int n), none, none, none], [.int (sv_if (sv_iv T v) 1 0)]) S _
    refine am_ifeq (tgt := 26) d_M_spread_5 (by decide) (fun hc => ?_) (fun hc => ?_)
    · refine am_iconst 0 d_M_spread_26 (by decide) ?_
      rw [sv_if_n (fun q => sv_b0 hc q.1)] at key
      exact key
    · refine am_iloadn d_M_spread_8 rfl ?_
      refine am_iflt (tgt := 26) d_M_spread_9 (by decide) (fun hd => ?_) (fun hd => ?_)
      · refine am_iconst 0 d_M_spread_26 (by decide) ?_
        rw [sv_if_n (fun q => Int32.not_lt.mpr q.2.1 hd)] at key
        exact key
      · have hiv := sv_b1 hc
        obtain ⟨j, hj, rfl⟩ := sv_iv_of hiv h80
        rw [sv_va_j hj h80] at key
        obtain ⟨v1, v2, v3, v4⟩ := t3 j hj
        refine am_iloadn d_M_spread_12 rfl ?_
        refine am_aloadn d_M_spread_13 rfl ?_
        refine am_get d_M_spread_14 fl_M_26 m0 rfl ?_
        refine am_iloadn d_M_spread_17 rfl ?_
        refine am_ialdN (t := 0) (k := j) d_M_spread_18 rfl m6 (by omega) (by omega) ?_
        refine am_ti (b := nI (T.vw j).ax) v3 ?_
        refine am_icgt (tgt := 26) d_M_spread_19 (by decide) (fun he => ?_) (fun he => ?_)
        · refine am_iconst 0 d_M_spread_26 (by decide) ?_
          rw [sv_if_n (fun q => Int32.not_lt.mpr q.2.2 he)] at key
          exact key
        · refine am_iconst 1 d_M_spread_22 (by decide) ?_
          refine am_goto (tgt := 27) d_M_spread_23 (by decide) ?_
          rw [sv_if_y (⟨hiv, Int32.not_lt.mp hd, Int32.not_lt.mp he⟩)] at key
          exact key
