/-! the reference: items, places, numbers -/
theorem sv_N.w {g : am_G} {M : am_M} {T : sv_T} {th : Int32} {na : Nat} {ne nw rd : Nat → Int64} {mt : Nat → Int32} (h : sv_N g M T th na ne nw rd mt) : sv_wf T := by
  obtain ⟨_, _, _, _, _, _, _, _, _, _, hw⟩ := h
  exact hw
theorem sv_pr_0 {E : Nat → Nat} : ∀ {n k : Nat}, k < n → E k = 0 → sv_pr E n = 0 := by
  intro n
  induction n with
  | zero => intro k h; omega
  | succ n ih =>
    intro k h e
    show sv_pr E n * E n = 0
    by_cases q : k = n
    · rw [← q, e, Nat.mul_zero]
    · rw [ih (by omega) e, Nat.zero_mul]
set_option maxHeartbeats 4000000 in
set_option maxRecDepth 100000 in
/-- items, is there none -/
theorem m_items_1 {g : am_G} {d : Nat} {S : am_S} {T : sv_T} {th : Int32} {na : Nat} {ne nw rd : Nat → Int64} {mt : Nat → Int32} (hM : sv_N g S.1 T th na ne nw rd mt) {j : Nat} (hj : j < T.nv) {P : am_O → am_S → Prop} (h0 : (T.vw j).it = 0 → P (.inl (some (.int 0))) S) (hK : (∀ t, t < (T.vw j).ax → 0 < (T.vw j).ex t) → ∀ z3 : Int32, am_W g d mm_M_items (35, [some (.ref (g.2.2.1 + 6)), some (.int (nI j)), some (.int 1), some (.int z3)], []) S P) : ∀ (m k : Nat), k + m = (T.vw j).ax → (∀ t, t < k → 0 < (T.vw j).ex t) → am_W g d mm_M_items (4, [some (.ref (g.2.2.1 + 6)), some (.int (nI j)), some (.int 1), some (.int (nI k))], []) S P := by
  obtain ⟨fl, fz, fN, fS, fa, fx, fe, fs, ⟨m0, m1, m2, m3, m4, m5, m6, m7, m8, m9, m10, m11, m12⟩, ⟨t1, t2, t3⟩, hw⟩ := id hM
  have h80 := hw.2.1
  have h12 := hw.1
  obtain ⟨v1, v2, v3, v4⟩ := t3 j hj
  obtain ⟨w1, w2, w3, w4, w5, w6, w7⟩ := hw.2.2.2 j hj
  intro m
  induction m using Nat.strongRecOn with
  | ind m ih =>
    intro k hk hI
    refine am_iloadn d_M_items_4 rfl ?_
    refine am_aloadn d_M_items_5 rfl ?_
    refine am_get d_M_items_6 fl_M_26 m0 rfl ?_
    refine am_iloadn d_M_items_9 rfl ?_
    refine am_ialdN (t := 0) (k := j) d_M_items_10 rfl m6 (by omega) (by omega) ?_
    refine am_ti (b := nI (T.vw j).ax) v3 ?_
    refine am_icge (tgt := 35) d_M_items_11 (by decide) (fun hc => ?_) (fun hc => ?_)
    · have hk0 : (T.vw j).ax ≤ k := (nI_leI (by omega) (by omega)).mp hc
      exact hK (fun t ht => hI t (by omega)) (nI k)
    · have hlt : k < (T.vw j).ax := Nat.lt_of_not_le (fun q => hc (nI_le q (by omega)))
      have hO9 := w3 k hlt
      refine am_aloadn d_M_items_14 rfl ?_
      refine am_get d_M_items_15 fl_M_29 m0 rfl ?_
      refine am_iconst 4 d_M_items_18 (by decide) ?_
      refine am_iloadn d_M_items_19 rfl ?_
      refine am_imul d_M_items_20 ?_
      refine am_iloadn d_M_items_21 rfl ?_
      refine am_iadd d_M_items_22 ?_
      refine am_ti (b := nI (4 * j + k)) (sv_4 j k) ?_
      refine am_ialdN (t := 0) (k := 4 * j + k) d_M_items_23 rfl m7 (by omega) (by omega) ?_
      refine am_ti (b := nI ((T.vw j).ex k)) ((v4 k hlt).1) ?_
      refine am_ifne (tgt := 29) d_M_items_24 (by decide) (fun hz => ?_) (fun hz => ?_)
      · have hp : 0 < (T.vw j).ex k := Nat.pos_of_ne_zero (fun h => hz (by rw [h]; exact nI_0))
        refine am_iinc (v := nI (k + 1)) (L' := [some (.ref (g.2.2.1 + 6)), some (.int (nI j)), some (.int 1), some (.int (nI (k + 1)))]) d_M_items_29 rfl (nI_1 k) (by decide) rfl rfl ?_
        refine am_goto (tgt := 4) d_M_items_32 (by decide) ?_
        exact ih (m - 1) (by omega) (k + 1) (by omega) (fun t ht => (Nat.lt_or_ge t k).elim (hI t) (fun z => (show t = k by omega) ▸ hp))
      · have hp : (T.vw j).ex k = 0 := (nI_eq hO9 (by decide)).mp (hz.trans nI_0.symm)
        refine am_iconst 0 d_M_items_27 (by decide) ?_
        exact am_iret d_M_items_28 rfl (h0 (sv_pr_0 hlt hp))
set_option maxHeartbeats 4000000 in
set_option maxRecDepth 100000 in
/-- items, how many -/
theorem m_items_2 {g : am_G} {d : Nat} {S : am_S} {T : sv_T} {th : Int32} {na : Nat} {ne nw rd : Nat → Int64} {mt : Nat → Int32} (hM : sv_N g S.1 T th na ne nw rd mt) {j : Nat} (hj : j < T.nv) {P : am_O → am_S → Prop} (hP : P (.inl (some (.int (nI (T.vw j).it)))) S) : ∀ (m k : Nat), k + m = (T.vw j).ax → am_W g d mm_M_items (37, [some (.ref (g.2.2.1 + 6)), some (.int (nI j)), some (.int (nI (sv_pr (T.vw j).ex k))), some (.int (nI k))], []) S P := by
  obtain ⟨fl, fz, fN, fS, fa, fx, fe, fs, ⟨m0, m1, m2, m3, m4, m5, m6, m7, m8, m9, m10, m11, m12⟩, ⟨t1, t2, t3⟩, hw⟩ := id hM
  have h80 := hw.2.1
  have h12 := hw.1
  obtain ⟨v1, v2, v3, v4⟩ := t3 j hj
  obtain ⟨w1, w2, w3, w4, w5, w6, w7⟩ := hw.2.2.2 j hj
  intro m
  induction m using Nat.strongRecOn with
  | ind m ih =>
    intro k hk
    refine am_iloadn d_M_items_37 rfl ?_
    refine am_aloadn d_M_items_38 rfl ?_
    refine am_get d_M_items_39 fl_M_26 m0 rfl ?_
    refine am_iloadn d_M_items_42 rfl ?_
    refine am_ialdN (t := 0) (k := j) d_M_items_43 rfl m6 (by omega) (by omega) ?_
    refine am_ti (b := nI (T.vw j).ax) v3 ?_
    refine am_icge (tgt := 66) d_M_items_44 (by decide) (fun hc => ?_) (fun hc => ?_)
    · have hk0 : (T.vw j).ax ≤ k := (nI_leI (by omega) (by omega)).mp hc
      obtain rfl : k = (T.vw j).ax := by omega
      refine am_iloadn d_M_items_66 rfl ?_
      exact am_iret d_M_items_67 rfl hP
    · have hlt : k < (T.vw j).ax := Nat.lt_of_not_le (fun q => hc (nI_le q (by omega)))
      refine am_iloadn d_M_items_47 rfl ?_
      refine am_aloadn d_M_items_48 rfl ?_
      refine am_get d_M_items_49 fl_M_29 m0 rfl ?_
      refine am_iconst 4 d_M_items_52 (by decide) ?_
      refine am_iloadn d_M_items_53 rfl ?_
      refine am_imul d_M_items_54 ?_
      refine am_iloadn d_M_items_55 rfl ?_
      refine am_iadd d_M_items_56 ?_
      refine am_ti (b := nI (4 * j + k)) (sv_4 j k) ?_
      refine am_ialdN (t := 0) (k := 4 * j + k) d_M_items_57 rfl m7 (by omega) (by omega) ?_
      refine am_ti (b := nI ((T.vw j).ex k)) ((v4 k hlt).1) ?_
      refine am_imul d_M_items_58 ?_
      refine am_ti (b := nI (sv_pr (T.vw j).ex (k + 1))) (pk_mul _ _) ?_
      refine am_istoren (L' := [some (.ref (g.2.2.1 + 6)), some (.int (nI j)), some (.int (nI (sv_pr (T.vw j).ex (k + 1)))), some (.int (nI k))]) d_M_items_59 (by decide) rfl rfl ?_
      refine am_iinc (v := nI (k + 1)) (L' := [some (.ref (g.2.2.1 + 6)), some (.int (nI j)), some (.int (nI (sv_pr (T.vw j).ex (k + 1)))), some (.int (nI (k + 1)))]) d_M_items_60 rfl (nI_1 k) (by decide) rfl rfl ?_
      refine am_goto (tgt := 37) d_M_items_63 (by decide) ?_
      exact ih (m - 1) (by omega) (k + 1) (by omega)
set_option maxHeartbeats 4000000 in
set_option maxRecDepth 100000 in
/-- M_items -/
theorem m_items {g : am_G} {d : Nat} {S : am_S} {T : sv_T} {th : Int32} {na : Nat} {ne nw rd : Nat → Int64} {mt : Nat → Int32} (hM : sv_N g S.1 T th na ne nw rd mt) {j : Nat} (hj : j < T.nv) {P : am_O → am_S → Prop} (hP : P (.inl (some (.int (nI (T.vw j).it)))) S) : am_W g d mm_M_items (0, am_ent [.ref (g.2.2.1 + 6), .int (nI j)] 4, []) S (P) := by
  obtain ⟨fl, fz, fN, fS, fa, fx, fe, fs, ⟨m0, m1, m2, m3, m4, m5, m6, m7, m8, m9, m10, m11, m12⟩, ⟨t1, t2, t3⟩, hw⟩ := id hM
  have h80 := hw.2.1
  have h12 := hw.1
  obtain ⟨v1, v2, v3, v4⟩ := t3 j hj
  obtain ⟨w1, w2, w3, w4, w5, w6, w7⟩ := hw.2.2.2 j hj
  show am_W g d mm_M_items (0, [some (.ref (g.2.2.1 + 6)), some (.int (nI j)), none, none], []) S _
  refine am_iconst 1 d_M_items_0 (by decide) ?_
  refine am_istoren (L' := [some (.ref (g.2.2.1 + 6)), some (.int (nI j)), some (.int 1), none]) d_M_items_1 (by decide) rfl rfl ?_
  refine am_iconst 0 d_M_items_2 (by decide) ?_
  refine am_istoren (L' := [some (.ref (g.2.2.1 + 6)), some (.int (nI j)), some (.int 1), some (.int 0)]) d_M_items_3 (by decide) rfl rfl ?_
  have e0 : (0 : Int32) = nI 0 := rfl
  refine m_items_1 hM hj (fun h => ?_) (fun hZ z3 => ?_) (T.vw j).ax 0 (Nat.zero_add _) (fun t ht => absurd ht (Nat.not_lt_zero t))
  · rw [h] at hP
    exact hP
  · refine am_iconst 0 d_M_items_35 (by decide) ?_
    refine am_istoren (L' := [some (.ref (g.2.2.1 + 6)), some (.int (nI j)), some (.int 1), some (.int 0)]) d_M_items_36 (by decide) rfl rfl ?_
    exact m_items_2 hM hj hP (T.vw j).ax 0 (Nat.zero_add _)
set_option maxHeartbeats 4000000 in
set_option maxRecDepth 100000 in
/-- M_items -/
theorem m_itemsV {g : am_G} {d : Nat} {S : am_S} {T : sv_T} {th : Int32} {na : Nat} {ne nw rd : Nat → Int64} {mt : Nat → Int32} (hM : sv_N g S.1 T th na ne nw rd mt) {v : Int32} (hv : sv_iv T v) {P : am_O → am_S → Prop} (hP : P (.inl (some (.int (nI (T.va v).it)))) S) : am_W g d mm_M_items (0, am_ent [.ref (g.2.2.1 + 6), .int v] 4, []) S (P) := by
  have h80 := sv_N.w hM
  obtain ⟨j, hj, rfl⟩ := sv_iv_of hv h80.2.1
  rw [sv_va_j hj h80.2.1] at hP
  exact m_items hM hj hP
set_option maxHeartbeats 4000000 in
set_option maxRecDepth 100000 in
/-- indexOf, the loop -/
theorem m_indexOf_l {g : am_G} {d : Nat} {S : am_S} {T : sv_T} {th : Int32} {na : Nat} {ne nw rd : Nat → Int64} {mt : Nat → Int32} (hM : sv_N g S.1 T th na ne nw rd mt) {j : Nat} (hj : j < T.nv) (hZ : ∀ t, t < (T.vw j).ax → 0 < (T.vw j).ex t) {k X : Nat} (hk : k < (T.vw j).ax) {z3 : Int32} {P : am_O → am_S → Prop} (hP : P (.inl (some (.int (nI X)))) S) : ∀ (m : Nat), k + 1 ≤ m → m ≤ (T.vw j).ax → ∀ r : Nat, sv_ix (T.vw j).ex m k r = X → r < 2 ^ 31 → am_W g d mm_M_indexOf (13, [some (.ref (g.2.2.1 + 6)), some (.int (nI j)), some (.int (nI k)), some (.int z3), some (.int (nI r)), some (.int (sv_dn m))], []) S P := by
  obtain ⟨fl, fz, fN, fS, fa, fx, fe, fs, ⟨m0, m1, m2, m3, m4, m5, m6, m7, m8, m9, m10, m11, m12⟩, ⟨t1, t2, t3⟩, hw⟩ := id hM
  have h80 := hw.2.1
  have h12 := hw.1
  obtain ⟨v1, v2, v3, v4⟩ := t3 j hj
  obtain ⟨w1, w2, w3, w4, w5, w6, w7⟩ := hw.2.2.2 j hj
  intro m
  induction m using Nat.strongRecOn with
  | ind m ih =>
    intro hkm0 hm r hX hr
    refine am_iload d_M_indexOf_13 rfl ?_
    refine am_iloadn d_M_indexOf_15 rfl ?_
    refine am_icle (tgt := 41) d_M_indexOf_16 (by decide) (fun hc => ?_) (fun hc => ?_)
    · have hmk : m = k + 1 := by
        rcases Nat.lt_or_ge (k + 1) m with h | h
        · obtain ⟨q, rfl⟩ : ∃ q, m = q + 1 := ⟨m - 1, by omega⟩
          rw [sv_dn_s] at hc
          have := (nI_leI (by omega) (by omega)).mp hc
          omega
        · omega
      subst hmk
      have hlt : k < (T.vw j).ax := by omega
      have hO9 := w3 k hlt
      have hZ9 := hZ k hlt
      refine am_iload d_M_indexOf_41 rfl ?_
      refine am_aloadn d_M_indexOf_43 rfl ?_
      refine am_get d_M_indexOf_44 fl_M_29 m0 rfl ?_
      refine am_iconst 4 d_M_indexOf_47 (by decide) ?_
      refine am_iloadn d_M_indexOf_48 rfl ?_
      refine am_imul d_M_indexOf_49 ?_
      refine am_iloadn d_M_indexOf_50 rfl ?_
      refine am_iadd d_M_indexOf_51 ?_
      refine am_ti (b := nI (4 * j + k)) (sv_4 j k) ?_
      refine am_ialdN (t := 0) (k := 4 * j + k) d_M_indexOf_52 rfl m7 (by omega) (by omega) ?_
      refine am_ti (b := nI ((T.vw j).ex k)) ((v4 k hlt).1) ?_
      refine am_irem d_M_indexOf_53 (nI_ne0 hZ9 hO9) ?_
      refine am_ti (b := nI (r % (T.vw j).ex k)) (pk_rem hr hZ9 hO9) ?_
      have h9 : r % (T.vw j).ex k = X := by rw [← hX]; simp only [sv_ix]; rw [if_pos trivial]
      rw [h9]
      exact am_iret d_M_indexOf_54 rfl hP
    · have hkm : k + 1 < m := by
        rcases Nat.lt_or_ge (k + 1) m with h | h
        · exact h
        · obtain rfl : m = k + 1 := by omega
          rw [sv_dn_s] at hc
          exact absurd (Int32.le_refl _) hc
      obtain ⟨q, rfl⟩ : ∃ q, m = q + 1 := ⟨m - 1, by omega⟩
      rw [sv_dn_s q]
      have hlt : q < (T.vw j).ax := by omega
      have hO9 := w3 q hlt
      have hZ9 := hZ q hlt
      refine am_iload d_M_indexOf_19 rfl ?_
      refine am_aloadn d_M_indexOf_21 rfl ?_
      refine am_get d_M_indexOf_22 fl_M_29 m0 rfl ?_
      refine am_iconst 4 d_M_indexOf_25 (by decide) ?_
      refine am_iloadn d_M_indexOf_26 rfl ?_
      refine am_imul d_M_indexOf_27 ?_
      refine am_iload d_M_indexOf_28 rfl ?_
      refine am_iadd d_M_indexOf_30 ?_
      refine am_ti (b := nI (4 * j + q)) (sv_4 j q) ?_
      refine am_ialdN (t := 0) (k := 4 * j + q) d_M_indexOf_31 rfl m7 (by omega) (by omega) ?_
      refine am_ti (b := nI ((T.vw j).ex q)) ((v4 q hlt).1) ?_
      refine am_idiv d_M_indexOf_32 (nI_ne0 hZ9 hO9) ?_
      refine am_ti (b := nI (r / (T.vw j).ex q)) (pk_div hr hZ9 hO9) ?_
      refine am_istore (L' := [some (.ref (g.2.2.1 + 6)), some (.int (nI j)), some (.int (nI k)), some (.int z3), some (.int (nI (r / (T.vw j).ex q))), some (.int (nI q))]) d_M_indexOf_33 (by decide) rfl rfl ?_
      refine am_iinc (v := sv_dn q) (L' := [some (.ref (g.2.2.1 + 6)), some (.int (nI j)), some (.int (nI k)), some (.int z3), some (.int (nI (r / (T.vw j).ex q))), some (.int (sv_dn q))]) d_M_indexOf_35 rfl (sv_dn_d q) (by decide) rfl rfl ?_
      refine am_goto (tgt := 13) d_M_indexOf_38 (by decide) ?_
      exact ih q (by omega) (by omega) (by omega) (r / (T.vw j).ex q) (by rw [← hX]; show _ = (if k = q then _ else sv_ix (T.vw j).ex q k (r / (T.vw j).ex q)); rw [if_neg (by omega)]) (Nat.lt_of_le_of_lt (Nat.div_le_self r _) hr)
set_option maxHeartbeats 4000000 in
set_option maxRecDepth 100000 in
/-- M_indexOf -/
theorem m_indexOf {g : am_G} {d : Nat} {S : am_S} {T : sv_T} {th : Int32} {na : Nat} {ne nw rd : Nat → Int64} {mt : Nat → Int32} (hM : sv_N g S.1 T th na ne nw rd mt) {j : Nat} (hj : j < T.nv) (hZ : ∀ t, t < (T.vw j).ax → 0 < (T.vw j).ex t) {k i : Nat} (hk : k < (T.vw j).ax) (hi : i < 2 ^ 31) {P : am_O → am_S → Prop} (hP : P (.inl (some (.int (nI (sv_ix (T.vw j).ex (T.vw j).ax k i))))) S) : am_W g d mm_M_indexOf (0, am_ent [.ref (g.2.2.1 + 6), .int (nI j), .int (nI k), .int (nI i)] 6, []) S (P) := by
  obtain ⟨fl, fz, fN, fS, fa, fx, fe, fs, ⟨m0, m1, m2, m3, m4, m5, m6, m7, m8, m9, m10, m11, m12⟩, ⟨t1, t2, t3⟩, hw⟩ := id hM
  have h80 := hw.2.1
  have h12 := hw.1
  obtain ⟨v1, v2, v3, v4⟩ := t3 j hj
  obtain ⟨w1, w2, w3, w4, w5, w6, w7⟩ := hw.2.2.2 j hj
  show am_W g d mm_M_indexOf (0, [some (.ref (g.2.2.1 + 6)), some (.int (nI j)), some (.int (nI k)), some (.int (nI i)), none, none], []) S _
  refine am_iloadn d_M_indexOf_0 rfl ?_
  refine am_istore (L' := [some (.ref (g.2.2.1 + 6)), some (.int (nI j)), some (.int (nI k)), some (.int (nI i)), some (.int (nI i)), none]) d_M_indexOf_1 (by decide) rfl rfl ?_
  refine am_aloadn d_M_indexOf_3 rfl ?_
  refine am_get d_M_indexOf_4 fl_M_26 m0 rfl ?_
  refine am_iloadn d_M_indexOf_7 rfl ?_
  refine am_ialdN (t := 0) (k := j) d_M_indexOf_8 rfl m6 (by omega) (by omega) ?_
  refine am_ti (b := nI (T.vw j).ax) v3 ?_
  refine am_iconst 1 d_M_indexOf_9 (by decide) ?_
  refine am_isub d_M_indexOf_10 ?_
  refine am_ti (b := sv_dn (T.vw j).ax) rfl ?_
  refine am_istore (L' := [some (.ref (g.2.2.1 + 6)), some (.int (nI j)), some (.int (nI k)), some (.int (nI i)), some (.int (nI i)), some (.int (sv_dn (T.vw j).ax))]) d_M_indexOf_11 (by decide) rfl rfl ?_
  exact m_indexOf_l hM hj hZ hk hP (T.vw j).ax (by omega) (Nat.le_refl _) i rfl hi
set_option maxHeartbeats 4000000 in
set_option maxRecDepth 100000 in
/-- place, the loop -/
theorem m_place_l {g : am_G} {d : Nat} {S : am_S} {T : sv_T} {th : Int32} {na : Nat} {ne nw rd : Nat → Int64} {mt : Nat → Int32} (hM : sv_N g S.1 T th na ne nw rd mt) {j : Nat} (hj : j < T.nv) (hZ : ∀ t, t < (T.vw j).ax → 0 < (T.vw j).ex t) {i : Nat} (hi : i < 2 ^ 31) {P : am_O → am_S → Prop} (hP : P (.inl (some (.int ((T.vw j).sa + sv_sum (fun l => nI (sv_ix (T.vw j).ex (T.vw j).ax l i) * (T.vw j).sp l) (T.vw j).ax)))) S) : ∀ (m k : Nat), k + m = (T.vw j).ax → am_W g (d + 1) mm_M_place (10, [some (.ref (g.2.2.1 + 6)), some (.int (nI j)), some (.int (nI i)), some (.int ((T.vw j).sa + sv_sum (fun l => nI (sv_ix (T.vw j).ex (T.vw j).ax l i) * (T.vw j).sp l) k)), some (.int (nI k))], []) S P := by
  obtain ⟨fl, fz, fN, fS, fa, fx, fe, fs, ⟨m0, m1, m2, m3, m4, m5, m6, m7, m8, m9, m10, m11, m12⟩, ⟨t1, t2, t3⟩, hw⟩ := id hM
  have h80 := hw.2.1
  have h12 := hw.1
  obtain ⟨v1, v2, v3, v4⟩ := t3 j hj
  obtain ⟨w1, w2, w3, w4, w5, w6, w7⟩ := hw.2.2.2 j hj
  intro m
  induction m using Nat.strongRecOn with
  | ind m ih =>
    intro k hk
    refine am_iload d_M_place_10 rfl ?_
    refine am_aloadn d_M_place_12 rfl ?_
    refine am_get d_M_place_13 fl_M_26 m0 rfl ?_
    refine am_iloadn d_M_place_16 rfl ?_
    refine am_ialdN (t := 0) (k := j) d_M_place_17 rfl m6 (by omega) (by omega) ?_
    refine am_ti (b := nI (T.vw j).ax) v3 ?_
    refine am_icge (tgt := 50) d_M_place_18 (by decide) (fun hc => ?_) (fun hc => ?_)
    · have hk0 : (T.vw j).ax ≤ k := (nI_leI (by omega) (by omega)).mp hc
      obtain rfl : k = (T.vw j).ax := by omega
      refine am_iloadn d_M_place_50 rfl ?_
      exact am_iret d_M_place_51 rfl hP
    · have hlt : k < (T.vw j).ax := Nat.lt_of_not_le (fun q => hc (nI_le q (by omega)))
      refine am_iloadn d_M_place_21 rfl ?_
      refine am_aloadn d_M_place_22 rfl ?_
      refine am_iloadn d_M_place_23 rfl ?_
      refine am_iload d_M_place_24 rfl ?_
      refine am_iloadn d_M_place_26 rfl ?_
      refine am_cpsV [.int (nI j), .int (nI k), .int (nI i)] [.int ((T.vw j).sa + sv_sum (fun l => nI (sv_ix (T.vw j).ex (T.vw j).ax l i) * (T.vw j).sp l) k)] d_M_place_27 cV_M_66 rfl m0 rfl rfl (Nat.le_of_ble_eq_true rfl) (Nat.le_of_ble_eq_true rfl) (m_indexOf hM hj hZ (k := k) (i := i) hlt hi ?_)
      show am_W g (d + 1) mm_M_place (30, [some (.ref (g.2.2.1 + 6)), some (.int (nI j)), some (.int (nI i)), some (.int ((T.vw j).sa + sv_sum (fun l => nI (sv_ix (T.vw j).ex (T.vw j).ax l i) * (T.vw j).sp l) k)), some (.int (nI k))], [.int (nI (sv_ix (T.vw j).ex (T.vw j).ax k i)), .int ((T.vw j).sa + sv_sum (fun l => nI (sv_ix (T.vw j).ex (T.vw j).ax l i) * (T.vw j).sp l) k)]) S _
      refine am_aloadn d_M_place_30 rfl ?_
      refine am_get d_M_place_31 fl_M_32 m0 rfl ?_
      refine am_iconst 4 d_M_place_34 (by decide) ?_
      refine am_iloadn d_M_place_35 rfl ?_
      refine am_imul d_M_place_36 ?_
      refine am_iload d_M_place_37 rfl ?_
      refine am_iadd d_M_place_39 ?_
      refine am_ti (b := nI (4 * j + k)) (sv_4 j k) ?_
      refine am_ialdN (t := 0) (k := 4 * j + k) d_M_place_40 rfl m8 (by omega) (by omega) ?_
      refine am_ti (b := (T.vw j).sp k) ((v4 k hlt).2) ?_
      refine am_imul d_M_place_41 ?_
      refine am_iadd d_M_place_42 ?_
      refine am_ti (b := (T.vw j).sa + sv_sum (fun l => nI (sv_ix (T.vw j).ex (T.vw j).ax l i) * (T.vw j).sp l) (k + 1)) (Int32.add_assoc _ _ _) ?_
      refine am_istoren (L' := [some (.ref (g.2.2.1 + 6)), some (.int (nI j)), some (.int (nI i)), some (.int ((T.vw j).sa + sv_sum (fun l => nI (sv_ix (T.vw j).ex (T.vw j).ax l i) * (T.vw j).sp l) (k + 1))), some (.int (nI k))]) d_M_place_43 (by decide) rfl rfl ?_
      refine am_iinc (v := nI (k + 1)) (L' := [some (.ref (g.2.2.1 + 6)), some (.int (nI j)), some (.int (nI i)), some (.int ((T.vw j).sa + sv_sum (fun l => nI (sv_ix (T.vw j).ex (T.vw j).ax l i) * (T.vw j).sp l) (k + 1))), some (.int (nI (k + 1)))]) d_M_place_44 rfl (nI_1 k) (by decide) rfl rfl ?_
      refine am_goto (tgt := 10) d_M_place_47 (by decide) ?_
      exact ih (m - 1) (by omega) (k + 1) (by omega)
set_option maxHeartbeats 4000000 in
set_option maxRecDepth 100000 in
/-- M_place -/
theorem m_place {g : am_G} {d : Nat} {S : am_S} {T : sv_T} {th : Int32} {na : Nat} {ne nw rd : Nat → Int64} {mt : Nat → Int32} (hM : sv_N g S.1 T th na ne nw rd mt) {j : Nat} (hj : j < T.nv) {i : Nat} (hi : i < (T.vw j).it) {P : am_O → am_S → Prop} (hP : P (.inl (some (.int ((T.vw j).pl i)))) S) : am_W g (d + 1) mm_M_place (0, am_ent [.ref (g.2.2.1 + 6), .int (nI j), .int (nI i)] 5, []) S (P) := by
  obtain ⟨fl, fz, fN, fS, fa, fx, fe, fs, ⟨m0, m1, m2, m3, m4, m5, m6, m7, m8, m9, m10, m11, m12⟩, ⟨t1, t2, t3⟩, hw⟩ := id hM
  have h80 := hw.2.1
  have h12 := hw.1
  obtain ⟨v1, v2, v3, v4⟩ := t3 j hj
  obtain ⟨w1, w2, w3, w4, w5, w6, w7⟩ := hw.2.2.2 j hj
  show am_W g (d + 1) mm_M_place (0, [some (.ref (g.2.2.1 + 6)), some (.int (nI j)), some (.int (nI i)), none, none], []) S _
  refine am_aloadn d_M_place_0 rfl ?_
  refine am_get d_M_place_1 fl_M_23 m0 rfl ?_
  refine am_iloadn d_M_place_4 rfl ?_
  refine am_ialdN (t := 0) (k := j) d_M_place_5 rfl m5 (by omega) (by omega) ?_
  refine am_ti (b := (T.vw j).sa) v2 ?_
  refine am_istoren (L' := [some (.ref (g.2.2.1 + 6)), some (.int (nI j)), some (.int (nI i)), some (.int ((T.vw j).sa)), none]) d_M_place_6 (by decide) rfl rfl ?_
  refine am_iconst 0 d_M_place_7 (by decide) ?_
  refine am_istore (L' := [some (.ref (g.2.2.1 + 6)), some (.int (nI j)), some (.int (nI i)), some (.int ((T.vw j).sa)), some (.int 0)]) d_M_place_8 (by decide) rfl rfl ?_
  have hZ : ∀ t, t < (T.vw j).ax → 0 < (T.vw j).ex t := sv_pr_pos (Nat.lt_of_le_of_lt (Nat.zero_le i) hi)
  have e : (T.vw j).sa = (T.vw j).sa + sv_sum (fun l => nI (sv_ix (T.vw j).ex (T.vw j).ax l i) * (T.vw j).sp l) 0 := (Int32.add_zero _).symm
  have e2 : (T.vw j).pl i = (T.vw j).sa + sv_sum (fun l => nI (sv_ix (T.vw j).ex (T.vw j).ax l i) * (T.vw j).sp l) (T.vw j).ax := congrArg _ ((sv_pl_sm _ _ _ _).trans (sv_sm_sum _ _ _))
  rw [e2] at hP
  have key := m_place_l hM hj hZ (i := i) (by omega) (d := d) hP (T.vw j).ax 0 (Nat.zero_add _)
  rw [← e] at key
  exact key
set_option maxHeartbeats 4000000 in
set_option maxRecDepth 100000 in
/-- M_item -/
theorem m_item {g : am_G} {d : Nat} {S : am_S} {T : sv_T} {th : Int32} {na : Nat} {ne nw rd : Nat → Int64} {mt : Nat → Int32} (hM : sv_N g S.1 T th na ne nw rd mt) {j : Nat} (hj : j < T.nv) {i : Nat} (hi : i < (T.vw j).it) {P : am_O → am_S → Prop} (hP : P (.inl (some (.long (T.at (T.vw j) i)))) S) : am_W g (d + 2) mm_M_item (0, am_ent [.ref (g.2.2.1 + 6), .int (nI j), .int (nI i)] 3, []) S (P) := by
  obtain ⟨fl, fz, fN, fS, fa, fx, fe, fs, ⟨m0, m1, m2, m3, m4, m5, m6, m7, m8, m9, m10, m11, m12⟩, ⟨t1, t2, t3⟩, hw⟩ := id hM
  have h80 := hw.2.1
  have h12 := hw.1
  obtain ⟨v1, v2, v3, v4⟩ := t3 j hj
  obtain ⟨w1, w2, w3, w4, w5, w6, w7⟩ := hw.2.2.2 j hj
  show am_W g (d + 2) mm_M_item (0, [some (.ref (g.2.2.1 + 6)), some (.int (nI j)), some (.int (nI i))], []) S _
  refine am_aloadn d_M_item_0 rfl ?_
  refine am_get d_M_item_1 fl_M_16 m0 rfl ?_
  refine am_sipush 300 d_M_item_4 (by decide) ?_
  refine am_aloadn d_M_item_7 rfl ?_
  refine am_get d_M_item_8 fl_M_20 m0 rfl ?_
  refine am_iloadn d_M_item_11 rfl ?_
  refine am_ialdN (t := 0) (k := j) d_M_item_12 rfl m4 (by omega) (by omega) ?_
  refine am_ti (b := nI (T.vw j).st) v1 ?_
  refine am_imul d_M_item_13 ?_
  refine am_aloadn d_M_item_14 rfl ?_
  refine am_iloadn d_M_item_15 rfl ?_
  refine am_iloadn d_M_item_16 rfl ?_
  refine am_cpsV [.int (nI j), .int (nI i)] [.int (300 * (nI (T.vw j).st)), .ref (g.2.2.1 + 9)] d_M_item_17 cV_M_70 rfl m0 rfl rfl (Nat.le_of_ble_eq_true rfl) (Nat.le_of_ble_eq_true rfl) (m_place hM hj hi ?_)
  show am_W g (d + 2) mm_M_item (20, [some (.ref (g.2.2.1 + 6)), some (.int (nI j)), some (.int (nI i))], [.int ((T.vw j).pl i), .int (300 * (nI (T.vw j).st)), .ref (g.2.2.1 + 9)]) S _
  have hin := w7 i hi
  obtain ⟨p0, hp0, hpe⟩ := vp_in_of hin (by have := hw.2.2.1 _ w1; omega)
  have hsz := hw.2.2.1 _ w1
  rw [hpe]
  refine am_iadd d_M_item_20 ?_
  refine am_ti (b := nI (300 * (T.vw j).st + p0)) (sv_300 _ _) ?_
  refine am_laldN (t := 1) (k := 300 * (T.vw j).st + p0) d_M_item_21 rfl m3 (by omega) (by omega) ?_
  refine am_tl (b := T.at (T.vw j) i) (((t1 _ w1).2.2 p0 hp0).trans (by rw [sv_T.at, hpe, nI_clamp (by omega)])) ?_
  exact am_lret d_M_item_22 rfl hP
set_option maxHeartbeats 4000000 in
set_option maxRecDepth 100000 in
/-- isFixed, the loop -/
theorem m_isFixed_l {g : am_G} {d : Nat} {S : am_S} {T : sv_T} {th : Int32} {na : Nat} {ne nw rd : Nat → Int64} {mt : Nat → Int32} (hM : sv_N g S.1 T th na ne nw rd mt) {j : Nat} (hj : j < T.nv) {P : am_O → am_S → Prop} (hP : P (.inl (some (.int (sv_if ((T.vw j).fx) 1 0)))) S) : ∀ (m k : Nat), k + m = (T.vw j).ax → am_W g d mm_M_isFixed (4, [some (.ref (g.2.2.1 + 6)), some (.int (nI j)), some (.int (sv_if (∃ t, t < k ∧ (T.vw j).sp t = 0 ∧ 2 ≤ (T.vw j).ex t) 1 0)), some (.int (nI k))], []) S P := by
  obtain ⟨fl, fz, fN, fS, fa, fx, fe, fs, ⟨m0, m1, m2, m3, m4, m5, m6, m7, m8, m9, m10, m11, m12⟩, ⟨t1, t2, t3⟩, hw⟩ := id hM
  have h80 := hw.2.1
  have h12 := hw.1
  obtain ⟨v1, v2, v3, v4⟩ := t3 j hj
  obtain ⟨w1, w2, w3, w4, w5, w6, w7⟩ := hw.2.2.2 j hj
  intro m
  induction m using Nat.strongRecOn with
  | ind m ih =>
    intro k hk
    refine am_iloadn d_M_isFixed_4 rfl ?_
    refine am_aloadn d_M_isFixed_5 rfl ?_
    refine am_get d_M_isFixed_6 fl_M_26 m0 rfl ?_
    refine am_iloadn d_M_isFixed_9 rfl ?_
    refine am_ialdN (t := 0) (k := j) d_M_isFixed_10 rfl m6 (by omega) (by omega) ?_
    refine am_ti (b := nI (T.vw j).ax) v3 ?_
    refine am_icge (tgt := 57) d_M_isFixed_11 (by decide) (fun hc => ?_) (fun hc => ?_)
    · have hk0 : (T.vw j).ax ≤ k := (nI_leI (by omega) (by omega)).mp hc
      obtain rfl : k = (T.vw j).ax := by omega
      refine am_iloadn d_M_isFixed_57 rfl ?_
      exact am_zret d_M_isFixed_58 rfl sv_bo_n hP
    · have hlt : k < (T.vw j).ax := Nat.lt_of_not_le (fun q => hc (nI_le q (by omega)))
      have hO9 := w3 k hlt
      refine am_iloadn d_M_isFixed_14 rfl ?_
      refine am_ifne (tgt := 45) d_M_isFixed_15 (by decide) (fun hz => ?_) (fun hz => ?_)
      · refine am_iconst 1 d_M_isFixed_45 (by decide) ?_
        refine am_goto (tgt := 50) d_M_isFixed_46 (by decide) ?_
        refine am_istoren (L' := [some (.ref (g.2.2.1 + 6)), some (.int (nI j)), some (.int 1), some (.int (nI k))]) d_M_isFixed_50 (by decide) rfl rfl ?_
        refine am_iinc (v := nI (k + 1)) (L' := [some (.ref (g.2.2.1 + 6)), some (.int (nI j)), some (.int 1), some (.int (nI (k + 1)))]) d_M_isFixed_51 rfl (nI_1 k) (by decide) rfl rfl ?_
        refine am_goto (tgt := 4) d_M_isFixed_54 (by decide) ?_
        have key := ih (m - 1) (by omega) (k + 1) (by omega)
        rw [sv_if_y ((sv_b1 hz).elim (fun t h => ⟨t, by omega, h.2⟩))] at key
        exact key
      · refine am_aloadn d_M_isFixed_18 rfl ?_
        refine am_get d_M_isFixed_19 fl_M_29 m0 rfl ?_
        refine am_iconst 4 d_M_isFixed_22 (by decide) ?_
        refine am_iloadn d_M_isFixed_23 rfl ?_
        refine am_imul d_M_isFixed_24 ?_
        refine am_iloadn d_M_isFixed_25 rfl ?_
        refine am_iadd d_M_isFixed_26 ?_
        refine am_ti (b := nI (4 * j + k)) (sv_4 j k) ?_
        refine am_ialdN (t := 0) (k := 4 * j + k) d_M_isFixed_27 rfl m7 (by omega) (by omega) ?_
        refine am_ti (b := nI ((T.vw j).ex k)) ((v4 k hlt).1) ?_
        refine am_iconst 1 d_M_isFixed_28 (by decide) ?_
        refine am_icle (tgt := 49) d_M_isFixed_29 (by decide) (fun hy => ?_) (fun hy => ?_)
        · have h1 : (T.vw j).ex k ≤ 1 := (nI_leI (b := 1) hO9 (by decide)).mp hy
          refine am_iconst 0 d_M_isFixed_49 (by decide) ?_
          refine am_istoren (L' := [some (.ref (g.2.2.1 + 6)), some (.int (nI j)), some (.int 0), some (.int (nI k))]) d_M_isFixed_50 (by decide) rfl rfl ?_
          refine am_iinc (v := nI (k + 1)) (L' := [some (.ref (g.2.2.1 + 6)), some (.int (nI j)), some (.int 0), some (.int (nI (k + 1)))]) d_M_isFixed_51 rfl (nI_1 k) (by decide) rfl rfl ?_
          refine am_goto (tgt := 4) d_M_isFixed_54 (by decide) ?_
          have key := ih (m - 1) (by omega) (k + 1) (by omega)
          rw [sv_if_n (fun ⟨t, h1a, h2, h3⟩ => (Nat.lt_or_ge t k).elim (fun z => sv_b0 hz ⟨t, z, h2, h3⟩) (fun z => by rw [show t = k by omega] at h3; omega))] at key
          exact key
        · have h1 : ¬ (T.vw j).ex k ≤ 1 := fun q => hy (nI_le (b := 1) q (by decide))
          refine am_aloadn d_M_isFixed_32 rfl ?_
          refine am_get d_M_isFixed_33 fl_M_32 m0 rfl ?_
          refine am_iconst 4 d_M_isFixed_36 (by decide) ?_
          refine am_iloadn d_M_isFixed_37 rfl ?_
          refine am_imul d_M_isFixed_38 ?_
          refine am_iloadn d_M_isFixed_39 rfl ?_
          refine am_iadd d_M_isFixed_40 ?_
          refine am_ti (b := nI (4 * j + k)) (sv_4 j k) ?_
          refine am_ialdN (t := 0) (k := 4 * j + k) d_M_isFixed_41 rfl m8 (by omega) (by omega) ?_
          refine am_ti (b := (T.vw j).sp k) ((v4 k hlt).2) ?_
          refine am_ifne (tgt := 49) d_M_isFixed_42 (by decide) (fun hx => ?_) (fun hx => ?_)
          · refine am_iconst 0 d_M_isFixed_49 (by decide) ?_
            refine am_istoren (L' := [some (.ref (g.2.2.1 + 6)), some (.int (nI j)), some (.int 0), some (.int (nI k))]) d_M_isFixed_50 (by decide) rfl rfl ?_
            refine am_iinc (v := nI (k + 1)) (L' := [some (.ref (g.2.2.1 + 6)), some (.int (nI j)), some (.int 0), some (.int (nI (k + 1)))]) d_M_isFixed_51 rfl (nI_1 k) (by decide) rfl rfl ?_
            refine am_goto (tgt := 4) d_M_isFixed_54 (by decide) ?_
            have key := ih (m - 1) (by omega) (k + 1) (by omega)
            rw [sv_if_n (fun ⟨t, h1a, h2, h3⟩ => (Nat.lt_or_ge t k).elim (fun z => sv_b0 hz ⟨t, z, h2, h3⟩) (fun z => hx ((show t = k by omega) ▸ h2)))] at key
            exact key
          · refine am_iconst 1 d_M_isFixed_45 (by decide) ?_
            refine am_goto (tgt := 50) d_M_isFixed_46 (by decide) ?_
            refine am_istoren (L' := [some (.ref (g.2.2.1 + 6)), some (.int (nI j)), some (.int 1), some (.int (nI k))]) d_M_isFixed_50 (by decide) rfl rfl ?_
            refine am_iinc (v := nI (k + 1)) (L' := [some (.ref (g.2.2.1 + 6)), some (.int (nI j)), some (.int 1), some (.int (nI (k + 1)))]) d_M_isFixed_51 rfl (nI_1 k) (by decide) rfl rfl ?_
            refine am_goto (tgt := 4) d_M_isFixed_54 (by decide) ?_
            have key := ih (m - 1) (by omega) (k + 1) (by omega)
            rw [sv_if_y (⟨k, by omega, hx, by omega⟩)] at key
            exact key
set_option maxHeartbeats 4000000 in
set_option maxRecDepth 100000 in
/-- M_isFixed -/
theorem m_isFixed {g : am_G} {d : Nat} {S : am_S} {T : sv_T} {th : Int32} {na : Nat} {ne nw rd : Nat → Int64} {mt : Nat → Int32} (hM : sv_N g S.1 T th na ne nw rd mt) {j : Nat} (hj : j < T.nv) {P : am_O → am_S → Prop} (hP : P (.inl (some (.int (sv_if ((T.vw j).fx) 1 0)))) S) : am_W g d mm_M_isFixed (0, am_ent [.ref (g.2.2.1 + 6), .int (nI j)] 4, []) S (P) := by
  obtain ⟨fl, fz, fN, fS, fa, fx, fe, fs, ⟨m0, m1, m2, m3, m4, m5, m6, m7, m8, m9, m10, m11, m12⟩, ⟨t1, t2, t3⟩, hw⟩ := id hM
  have h80 := hw.2.1
  have h12 := hw.1
  obtain ⟨v1, v2, v3, v4⟩ := t3 j hj
  obtain ⟨w1, w2, w3, w4, w5, w6, w7⟩ := hw.2.2.2 j hj
  show am_W g d mm_M_isFixed (0, [some (.ref (g.2.2.1 + 6)), some (.int (nI j)), none, none], []) S _
  refine am_iconst 0 d_M_isFixed_0 (by decide) ?_
  refine am_istoren (L' := [some (.ref (g.2.2.1 + 6)), some (.int (nI j)), some (.int 0), none]) d_M_isFixed_1 (by decide) rfl rfl ?_
  refine am_iconst 0 d_M_isFixed_2 (by decide) ?_
  refine am_istoren (L' := [some (.ref (g.2.2.1 + 6)), some (.int (nI j)), some (.int 0), some (.int 0)]) d_M_isFixed_3 (by decide) rfl rfl ?_
  have key := m_isFixed_l hM hj (d := d) hP (T.vw j).ax 0 (Nat.zero_add _)
  rw [sv_if_n (fun ⟨t, h, _⟩ => absurd h (Nat.not_lt_zero t))] at key
  exact key
set_option maxHeartbeats 4000000 in
set_option maxRecDepth 100000 in
/-- M_isFixed -/
theorem m_isFixedV {g : am_G} {d : Nat} {S : am_S} {T : sv_T} {th : Int32} {na : Nat} {ne nw rd : Nat → Int64} {mt : Nat → Int32} (hM : sv_N g S.1 T th na ne nw rd mt) {v : Int32} (hv : sv_iv T v) {P : am_O → am_S → Prop} (hP : P (.inl (some (.int (sv_if ((T.va v).fx) 1 0)))) S) : am_W g d mm_M_isFixed (0, am_ent [.ref (g.2.2.1 + 6), .int v] 4, []) S (P) := by
  have h80 := sv_N.w hM
  obtain ⟨j, hj, rfl⟩ := sv_iv_of hv h80.2.1
  rw [sv_va_j hj h80.2.1] at hP
  exact m_isFixed hM hj hP
