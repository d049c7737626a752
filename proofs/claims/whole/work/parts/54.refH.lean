/-! the reference: calls that make views -/
theorem sv_tk_none {a : sv_A} {Ne Nw : Nat → Int64} (h4 : a.ax ≤ 4) (h : ∀ i, i < a.ax → ¬ (nI i = -1 ∨ nI i = -1) → Ne (sv_c2 (-1) (-1) i) = lN (a.ex i) ∧ Nw (sv_c2 (-1) (-1) i) = (a.sp i).toInt64) : ∀ i, i < a.ax → Ne i = lN (a.ex i) ∧ Nw i = (a.sp i).toInt64 := by
  intro i hi
  have := h i hi (fun q => q.elim (sv_neg1 (by omega)) (sv_neg1 (by omega)))
  rw [sv_c2_none (by omega)] at this
  exact this
theorem sv_tk_one {a : sv_A} {Ne Nw : Nat → Int64} {k : Nat} (hk : k < a.ax) (h4 : a.ax ≤ 4) (h : ∀ i, i < a.ax → ¬ (nI i = nI k ∨ nI i = -1) → Ne (sv_c2 (nI k) (-1) i) = lN (a.ex i) ∧ Nw (sv_c2 (nI k) (-1) i) = (a.sp i).toInt64) : ∀ i, i < a.ax - 1 → Ne i = lN (sv_rem a.ex k i) ∧ Nw i = (sv_rem a.sp k i).toInt64 := by
  intro i hi
  have ne : ∀ t, t < a.ax → t ≠ k → ¬ (nI t = nI k ∨ nI t = -1) := fun t ht hne q => q.elim (fun z => hne ((nI_eq (by omega) (by omega)).mp z)) (sv_neg1 (by omega))
  simp only [sv_rem]
  by_cases c : i < k
  · have := h i (by omega) (ne i (by omega) (by omega))
    rw [sv_c2_one (by omega) (by omega), if_neg (by omega)] at this
    rw [if_pos c, if_pos c]
    exact this
  · have := h (i + 1) (by omega) (ne (i + 1) (by omega) (by omega))
    rw [sv_c2_one (by omega) (by omega), if_pos (by omega), Nat.add_sub_cancel] at this
    rw [if_neg c, if_neg c]
    exact this
theorem sv_tk_two {a : sv_A} {Ne Nw : Nat → Int64} {k l : Nat} (hk : k < a.ax) (hl : l < a.ax) (hkl : k ≠ l) (h4 : a.ax ≤ 4) (h : ∀ i, i < a.ax → ¬ (nI i = nI k ∨ nI i = nI l) → Ne (sv_c2 (nI k) (nI l) i) = lN (a.ex i) ∧ Nw (sv_c2 (nI k) (nI l) i) = (a.sp i).toInt64) : ∀ i, i < a.ax - 2 → Ne i = lN (sv_rem (sv_rem a.ex (max k l)) (min k l) i) ∧ Nw i = (sv_rem (sv_rem a.sp (max k l)) (min k l) i).toInt64 := by
  intro i hi
  have ne : ∀ t, t < a.ax → t ≠ k → t ≠ l → ¬ (nI t = nI k ∨ nI t = nI l) := fun t ht h1 h2 q => q.elim (fun z => h1 ((nI_eq (by omega) (by omega)).mp z)) (fun z => h2 ((nI_eq (by omega) (by omega)).mp z))
  have key : ∀ t, t < a.ax → t ≠ k → t ≠ l → t - (if k < t then 1 else 0) - (if l < t then 1 else 0) = i → Ne i = lN (a.ex t) ∧ Nw i = (a.sp t).toInt64 := by
    intro t ht h1 h2 h3
    have := h t ht (ne t ht h1 h2)
    rw [sv_c2_two (by omega) (by omega) hkl (by omega), h3] at this
    exact this
  simp only [sv_rem]
  by_cases c1 : i < min k l
  · rw [if_pos c1, if_pos c1, if_pos (by omega), if_pos (by omega)]
    exact key i (by omega) (by omega) (by omega) (by rw [if_neg (by omega), if_neg (by omega)]; omega)
  · rw [if_neg c1, if_neg c1]
    by_cases c2 : i + 1 < max k l
    · rw [if_pos c2, if_pos c2]
      refine key (i + 1) (by omega) (by omega) (by omega) ?_
      by_cases c3 : k < l
      · rw [if_pos (by omega), if_neg (by omega)]; omega
      · rw [if_neg (by omega), if_pos (by omega)]; omega
    · rw [if_neg c2, if_neg c2]
      exact key (i + 1 + 1) (by omega) (by omega) (by omega) (by rw [if_pos (by omega), if_pos (by omega)]; omega)
theorem sv_pos_it {a : sv_A} {k : Nat} (hk : k < a.ax) (h3 : a.it ≤ 3000) (hp : 0 < a.ex k) : sv_pr (sv_rem a.ex k) (a.ax - 1) ≤ 3000 := by
  have h9 : a.it = sv_pr (sv_rem a.ex k) (a.ax - 1) * a.ex k := sv_pr_rem hk
  have := Nat.le_mul_of_pos_right (sv_pr (sv_rem a.ex k) (a.ax - 1)) hp
  omega
theorem sv_li (a b c : Int32) : (a.toInt64 + b.toInt64 * c.toInt64).toInt32 = a + b * c := by simp
theorem sv_li2 (a : Int32) : a.toInt64.toInt32 = a := by simp
theorem sv_li3 (a b : Int32) : (a.toInt64 + b.toInt64).toInt32 = a + b := by simp
theorem sv_li4 (a b : Int32) : (a.toInt64 * b.toInt64).toInt32 = a * b := by simp
theorem q_pick_4 {T : sv_T} {v x n : Int32} (hw : sv_wf T) (h : ¬ (sv_ia T v x ∧ 0 ≤ n ∧ n < nI ((T.va v).ex x.toNatClampNeg))) : q_pick T v x n = (4, .null, T) := by
  by_cases h1 : sv_ia T v x
  · unfold q_pick sv_qv sv_qa
    rw [if_pos h1.1]
    dsimp only
    rw [if_pos h1.2]
    exact if_neg (fun q => h ⟨h1, q⟩)
  · rw [q_pick, sv_qva_no h1]
theorem q_pick_6 {T : sv_T} {v x n : Int32} (h : sv_ia T v x ∧ 0 ≤ n ∧ n < nI ((T.va v).ex x.toNatClampNeg)) (hw : sv_wf T) (h8 : ¬ T.nv < 80) : q_pick T v x n = (6, .null, T) := by
  unfold q_pick sv_qv sv_qa
  rw [if_pos h.1.1]
  dsimp only
  rw [if_pos h.1.2, if_pos h.2]
  exact if_neg (fun q => h8 q.1)
theorem sv_qva2_no {T : sv_T} {v x y : Int32} {f : sv_A → Nat → Nat → sv_Q} (h : ¬ (sv_ia T v x ∧ sv_ia T v y)) : sv_qv T v (fun a => sv_qa T a x fun k => sv_qa T a y (f a k)) = (4, .null, T) := by
  by_cases h1 : sv_ia T v x
  · unfold sv_qv
    rw [if_pos h1.1]
    dsimp only
    rw [sv_qa, if_pos h1.2]
    exact sv_qa_no (fun q => h ⟨h1, h1.1, q⟩)
  · exact sv_qva_no h1
theorem sv_qva2_y {T : sv_T} {v x y : Int32} {f : sv_A → Nat → Nat → sv_Q} (h : sv_ia T v x ∧ sv_ia T v y) : sv_qv T v (fun a => sv_qa T a x fun k => sv_qa T a y (f a k)) = f (T.va v) x.toNatClampNeg y.toNatClampNeg := by
  unfold sv_qv
  rw [if_pos h.1.1]
  dsimp only
  rw [sv_qa, if_pos h.1.2, sv_qa, if_pos h.2.2]
theorem q_turn_6 {T : sv_T} {v x y : Int32} (h : sv_ia T v x ∧ sv_ia T v y) (hw : sv_wf T) (h8 : ¬ T.nv < 80) : q_turn T v x y = (6, .null, T) := by
  rw [q_turn, sv_qva2_y h]
  exact if_neg (fun q => h8 q.1)
theorem sv_pr_swap {E : Nat → Nat} {k l n : Nat} (hk : k < n) (hl : l < n) : sv_pr (fun i => if i = l then E k else if i = k then E l else E i) n = sv_pr E n := by
  by_cases e : k = l
  · subst e
    exact sv_pr_congr (fun i _ => by show (if i = k then E k else if i = k then E k else E i) = E i; split; rename_i h; rw [h]; rfl)
  · have step : ∀ (F : Nat → Nat) (m : Nat), sv_pr F n = sv_pr F n := fun _ _ => rfl
    have one : ∀ (F F2 : Nat → Nat) (m n : Nat), m < n → (∀ i, i < n → i ≠ m → F2 i = F i) → sv_pr F2 n * F m = sv_pr F n * F2 m := by
      intro F F2 m n
      induction n with
      | zero => intro h; omega
      | succ n ih =>
        intro hm h
        show sv_pr F2 n * F2 n * F m = sv_pr F n * F n * F2 m
        by_cases q : m = n
        · subst q
          rw [sv_pr_congr (E := F) (E2 := F2) (fun i hi => h i (by omega) (by omega)), Nat.mul_assoc, Nat.mul_assoc, Nat.mul_comm (F2 m)]
        · rw [h n (by omega) (by omega), Nat.mul_right_comm, ih (by omega) (fun i hi hne => h i (by omega) hne), Nat.mul_right_comm]
    by_cases z1 : E k = 0
    · rw [sv_pr_0 hk z1, sv_pr_0 (k := l) hl (by show (if l = l then E k else _) = 0; rw [if_pos rfl]; exact z1)]
    · by_cases z2 : E l = 0
      · rw [sv_pr_0 hl z2, sv_pr_0 (k := k) hk (by show (if k = l then E k else if k = k then E l else _) = 0; rw [if_neg e, if_pos rfl]; exact z2)]
      · have h1 := one E (fun i => if i = k then E l else E i) k n hk (fun i _ hne => if_neg hne)
        have h2 := one (fun i => if i = k then E l else E i) (fun i => if i = l then E k else if i = k then E l else E i) l n hl (fun i _ hne => if_neg hne)
        simp only [if_true] at h1 h2
        rw [if_neg (fun h => e h.symm)] at h2
        have h3 : sv_pr (fun i => if i = l then E k else if i = k then E l else E i) n * E l = sv_pr E n * E l := h2.trans h1
        exact Nat.eq_of_mul_eq_mul_right (Nat.pos_of_ne_zero z2) h3
theorem q_diag_5 {T : sv_T} {v x y : Int32} (h : sv_ia T v x ∧ sv_ia T v y) (e : x = y) : q_diagonal T v x y = (5, .null, T) := by
  rw [q_diagonal, sv_qva2_y h, if_pos e]
theorem q_diag_6 {T : sv_T} {v x y : Int32} (h : sv_ia T v x ∧ sv_ia T v y) (e : ¬ x = y) (h8 : ¬ T.nv < 80) : q_diagonal T v x y = (6, .null, T) := by
  rw [q_diagonal, sv_qva2_y h, if_neg e]
  exact if_neg (fun q => h8 q.1)
theorem sv_pr_diag {a : sv_A} {k l : Nat} (hk : k < a.ax) (hl : l < a.ax) (hkl : k ≠ l) (h3 : a.it ≤ 3000) : sv_pr (sv_ins (sv_rem (sv_rem a.ex (max k l)) (min k l)) (a.ax - 2) (min (a.ex k) (a.ex l))) (a.ax - 1) ≤ 3000 := by
  obtain ⟨n, hn⟩ : ∃ n, a.ax = n + 2 := ⟨a.ax - 2, by omega⟩
  have e1 : a.it = sv_pr (sv_rem a.ex (max k l)) (n + 1) * a.ex (max k l) := by
    have := sv_pr_rem (E := a.ex) (n := a.ax) (k := max k l) (by omega)
    rw [hn] at this
    show sv_pr a.ex a.ax = _
    rw [hn]
    exact this
  have e2 : sv_pr (sv_rem a.ex (max k l)) (n + 1) = sv_pr (sv_rem (sv_rem a.ex (max k l)) (min k l)) n * a.ex (min k l) := by
    have := sv_pr_rem (E := sv_rem a.ex (max k l)) (n := n + 1) (k := min k l) (by omega)
    rw [Nat.add_sub_cancel] at this
    rw [this]
    congr 1
    simp only [sv_rem]
    rw [if_pos (by omega)]
  rw [show a.ax - 1 = n + 1 by omega, show a.ax - 2 = n by omega, sv_pr_ins _ _ (Nat.le_refl n)]
  have e3 : min (a.ex k) (a.ex l) = min (a.ex (min k l)) (a.ex (max k l)) := by
    rcases Nat.lt_or_ge k l with h | h
    · rw [Nat.min_eq_left (Nat.le_of_lt h), Nat.max_eq_right (Nat.le_of_lt h)]
    · rw [Nat.min_eq_right h, Nat.max_eq_left h, Nat.min_comm]
  rw [e3]
  rw [e2] at e1
  generalize sv_pr (sv_rem (sv_rem a.ex (max k l)) (min k l)) n = X at *
  generalize a.ex (min k l) = p at *
  generalize a.ex (max k l) = q at *
  have : X * min p q ≤ X * p * q := by
    rcases Nat.eq_zero_or_pos p with hp | hp
    · subst hp; simp
    · rcases Nat.eq_zero_or_pos q with hq | hq
      · subst hq; simp
      · exact Nat.le_trans (Nat.mul_le_mul_left X (Nat.min_le_left p q)) (Nat.le_mul_of_pos_right _ hq)
  omega
set_option maxHeartbeats 4000000 in
set_option maxRecDepth 100000 in
/-- M_pick -/
theorem e_pick {g : am_G} {d : Nat} {S : am_S} {T : sv_T} {th : Int32} {na : Nat} {ne nw rd : Nat → Int64} {mt : Nat → Int32} (hM : sv_N g S.1 T th na ne nw rd mt) {v x n : Int32} : am_W g (d + 2) mm_M_pick (0, am_ent [.ref (g.2.2.1 + 6), .int v, .int x, .int n] 5, []) S (sv_E g S (q_pick T v x n) (sv_cd 4 6 9)) := by
  obtain ⟨fl, fz, fN, fS, fa, fx, fe, fs, ⟨m0, m1, m2, m3, m4, m5, m6, m7, m8, m9, m10, m11, m12⟩, ⟨t1, t2, t3⟩, hw⟩ := id hM
  have h80 := hw.2.1
  have h12 := hw.1
  show am_W g (d + 2) mm_M_pick (0, [some (.ref (g.2.2.1 + 6)), some (.int v), some (.int x), some (.int n), none], []) S _
  refine am_cut (F := (32, [some (.ref (g.2.2.1 + 6)), some (.int v), some (.int x), some (.int n), none], [.int (sv_if (sv_ia T v x ∧ 0 ≤ n ∧ n < nI ((T.va v).ex x.toNatClampNeg)) 1 0)])) ?_ (fun key => ?_)
  · skip
    refine am_istore (L' := [some (.ref (g.2.2.1 + 6)), some (.int v), some (.int x), some (.int n), some (.int (sv_if (sv_ia T v x ∧ 0 ≤ n ∧ n < nI ((T.va v).ex x.toNatClampNeg)) 1 0))]) d_M_pick_32 (by decide) rfl rfl ?_
    refine am_aloadn d_M_pick_34 rfl ?_
    refine am_iload d_M_pick_35 rfl ?_
    refine am_cut (F := (51, [some (.ref (g.2.2.1 + 6)), some (.int v), some (.int x), some (.int n), some (.int (sv_if (sv_ia T v x ∧ 0 ≤ n ∧ n < nI ((T.va v).ex x.toNatClampNeg)) 1 0))], [.int (sv_if (T.nv < 80) 1 0), .int (sv_if (sv_ia T v x ∧ 0 ≤ n ∧ n < nI ((T.va v).ex x.toNatClampNeg)) 1 0), .ref (g.2.2.1 + 6)])) ?_ (fun key => ?_)
    · skip
      refine am_cpsV [.int (sv_if (sv_ia T v x ∧ 0 ≤ n ∧ n < nI ((T.va v).ex x.toNatClampNeg)) 1 0), .int (sv_if (T.nv < 80) 1 0)] [] d_M_pick_51 cV_M_90 rfl m0 rfl rfl (Nat.le_of_ble_eq_true rfl) (Nat.le_of_ble_eq_true rfl) (m_goesOf hM (fun b1 S1 hN1 hf1 => ?_) (fun b1 b2 S1 hN1 hf1 => ?_) (fun b1 b2 S1 hN1 hf1 => ?_))
      · show am_W g (d + 2) mm_M_pick (54, [some (.ref (g.2.2.1 + 6)), some (.int v), some (.int x), some (.int n), some (.int (sv_if (sv_ia T v x ∧ 0 ≤ n ∧ n < nI ((T.va v).ex x.toNatClampNeg)) 1 0))], [.int 0]) S1 _
        refine am_ifne (tgt := 59) d_M_pick_54 (by decide) (fun hz => ?_) (fun hz => ?_)
        · exact absurd rfl hz
        · refine am_iconst 0 d_M_pick_57 (by decide) ?_
          rw [q_pick_4 hw (sv_b0 b1)]
          exact am_iret d_M_pick_58 rfl (sv_E.no hN1 hf1 (by decide))
      · show am_W g (d + 2) mm_M_pick (54, [some (.ref (g.2.2.1 + 6)), some (.int v), some (.int x), some (.int n), some (.int (sv_if (sv_ia T v x ∧ 0 ≤ n ∧ n < nI ((T.va v).ex x.toNatClampNeg)) 1 0))], [.int 0]) S1 _
        refine am_ifne (tgt := 59) d_M_pick_54 (by decide) (fun hz => ?_) (fun hz => ?_)
        · exact absurd rfl hz
        · refine am_iconst 0 d_M_pick_57 (by decide) ?_
          rw [q_pick_6 (sv_b1 b1) hw (sv_b0 b2)]
          exact am_iret d_M_pick_58 rfl (sv_E.no hN1 hf1 (by decide))
      · skip
        show am_W g (d + 2) mm_M_pick (54, [some (.ref (g.2.2.1 + 6)), some (.int v), some (.int x), some (.int n), some (.int (sv_if (sv_ia T v x ∧ 0 ≤ n ∧ n < nI ((T.va v).ex x.toNatClampNeg)) 1 0))], [.int 1]) S1 _
        refine am_ifne (tgt := 59) d_M_pick_54 (by decide) (fun hz => ?_) (fun hz => ?_)
        · skip
          have hC := sv_b1 b1
          have hv8 := sv_b1 b2
          have hia := hC.1
          obtain ⟨j, k, hj, rfl, hk, rfl⟩ := sv_ia_of hia hw
          obtain ⟨w1, w2, w3, w4, w5, w6, w7⟩ := hw.2.2.2 j hj
          obtain ⟨v1, v2, v3, v4⟩ := t3 j hj
          rw [sv_va_j hj h80, nI_clamp (by omega)] at hC
          obtain ⟨i, hi0, rfl⟩ := nI_of (Int32.not_lt.mpr hC.2.1)
          have hi := (nI_ltI hi0 (w3 k hk)).mp hC.2.2
          rw [q_pick, sv_qv_j hj h80, sv_qa_j hk w2, if_pos hC.2]
          obtain ⟨flb, fzb, fNb, fSb, fab, fxb, feb, fsb, ⟨m0b, m1b, m2b, m3b, m4b, m5b, m6b, m7b, m8b, m9b, m10b, m11b, m12b⟩, ⟨t1b, t2b, t3b⟩, hwb⟩ := id hN1
          refine am_aloadn d_M_pick_59 rfl ?_
          refine am_iloadn d_M_pick_60 rfl ?_
          refine am_iloadn d_M_pick_61 rfl ?_
          refine am_iconst (-1) d_M_pick_62 (by decide) ?_
          refine am_cpsV [.int (nI j), .int (nI k), .int (-1)] [] d_M_pick_63 cV_M_113 rfl m0b rfl rfl (Nat.le_of_ble_eq_true rfl) (Nat.le_of_ble_eq_true rfl) (m_take hN1 hj (b1 := nI k) (b2 := -1) (fun S2 Ne Nw hN2 hf2 hI2 => ?_))
          show am_W g (d + 2) mm_M_pick (66, [some (.ref (g.2.2.1 + 6)), some (.int (nI j)), some (.int (nI k)), some (.int (nI i)), some (.int (sv_if (sv_ia T (nI j) (nI k) ∧ 0 ≤ nI i ∧ nI i < nI ((T.va (nI j)).ex (nI k).toNatClampNeg)) 1 0))], []) S2 _
          have hI3 := sv_tk_one hk w2 hI2
          have hc2 : sv_c2 (nI k) (-1) (T.vw j).ax = (T.vw j).ax - 1 := by rw [sv_c2_one (by omega) (by omega), if_pos hk]
          rw [hc2] at hN2
          obtain ⟨flc, fzc, fNc, fSc, fac, fxc, fec, fsc, ⟨m0c, m1c, m2c, m3c, m4c, m5c, m6c, m7c, m8c, m9c, m10c, m11c, m12c⟩, ⟨t1c, t2c, t3c⟩, hwc⟩ := id hN2
          obtain ⟨u1, u2, u3, u4⟩ := t3c j hj
          refine am_aloadn d_M_pick_66 rfl ?_
          refine am_aloadn d_M_pick_67 rfl ?_
          refine am_get d_M_pick_68 fl_M_20 m0c rfl ?_
          refine am_iloadn d_M_pick_71 rfl ?_
          refine am_ialdN (t := 0) (k := j) d_M_pick_72 rfl m4c (by omega) (by omega) ?_
          refine am_ti (b := nI (T.vw j).st) u1 ?_
          refine am_aloadn d_M_pick_73 rfl ?_
          refine am_get d_M_pick_74 fl_M_23 m0c rfl ?_
          refine am_iloadn d_M_pick_77 rfl ?_
          refine am_ialdN (t := 0) (k := j) d_M_pick_78 rfl m5c (by omega) (by omega) ?_
          refine am_ti (b := (T.vw j).sa) u2 ?_
          refine am_i2l d_M_pick_79 ?_
          refine am_iloadn d_M_pick_80 rfl ?_
          refine am_i2l d_M_pick_81 ?_
          refine am_aloadn d_M_pick_82 rfl ?_
          refine am_get d_M_pick_83 fl_M_32 m0c rfl ?_
          refine am_iconst 4 d_M_pick_86 (by decide) ?_
          refine am_iloadn d_M_pick_87 rfl ?_
          refine am_imul d_M_pick_88 ?_
          refine am_iloadn d_M_pick_89 rfl ?_
          refine am_iadd d_M_pick_90 ?_
          refine am_ti (b := nI (4 * j + k)) (sv_4 j k) ?_
          refine am_ialdN (t := 0) (k := 4 * j + k) d_M_pick_91 rfl m8c (by omega) (by omega) ?_
          refine am_ti (b := (T.vw j).sp k) ((u4 k hk).2) ?_
          refine am_i2l d_M_pick_92 ?_
          refine am_lmul d_M_pick_93 ?_
          refine am_ladd d_M_pick_94 ?_
          have hOn : sv_ok (sv_rem (T.vw j).ex k) ((T.vw j).ax - 1) := fun t ht => by simp only [sv_rem]; split <;> exact w3 _ (by omega)
          refine am_cpsV [.int (nI (T.vw j).st), .long ((((T.vw j).sa).toInt64) + (((nI i).toInt64) * (((T.vw j).sp k).toInt64)))] [] d_M_pick_95 cV_M_101 rfl m0c rfl rfl (Nat.le_of_ble_eq_true rfl) (Nat.le_of_ble_eq_true rfl) (m_add hN2 (a := ((T.vw j).st, (T.vw j).sa + nI i * (T.vw j).sp k, (T.vw j).ax - 1, sv_rem (T.vw j).ex k, sv_rem (T.vw j).sp k)) rfl (show (T.vw j).ax - 1 ≤ 4 by omega) (fun t ht => (hI3 t ht).1) (fun t ht => by rw [(hI3 t ht).2]; exact sv_li2 _) hOn (sv_pos_it hk w4 (by omega)) w1 (sv_in_pick w7 hk hi) hv8 (sv_li _ _ _) (fun S9 hN9 hf9 => ?_))
          show am_W g (d + 2) mm_M_pick (98, [some (.ref (g.2.2.1 + 6)), some (.int (nI j)), some (.int (nI k)), some (.int (nI i)), some (.int (sv_if (sv_ia T (nI j) (nI k) ∧ 0 ≤ nI i ∧ nI i < nI ((T.va (nI j)).ex (nI k).toNatClampNeg)) 1 0))], [.int (nI T.nv)]) S9 _
          rw [sv_kp, if_pos ⟨hv8, (sv_pos_it hk w4 (by omega))⟩]
          exact am_iret d_M_pick_98 rfl (sv_E.ok hN9 ((hf1.tr hf2).tr hf9))
        · exact absurd hz (by decide)
    · refine am_aloadn d_M_pick_37 rfl ?_
      refine am_get d_M_pick_38 fl_M_52 m0 rfl ?_
      refine am_bipush 80 d_M_pick_41 (by decide) ?_
      refine am_icge (tgt := 50) d_M_pick_43 (by decide) (fun hb_1 => ?_) (fun hb_1 => ?_)
      · refine am_iconst 0 d_M_pick_50 (by decide) ?_
        rw [sv_if_n (c := T.nv < 80) (fun q => nI_ge (b := 80) q (by decide) hb_1)] at key
        exact key
      · refine am_iconst 1 d_M_pick_46 (by decide) ?_
        refine am_goto (tgt := 51) d_M_pick_47 (by decide) ?_
        rw [sv_if_y (c := T.nv < 80) (Nat.lt_of_not_le (fun z => hb_1 (nI_le (a := 80) z (by omega))))] at key
        exact key
  · refine am_aloadn d_M_pick_0 rfl ?_
    refine am_iloadn d_M_pick_1 rfl ?_
    refine am_iloadn d_M_pick_2 rfl ?_
    refine am_cpsV [.int v, .int x] [] d_M_pick_3 cV_M_105 rfl m0 rfl rfl (Nat.le_of_ble_eq_true rfl) (Nat.le_of_ble_eq_true rfl) (m_isAxis hM ?_)
    show am_W g (d + 2) mm_M_pick (6, [some (.ref (g.2.2.1 + 6)), some (.int v), some (.int x), some (.int n), none], [.int (sv_if (sv_ia T v x) 1 0)]) S _
    refine am_ifeq (tgt := 31) d_M_pick_6 (by decide) (fun hc => ?_) (fun hc => ?_)
    · refine am_iconst 0 d_M_pick_31 (by decide) ?_
      rw [sv_if_n (fun q => sv_b0 hc q.1)] at key
      exact key
    · refine am_iloadn d_M_pick_9 rfl ?_
      refine am_iflt (tgt := 31) d_M_pick_10 (by decide) (fun hd => ?_) (fun hd => ?_)
      · refine am_iconst 0 d_M_pick_31 (by decide) ?_
        rw [sv_if_n (fun q => Int32.not_lt.mpr q.2.1 hd)] at key
        exact key
      · have hia := sv_b1 hc
        obtain ⟨j, k, hj, rfl, hk, rfl⟩ := sv_ia_of hia hw
        have hx4 := (hw.2.2.2 j hj).2.1
        rw [sv_va_j hj h80, nI_clamp (by omega)] at key
        obtain ⟨v1, v2, v3, v4⟩ := t3 j hj
        refine am_iloadn d_M_pick_13 rfl ?_
        refine am_aloadn d_M_pick_14 rfl ?_
        refine am_get d_M_pick_15 fl_M_29 m0 rfl ?_
        refine am_iconst 4 d_M_pick_18 (by decide) ?_
        refine am_iloadn d_M_pick_19 rfl ?_
        refine am_imul d_M_pick_20 ?_
        refine am_iloadn d_M_pick_21 rfl ?_
        refine am_iadd d_M_pick_22 ?_
        refine am_ti (b := nI (4 * j + k)) (sv_4 j k) ?_
        refine am_ialdN (t := 0) (k := 4 * j + k) d_M_pick_23 rfl m7 (by omega) (by omega) ?_
        refine am_ti (b := nI ((T.vw j).ex k)) ((v4 k hk).1) ?_
        refine am_icge (tgt := 31) d_M_pick_24 (by decide) (fun he => ?_) (fun he => ?_)
        · refine am_iconst 0 d_M_pick_31 (by decide) ?_
          rw [sv_if_n (fun q => Int32.not_le.mpr q.2.2 he)] at key
          exact key
        · refine am_iconst 1 d_M_pick_27 (by decide) ?_
          refine am_goto (tgt := 32) d_M_pick_28 (by decide) ?_
          rw [sv_if_y (⟨hia, Int32.not_lt.mp hd, Int32.not_le.mp he⟩)] at key
          exact key
set_option maxHeartbeats 4000000 in
set_option maxRecDepth 100000 in
/-- M_turn -/
theorem e_turn {g : am_G} {d : Nat} {S : am_S} {T : sv_T} {th : Int32} {na : Nat} {ne nw rd : Nat → Int64} {mt : Nat → Int32} (hM : sv_N g S.1 T th na ne nw rd mt) {v x y : Int32} : am_W g (d + 2) mm_M_turn (0, am_ent [.ref (g.2.2.1 + 6), .int v, .int x, .int y] 4, []) S (sv_E g S (q_turn T v x y) (sv_cd 4 6 9)) := by
  obtain ⟨fl, fz, fN, fS, fa, fx, fe, fs, ⟨m0, m1, m2, m3, m4, m5, m6, m7, m8, m9, m10, m11, m12⟩, ⟨t1, t2, t3⟩, hw⟩ := id hM
  have h80 := hw.2.1
  have h12 := hw.1
  show am_W g (d + 2) mm_M_turn (0, [some (.ref (g.2.2.1 + 6)), some (.int v), some (.int x), some (.int y)], []) S _
  refine am_aloadn d_M_turn_0 rfl ?_
  refine am_cut (F := (24, [some (.ref (g.2.2.1 + 6)), some (.int v), some (.int x), some (.int y)], [.int (sv_if (sv_ia T v x ∧ sv_ia T v y) 1 0), .ref (g.2.2.1 + 6)])) ?_ (fun key => ?_)
  · skip
    refine am_cut (F := (38, [some (.ref (g.2.2.1 + 6)), some (.int v), some (.int x), some (.int y)], [.int (sv_if (T.nv < 80) 1 0), .int (sv_if (sv_ia T v x ∧ sv_ia T v y) 1 0), .ref (g.2.2.1 + 6)])) ?_ (fun key => ?_)
    · skip
      refine am_cpsV [.int (sv_if (sv_ia T v x ∧ sv_ia T v y) 1 0), .int (sv_if (T.nv < 80) 1 0)] [] d_M_turn_38 cV_M_90 rfl m0 rfl rfl (Nat.le_of_ble_eq_true rfl) (Nat.le_of_ble_eq_true rfl) (m_goesOf hM (fun b1 S1 hN1 hf1 => ?_) (fun b1 b2 S1 hN1 hf1 => ?_) (fun b1 b2 S1 hN1 hf1 => ?_))
      · show am_W g (d + 2) mm_M_turn (41, [some (.ref (g.2.2.1 + 6)), some (.int v), some (.int x), some (.int y)], [.int 0]) S1 _
        refine am_ifne (tgt := 46) d_M_turn_41 (by decide) (fun hz => ?_) (fun hz => ?_)
        · exact absurd rfl hz
        · refine am_iconst 0 d_M_turn_44 (by decide) ?_
          rw [q_turn, sv_qva2_no (sv_b0 b1)]
          exact am_iret d_M_turn_45 rfl (sv_E.no hN1 hf1 (by decide))
      · show am_W g (d + 2) mm_M_turn (41, [some (.ref (g.2.2.1 + 6)), some (.int v), some (.int x), some (.int y)], [.int 0]) S1 _
        refine am_ifne (tgt := 46) d_M_turn_41 (by decide) (fun hz => ?_) (fun hz => ?_)
        · exact absurd rfl hz
        · refine am_iconst 0 d_M_turn_44 (by decide) ?_
          rw [q_turn_6 (sv_b1 b1) hw (sv_b0 b2)]
          exact am_iret d_M_turn_45 rfl (sv_E.no hN1 hf1 (by decide))
      · skip
        show am_W g (d + 2) mm_M_turn (41, [some (.ref (g.2.2.1 + 6)), some (.int v), some (.int x), some (.int y)], [.int 1]) S1 _
        refine am_ifne (tgt := 46) d_M_turn_41 (by decide) (fun hz => ?_) (fun hz => ?_)
        · skip
          have hC := sv_b1 b1
          have hv8 := sv_b1 b2
          obtain ⟨j, k, hj, rfl, hk, rfl⟩ := sv_ia_of hC.1 hw
          obtain ⟨j2, l, hj2, hjj, hl, rfl⟩ := sv_ia_of hC.2 hw
          obtain rfl : j = j2 := (nI_eq (by omega) (by omega)).mp hjj
          obtain ⟨w1, w2, w3, w4, w5, w6, w7⟩ := hw.2.2.2 j hj
          obtain ⟨v1, v2, v3, v4⟩ := t3 j hj
          rw [q_turn, sv_qv_j hj h80, sv_qa_j hk w2, sv_qa_j hl w2]
          obtain ⟨flb, fzb, fNb, fSb, fab, fxb, feb, fsb, ⟨m0b, m1b, m2b, m3b, m4b, m5b, m6b, m7b, m8b, m9b, m10b, m11b, m12b⟩, ⟨t1b, t2b, t3b⟩, hwb⟩ := id hN1
          refine am_aloadn d_M_turn_46 rfl ?_
          refine am_iloadn d_M_turn_47 rfl ?_
          refine am_iconst (-1) d_M_turn_48 (by decide) ?_
          refine am_iconst (-1) d_M_turn_49 (by decide) ?_
          refine am_cpsV [.int (nI j), .int (-1), .int (-1)] [] d_M_turn_50 cV_M_113 rfl m0b rfl rfl (Nat.le_of_ble_eq_true rfl) (Nat.le_of_ble_eq_true rfl) (m_take hN1 hj (b1 := -1) (b2 := -1) (fun S2 Ne Nw hN2 hf2 hI2 => ?_))
          show am_W g (d + 2) mm_M_turn (53, [some (.ref (g.2.2.1 + 6)), some (.int (nI j)), some (.int (nI k)), some (.int (nI l))], []) S2 _
          have hI3 := sv_tk_none w2 hI2
          rw [sv_c2_none (by omega)] at hN2
          obtain ⟨flc, fzc, fNc, fSc, fac, fxc, fec, fsc, ⟨m0c, m1c, m2c, m3c, m4c, m5c, m6c, m7c, m8c, m9c, m10c, m11c, m12c⟩, ⟨t1c, t2c, t3c⟩, hwc⟩ := id hN2
          obtain ⟨u1, u2, u3, u4⟩ := t3c j hj
          have hf2x : sv_MF g S S2 := hf1.tr hf2
          refine am_aloadn d_M_turn_53 rfl ?_
          refine am_get d_M_turn_54 fl_M_35 m0c rfl ?_
          refine am_iloadn d_M_turn_57 rfl ?_
          refine am_aloadn d_M_turn_58 rfl ?_
          refine am_get d_M_turn_59 fl_M_29 m0c rfl ?_
          refine am_iconst 4 d_M_turn_62 (by decide) ?_
          refine am_iloadn d_M_turn_63 rfl ?_
          refine am_imul d_M_turn_64 ?_
          refine am_iloadn d_M_turn_65 rfl ?_
          refine am_iadd d_M_turn_66 ?_
          refine am_ti (b := nI (4 * j + l)) (sv_4 j l) ?_
          refine am_ialdN (t := 0) (k := 4 * j + l) d_M_turn_67 rfl m7c (by omega) (by omega) ?_
          refine am_ti (b := nI ((T.vw j).ex l)) ((u4 l hl).1) ?_
          refine am_i2l d_M_turn_68 ?_
          refine am_tl (b := lN ((T.vw j).ex l)) (nI_l (w3 l hl)) ?_
          refine am_lastN (t := 1) d_M_turn_69 rfl m9c (by omega) (by omega) ?_
          obtain ⟨S_4, eS_4⟩ : ∃ z : am_S, z = (am_up S2.1 (g.2.2.1 + 15) (.inl (1, 5, .inr (.inl (vp_updL Ne k (lN ((T.vw j).ex l)))))), S2.2) := ⟨_, rfl⟩
          change am_W _ _ _ _ (am_up S2.1 (g.2.2.1 + 15) (.inl (1, 5, .inr (.inl (vp_updL Ne k (lN ((T.vw j).ex l)))))), S2.2) _
          rw [← eS_4]
          have h_5 : S_4.1 (g.2.2.1 + 6) = some (.inr (3, [.int 0, .int (nI T.ns), .ref (g.2.2.1 + 7), .ref (g.2.2.1 + 8), .ref (g.2.2.1 + 9), .int (nI T.nv), .ref (g.2.2.1 + 10), .ref (g.2.2.1 + 11), .ref (g.2.2.1 + 12), .ref (g.2.2.1 + 13), .ref (g.2.2.1 + 14), .ref (g.2.2.1 + 15), .ref (g.2.2.1 + 16), .int (nI ((T.vw j).ax)), .ref (g.2.2.1 + 17), .ref (g.2.2.1 + 18)])) := by rw [eS_4]; exact (am_up_n (by omega)).trans m0c
          have h_6 : S_4.1 (g.2.2.1 + 7) = some (.inl (0, 12, .inl flc)) := by rw [eS_4]; exact (am_up_n (by omega)).trans m1c
          have h_7 : S_4.1 (g.2.2.1 + 8) = some (.inl (0, 12, .inl fzc)) := by rw [eS_4]; exact (am_up_n (by omega)).trans m2c
          have h_8 : S_4.1 (g.2.2.1 + 9) = some (.inl (1, 3600, .inr (.inl fNc))) := by rw [eS_4]; exact (am_up_n (by omega)).trans m3c
          have h_9 : S_4.1 (g.2.2.1 + 10) = some (.inl (0, 80, .inl fSc)) := by rw [eS_4]; exact (am_up_n (by omega)).trans m4c
          have h_10 : S_4.1 (g.2.2.1 + 11) = some (.inl (0, 80, .inl fac)) := by rw [eS_4]; exact (am_up_n (by omega)).trans m5c
          have h_11 : S_4.1 (g.2.2.1 + 12) = some (.inl (0, 80, .inl fxc)) := by rw [eS_4]; exact (am_up_n (by omega)).trans m6c
          have h_12 : S_4.1 (g.2.2.1 + 13) = some (.inl (0, 320, .inl fec)) := by rw [eS_4]; exact (am_up_n (by omega)).trans m7c
          have h_13 : S_4.1 (g.2.2.1 + 14) = some (.inl (0, 320, .inl fsc)) := by rw [eS_4]; exact (am_up_n (by omega)).trans m8c
          have h_14 : S_4.1 (g.2.2.1 + 16) = some (.inl (1, 5, .inr (.inl Nw))) := by rw [eS_4]; exact (am_up_n (by omega)).trans m10c
          have h_15 : S_4.1 (g.2.2.1 + 17) = some (.inl (1, 3000, .inr (.inl rd))) := by rw [eS_4]; exact (am_up_n (by omega)).trans m11c
          have h_16 : S_4.1 (g.2.2.1 + 18) = some (.inl (2, 300, .inl mt)) := by rw [eS_4]; exact (am_up_n (by omega)).trans m12c
          have hf_17 : sv_MF g S S_4 := by rw [eS_4]; exact hf2x.u (by omega) (by omega)
          have h_18 : S_4.1 (g.2.2.1 + 15) = some (.inl (1, 5, .inr (.inl (vp_updL Ne k (lN ((T.vw j).ex l)))))) := by rw [eS_4]; exact am_up_s
          have hnS_4 : S_4.2.1 = S2.2.1 := by rw [eS_4]
          have hzS_4 : S_4.2.2 = S2.2.2 := by rw [eS_4]
          refine am_aloadn d_M_turn_70 rfl ?_
          refine am_get d_M_turn_71 fl_M_38 h_5 rfl ?_
          refine am_iloadn d_M_turn_74 rfl ?_
          refine am_aloadn d_M_turn_75 rfl ?_
          refine am_get d_M_turn_76 fl_M_32 h_5 rfl ?_
          refine am_iconst 4 d_M_turn_79 (by decide) ?_
          refine am_iloadn d_M_turn_80 rfl ?_
          refine am_imul d_M_turn_81 ?_
          refine am_iloadn d_M_turn_82 rfl ?_
          refine am_iadd d_M_turn_83 ?_
          refine am_ti (b := nI (4 * j + l)) (sv_4 j l) ?_
          refine am_ialdN (t := 0) (k := 4 * j + l) d_M_turn_84 rfl h_13 (by omega) (by omega) ?_
          refine am_ti (b := (T.vw j).sp l) ((u4 l hl).2) ?_
          refine am_i2l d_M_turn_85 ?_
          refine am_lastN (t := 1) d_M_turn_86 rfl h_14 (by omega) (by omega) ?_
          obtain ⟨S_19, eS_19⟩ : ∃ z : am_S, z = (am_up S_4.1 (g.2.2.1 + 16) (.inl (1, 5, .inr (.inl (vp_updL Nw k (((T.vw j).sp l).toInt64))))), S_4.2) := ⟨_, rfl⟩
          change am_W _ _ _ _ (am_up S_4.1 (g.2.2.1 + 16) (.inl (1, 5, .inr (.inl (vp_updL Nw k (((T.vw j).sp l).toInt64))))), S_4.2) _
          rw [← eS_19]
          have h_20 : S_19.1 (g.2.2.1 + 6) = some (.inr (3, [.int 0, .int (nI T.ns), .ref (g.2.2.1 + 7), .ref (g.2.2.1 + 8), .ref (g.2.2.1 + 9), .int (nI T.nv), .ref (g.2.2.1 + 10), .ref (g.2.2.1 + 11), .ref (g.2.2.1 + 12), .ref (g.2.2.1 + 13), .ref (g.2.2.1 + 14), .ref (g.2.2.1 + 15), .ref (g.2.2.1 + 16), .int (nI ((T.vw j).ax)), .ref (g.2.2.1 + 17), .ref (g.2.2.1 + 18)])) := by rw [eS_19]; exact (am_up_n (by omega)).trans h_5
          have h_21 : S_19.1 (g.2.2.1 + 7) = some (.inl (0, 12, .inl flc)) := by rw [eS_19]; exact (am_up_n (by omega)).trans h_6
          have h_22 : S_19.1 (g.2.2.1 + 8) = some (.inl (0, 12, .inl fzc)) := by rw [eS_19]; exact (am_up_n (by omega)).trans h_7
          have h_23 : S_19.1 (g.2.2.1 + 9) = some (.inl (1, 3600, .inr (.inl fNc))) := by rw [eS_19]; exact (am_up_n (by omega)).trans h_8
          have h_24 : S_19.1 (g.2.2.1 + 10) = some (.inl (0, 80, .inl fSc)) := by rw [eS_19]; exact (am_up_n (by omega)).trans h_9
          have h_25 : S_19.1 (g.2.2.1 + 11) = some (.inl (0, 80, .inl fac)) := by rw [eS_19]; exact (am_up_n (by omega)).trans h_10
          have h_26 : S_19.1 (g.2.2.1 + 12) = some (.inl (0, 80, .inl fxc)) := by rw [eS_19]; exact (am_up_n (by omega)).trans h_11
          have h_27 : S_19.1 (g.2.2.1 + 13) = some (.inl (0, 320, .inl fec)) := by rw [eS_19]; exact (am_up_n (by omega)).trans h_12
          have h_28 : S_19.1 (g.2.2.1 + 14) = some (.inl (0, 320, .inl fsc)) := by rw [eS_19]; exact (am_up_n (by omega)).trans h_13
          have h_29 : S_19.1 (g.2.2.1 + 15) = some (.inl (1, 5, .inr (.inl (vp_updL Ne k (lN ((T.vw j).ex l)))))) := by rw [eS_19]; exact (am_up_n (by omega)).trans h_18
          have h_30 : S_19.1 (g.2.2.1 + 17) = some (.inl (1, 3000, .inr (.inl rd))) := by rw [eS_19]; exact (am_up_n (by omega)).trans h_15
          have h_31 : S_19.1 (g.2.2.1 + 18) = some (.inl (2, 300, .inl mt)) := by rw [eS_19]; exact (am_up_n (by omega)).trans h_16
          have hf_32 : sv_MF g S S_19 := by rw [eS_19]; exact hf_17.u (by omega) (by omega)
          have h_33 : S_19.1 (g.2.2.1 + 16) = some (.inl (1, 5, .inr (.inl (vp_updL Nw k (((T.vw j).sp l).toInt64))))) := by rw [eS_19]; exact am_up_s
          have hnS_19 : S_19.2.1 = S_4.2.1 := by rw [eS_19]
          have hzS_19 : S_19.2.2 = S_4.2.2 := by rw [eS_19]
          refine am_aloadn d_M_turn_87 rfl ?_
          refine am_get d_M_turn_88 fl_M_35 h_20 rfl ?_
          refine am_iloadn d_M_turn_91 rfl ?_
          refine am_aloadn d_M_turn_92 rfl ?_
          refine am_get d_M_turn_93 fl_M_29 h_20 rfl ?_
          refine am_iconst 4 d_M_turn_96 (by decide) ?_
          refine am_iloadn d_M_turn_97 rfl ?_
          refine am_imul d_M_turn_98 ?_
          refine am_iloadn d_M_turn_99 rfl ?_
          refine am_iadd d_M_turn_100 ?_
          refine am_ti (b := nI (4 * j + k)) (sv_4 j k) ?_
          refine am_ialdN (t := 0) (k := 4 * j + k) d_M_turn_101 rfl h_27 (by omega) (by omega) ?_
          refine am_ti (b := nI ((T.vw j).ex k)) ((u4 k hk).1) ?_
          refine am_i2l d_M_turn_102 ?_
          refine am_tl (b := lN ((T.vw j).ex k)) (nI_l (w3 k hk)) ?_
          refine am_lastN (t := 1) d_M_turn_103 rfl h_29 (by omega) (by omega) ?_
          obtain ⟨S_34, eS_34⟩ : ∃ z : am_S, z = (am_up S_19.1 (g.2.2.1 + 15) (.inl (1, 5, .inr (.inl (vp_updL (vp_updL Ne k (lN ((T.vw j).ex l))) l (lN ((T.vw j).ex k)))))), S_19.2) := ⟨_, rfl⟩
          change am_W _ _ _ _ (am_up S_19.1 (g.2.2.1 + 15) (.inl (1, 5, .inr (.inl (vp_updL (vp_updL Ne k (lN ((T.vw j).ex l))) l (lN ((T.vw j).ex k)))))), S_19.2) _
          rw [← eS_34]
          have h_35 : S_34.1 (g.2.2.1 + 6) = some (.inr (3, [.int 0, .int (nI T.ns), .ref (g.2.2.1 + 7), .ref (g.2.2.1 + 8), .ref (g.2.2.1 + 9), .int (nI T.nv), .ref (g.2.2.1 + 10), .ref (g.2.2.1 + 11), .ref (g.2.2.1 + 12), .ref (g.2.2.1 + 13), .ref (g.2.2.1 + 14), .ref (g.2.2.1 + 15), .ref (g.2.2.1 + 16), .int (nI ((T.vw j).ax)), .ref (g.2.2.1 + 17), .ref (g.2.2.1 + 18)])) := by rw [eS_34]; exact (am_up_n (by omega)).trans h_20
          have h_36 : S_34.1 (g.2.2.1 + 7) = some (.inl (0, 12, .inl flc)) := by rw [eS_34]; exact (am_up_n (by omega)).trans h_21
          have h_37 : S_34.1 (g.2.2.1 + 8) = some (.inl (0, 12, .inl fzc)) := by rw [eS_34]; exact (am_up_n (by omega)).trans h_22
          have h_38 : S_34.1 (g.2.2.1 + 9) = some (.inl (1, 3600, .inr (.inl fNc))) := by rw [eS_34]; exact (am_up_n (by omega)).trans h_23
          have h_39 : S_34.1 (g.2.2.1 + 10) = some (.inl (0, 80, .inl fSc)) := by rw [eS_34]; exact (am_up_n (by omega)).trans h_24
          have h_40 : S_34.1 (g.2.2.1 + 11) = some (.inl (0, 80, .inl fac)) := by rw [eS_34]; exact (am_up_n (by omega)).trans h_25
          have h_41 : S_34.1 (g.2.2.1 + 12) = some (.inl (0, 80, .inl fxc)) := by rw [eS_34]; exact (am_up_n (by omega)).trans h_26
          have h_42 : S_34.1 (g.2.2.1 + 13) = some (.inl (0, 320, .inl fec)) := by rw [eS_34]; exact (am_up_n (by omega)).trans h_27
          have h_43 : S_34.1 (g.2.2.1 + 14) = some (.inl (0, 320, .inl fsc)) := by rw [eS_34]; exact (am_up_n (by omega)).trans h_28
          have h_44 : S_34.1 (g.2.2.1 + 16) = some (.inl (1, 5, .inr (.inl (vp_updL Nw k (((T.vw j).sp l).toInt64))))) := by rw [eS_34]; exact (am_up_n (by omega)).trans h_33
          have h_45 : S_34.1 (g.2.2.1 + 17) = some (.inl (1, 3000, .inr (.inl rd))) := by rw [eS_34]; exact (am_up_n (by omega)).trans h_30
          have h_46 : S_34.1 (g.2.2.1 + 18) = some (.inl (2, 300, .inl mt)) := by rw [eS_34]; exact (am_up_n (by omega)).trans h_31
          have hf_47 : sv_MF g S S_34 := by rw [eS_34]; exact hf_32.u (by omega) (by omega)
          have h_48 : S_34.1 (g.2.2.1 + 15) = some (.inl (1, 5, .inr (.inl (vp_updL (vp_updL Ne k (lN ((T.vw j).ex l))) l (lN ((T.vw j).ex k)))))) := by rw [eS_34]; exact am_up_s
          have hnS_34 : S_34.2.1 = S_19.2.1 := by rw [eS_34]
          have hzS_34 : S_34.2.2 = S_19.2.2 := by rw [eS_34]
          refine am_aloadn d_M_turn_104 rfl ?_
          refine am_get d_M_turn_105 fl_M_38 h_35 rfl ?_
          refine am_iloadn d_M_turn_108 rfl ?_
          refine am_aloadn d_M_turn_109 rfl ?_
          refine am_get d_M_turn_110 fl_M_32 h_35 rfl ?_
          refine am_iconst 4 d_M_turn_113 (by decide) ?_
          refine am_iloadn d_M_turn_114 rfl ?_
          refine am_imul d_M_turn_115 ?_
          refine am_iloadn d_M_turn_116 rfl ?_
          refine am_iadd d_M_turn_117 ?_
          refine am_ti (b := nI (4 * j + k)) (sv_4 j k) ?_
          refine am_ialdN (t := 0) (k := 4 * j + k) d_M_turn_118 rfl h_43 (by omega) (by omega) ?_
          refine am_ti (b := (T.vw j).sp k) ((u4 k hk).2) ?_
          refine am_i2l d_M_turn_119 ?_
          refine am_lastN (t := 1) d_M_turn_120 rfl h_44 (by omega) (by omega) ?_
          obtain ⟨S_49, eS_49⟩ : ∃ z : am_S, z = (am_up S_34.1 (g.2.2.1 + 16) (.inl (1, 5, .inr (.inl (vp_updL (vp_updL Nw k (((T.vw j).sp l).toInt64)) l (((T.vw j).sp k).toInt64))))), S_34.2) := ⟨_, rfl⟩
          change am_W _ _ _ _ (am_up S_34.1 (g.2.2.1 + 16) (.inl (1, 5, .inr (.inl (vp_updL (vp_updL Nw k (((T.vw j).sp l).toInt64)) l (((T.vw j).sp k).toInt64))))), S_34.2) _
          rw [← eS_49]
          have h_50 : S_49.1 (g.2.2.1 + 6) = some (.inr (3, [.int 0, .int (nI T.ns), .ref (g.2.2.1 + 7), .ref (g.2.2.1 + 8), .ref (g.2.2.1 + 9), .int (nI T.nv), .ref (g.2.2.1 + 10), .ref (g.2.2.1 + 11), .ref (g.2.2.1 + 12), .ref (g.2.2.1 + 13), .ref (g.2.2.1 + 14), .ref (g.2.2.1 + 15), .ref (g.2.2.1 + 16), .int (nI ((T.vw j).ax)), .ref (g.2.2.1 + 17), .ref (g.2.2.1 + 18)])) := by rw [eS_49]; exact (am_up_n (by omega)).trans h_35
          have h_51 : S_49.1 (g.2.2.1 + 7) = some (.inl (0, 12, .inl flc)) := by rw [eS_49]; exact (am_up_n (by omega)).trans h_36
          have h_52 : S_49.1 (g.2.2.1 + 8) = some (.inl (0, 12, .inl fzc)) := by rw [eS_49]; exact (am_up_n (by omega)).trans h_37
          have h_53 : S_49.1 (g.2.2.1 + 9) = some (.inl (1, 3600, .inr (.inl fNc))) := by rw [eS_49]; exact (am_up_n (by omega)).trans h_38
          have h_54 : S_49.1 (g.2.2.1 + 10) = some (.inl (0, 80, .inl fSc)) := by rw [eS_49]; exact (am_up_n (by omega)).trans h_39
          have h_55 : S_49.1 (g.2.2.1 + 11) = some (.inl (0, 80, .inl fac)) := by rw [eS_49]; exact (am_up_n (by omega)).trans h_40
          have h_56 : S_49.1 (g.2.2.1 + 12) = some (.inl (0, 80, .inl fxc)) := by rw [eS_49]; exact (am_up_n (by omega)).trans h_41
          have h_57 : S_49.1 (g.2.2.1 + 13) = some (.inl (0, 320, .inl fec)) := by rw [eS_49]; exact (am_up_n (by omega)).trans h_42
          have h_58 : S_49.1 (g.2.2.1 + 14) = some (.inl (0, 320, .inl fsc)) := by rw [eS_49]; exact (am_up_n (by omega)).trans h_43
          have h_59 : S_49.1 (g.2.2.1 + 15) = some (.inl (1, 5, .inr (.inl (vp_updL (vp_updL Ne k (lN ((T.vw j).ex l))) l (lN ((T.vw j).ex k)))))) := by rw [eS_49]; exact (am_up_n (by omega)).trans h_48
          have h_60 : S_49.1 (g.2.2.1 + 17) = some (.inl (1, 3000, .inr (.inl rd))) := by rw [eS_49]; exact (am_up_n (by omega)).trans h_45
          have h_61 : S_49.1 (g.2.2.1 + 18) = some (.inl (2, 300, .inl mt)) := by rw [eS_49]; exact (am_up_n (by omega)).trans h_46
          have hf_62 : sv_MF g S S_49 := by rw [eS_49]; exact hf_47.u (by omega) (by omega)
          have h_63 : S_49.1 (g.2.2.1 + 16) = some (.inl (1, 5, .inr (.inl (vp_updL (vp_updL Nw k (((T.vw j).sp l).toInt64)) l (((T.vw j).sp k).toInt64))))) := by rw [eS_49]; exact am_up_s
          have hnS_49 : S_49.2.1 = S_34.2.1 := by rw [eS_49]
          have hzS_49 : S_49.2.2 = S_34.2.2 := by rw [eS_49]
          have hN3 : sv_N g S_49.1 T 0 ((T.vw j).ax) (vp_updL (vp_updL Ne k (lN ((T.vw j).ex l))) l (lN ((T.vw j).ex k))) (vp_updL (vp_updL Nw k ((T.vw j).sp l).toInt64) l ((T.vw j).sp k).toInt64) rd mt := ⟨flc, fzc, fNc, fSc, fac, fxc, fec, fsc, ⟨h_50, h_51, h_52, h_53, h_54, h_55, h_56, h_57, h_58, h_59, h_63, h_60, h_61⟩, ⟨t1c, t2c, t3c⟩, hwc⟩
          refine am_aloadn d_M_turn_121 rfl ?_
          refine am_aloadn d_M_turn_122 rfl ?_
          refine am_get d_M_turn_123 fl_M_20 h_50 rfl ?_
          refine am_iloadn d_M_turn_126 rfl ?_
          refine am_ialdN (t := 0) (k := j) d_M_turn_127 rfl h_54 (by omega) (by omega) ?_
          refine am_ti (b := nI (T.vw j).st) u1 ?_
          refine am_aloadn d_M_turn_128 rfl ?_
          refine am_get d_M_turn_129 fl_M_23 h_50 rfl ?_
          refine am_iloadn d_M_turn_132 rfl ?_
          refine am_ialdN (t := 0) (k := j) d_M_turn_133 rfl h_55 (by omega) (by omega) ?_
          refine am_ti (b := (T.vw j).sa) u2 ?_
          refine am_i2l d_M_turn_134 ?_
          have hEn : ∀ i, i < (T.vw j).ax → (vp_updL (vp_updL Ne k (lN ((T.vw j).ex l))) l (lN ((T.vw j).ex k))) i = lN (if i = l then (T.vw j).ex k else if i = k then (T.vw j).ex l else (T.vw j).ex i) := fun i hi => by
            by_cases e : i = l
            · rw [if_pos e, e, pk_uLs]
            · rw [if_neg e, pk_uLn e]
              by_cases e2 : i = k
              · rw [if_pos e2, e2, pk_uLs]
              · rw [if_neg e2, pk_uLn e2]; exact (hI3 i hi).1
          have hSn : ∀ i, i < (T.vw j).ax → ((vp_updL (vp_updL Nw k ((T.vw j).sp l).toInt64) l ((T.vw j).sp k).toInt64) i).toInt32 = (if i = l then (T.vw j).sp k else if i = k then (T.vw j).sp l else (T.vw j).sp i) := fun i hi => by
            by_cases e : i = l
            · rw [if_pos e, e, pk_uLs]; exact sv_li2 _
            · rw [if_neg e, pk_uLn e]
              by_cases e2 : i = k
              · rw [if_pos e2, e2, pk_uLs]; exact sv_li2 _
              · rw [if_neg e2, pk_uLn e2, (hI3 i hi).2]; exact sv_li2 _
          have hOn : sv_ok (fun i => if i = l then (T.vw j).ex k else if i = k then (T.vw j).ex l else (T.vw j).ex i) (T.vw j).ax := fun i hi => by
            show (if i = l then _ else if i = k then _ else _) < _
            split
            · exact w3 k hk
            · split
              · exact w3 l hl
              · exact w3 i hi
          refine am_cpsV [.int (nI (T.vw j).st), .long (((T.vw j).sa).toInt64)] [] d_M_turn_135 cV_M_101 rfl h_50 rfl rfl (Nat.le_of_ble_eq_true rfl) (Nat.le_of_ble_eq_true rfl) (m_add hN3 (a := ((T.vw j).st, (T.vw j).sa, (T.vw j).ax, fun i => if i = l then (T.vw j).ex k else if i = k then (T.vw j).ex l else (T.vw j).ex i, fun i => if i = l then (T.vw j).sp k else if i = k then (T.vw j).sp l else (T.vw j).sp i)) rfl w2 hEn hSn hOn (show sv_pr _ (T.vw j).ax ≤ 3000 by rw [sv_pr_swap hk hl]; exact w4) w1 (sv_in_turn w7 hk hl) hv8 (sv_li2 _) (fun S9 hN9 hf9 => ?_))
          show am_W g (d + 2) mm_M_turn (138, [some (.ref (g.2.2.1 + 6)), some (.int (nI j)), some (.int (nI k)), some (.int (nI l))], [.int (nI T.nv)]) S9 _
          rw [sv_kp, if_pos ⟨hv8, (show sv_pr _ (T.vw j).ax ≤ 3000 by rw [sv_pr_swap hk hl]; exact w4)⟩]
          exact am_iret d_M_turn_138 rfl (sv_E.ok hN9 ((hf_62).tr hf9))
        · exact absurd hz (by decide)
    · refine am_aloadn d_M_turn_24 rfl ?_
      refine am_get d_M_turn_25 fl_M_52 m0 rfl ?_
      refine am_bipush 80 d_M_turn_28 (by decide) ?_
      refine am_icge (tgt := 37) d_M_turn_30 (by decide) (fun hb_3 => ?_) (fun hb_3 => ?_)
      · refine am_iconst 0 d_M_turn_37 (by decide) ?_
        rw [sv_if_n (c := T.nv < 80) (fun q => nI_ge (b := 80) q (by decide) hb_3)] at key
        exact key
      · refine am_iconst 1 d_M_turn_33 (by decide) ?_
        refine am_goto (tgt := 38) d_M_turn_34 (by decide) ?_
        rw [sv_if_y (c := T.nv < 80) (Nat.lt_of_not_le (fun z => hb_3 (nI_le (a := 80) z (by omega))))] at key
        exact key
  · refine am_aloadn d_M_turn_1 rfl ?_
    refine am_iloadn d_M_turn_2 rfl ?_
    refine am_iloadn d_M_turn_3 rfl ?_
    refine am_cpsV [.int v, .int x] [.ref (g.2.2.1 + 6)] d_M_turn_4 cV_M_105 rfl m0 rfl rfl (Nat.le_of_ble_eq_true rfl) (Nat.le_of_ble_eq_true rfl) (m_isAxis hM ?_)
    show am_W g (d + 2) mm_M_turn (7, [some (.ref (g.2.2.1 + 6)), some (.int v), some (.int x), some (.int y)], [.int (sv_if (sv_ia T v x) 1 0), .ref (g.2.2.1 + 6)]) S _
    refine am_ifeq (tgt := 23) d_M_turn_7 (by decide) (fun hb_1 => ?_) (fun hb_1 => ?_)
    · refine am_iconst 0 d_M_turn_23 (by decide) ?_
      rw [sv_if_n (c := sv_ia T v x ∧ sv_ia T v y) (fun q => sv_b0 hb_1 q.1)] at key
      exact key
    · refine am_aloadn d_M_turn_10 rfl ?_
      refine am_iloadn d_M_turn_11 rfl ?_
      refine am_iloadn d_M_turn_12 rfl ?_
      refine am_cpsV [.int v, .int y] [.ref (g.2.2.1 + 6)] d_M_turn_13 cV_M_105 rfl m0 rfl rfl (Nat.le_of_ble_eq_true rfl) (Nat.le_of_ble_eq_true rfl) (m_isAxis hM ?_)
      show am_W g (d + 2) mm_M_turn (16, [some (.ref (g.2.2.1 + 6)), some (.int v), some (.int x), some (.int y)], [.int (sv_if (sv_ia T v y) 1 0), .ref (g.2.2.1 + 6)]) S _
      refine am_ifeq (tgt := 23) d_M_turn_16 (by decide) (fun hb_2 => ?_) (fun hb_2 => ?_)
      · refine am_iconst 0 d_M_turn_23 (by decide) ?_
        rw [sv_if_n (c := sv_ia T v x ∧ sv_ia T v y) (fun q => sv_b0 hb_2 q.2)] at key
        exact key
      · refine am_iconst 1 d_M_turn_19 (by decide) ?_
        refine am_goto (tgt := 24) d_M_turn_20 (by decide) ?_
        rw [sv_if_y (c := sv_ia T v x ∧ sv_ia T v y) ⟨sv_b1 hb_1, sv_b1 hb_2⟩] at key
        exact key
set_option maxHeartbeats 4000000 in
set_option maxRecDepth 100000 in
/-- M_diagonal -/
theorem e_diagonal {g : am_G} {d : Nat} {S : am_S} {T : sv_T} {th : Int32} {na : Nat} {ne nw rd : Nat → Int64} {mt : Nat → Int32} (hM : sv_N g S.1 T th na ne nw rd mt) {v x y : Int32} : am_W g (d + 2) mm_M_diagonal (0, am_ent [.ref (g.2.2.1 + 6), .int v, .int x, .int y] 6, []) S (sv_E g S (q_diagonal T v x y) (sv_cd 4 5 6)) := by
  obtain ⟨fl, fz, fN, fS, fa, fx, fe, fs, ⟨m0, m1, m2, m3, m4, m5, m6, m7, m8, m9, m10, m11, m12⟩, ⟨t1, t2, t3⟩, hw⟩ := id hM
  have h80 := hw.2.1
  have h12 := hw.1
  show am_W g (d + 2) mm_M_diagonal (0, [some (.ref (g.2.2.1 + 6)), some (.int v), some (.int x), some (.int y), none, none], []) S _
  refine am_aloadn d_M_diagonal_0 rfl ?_
  refine am_cut (F := (24, [some (.ref (g.2.2.1 + 6)), some (.int v), some (.int x), some (.int y), none, none], [.int (sv_if (sv_ia T v x ∧ sv_ia T v y) 1 0), .ref (g.2.2.1 + 6)])) ?_ (fun key => ?_)
  · skip
    refine am_cut (F := (34, [some (.ref (g.2.2.1 + 6)), some (.int v), some (.int x), some (.int y), none, none], [.int (sv_if (¬ x = y) 1 0), .int (sv_if (sv_ia T v x ∧ sv_ia T v y) 1 0), .ref (g.2.2.1 + 6)])) ?_ (fun key => ?_)
    · skip
      refine am_cut (F := (48, [some (.ref (g.2.2.1 + 6)), some (.int v), some (.int x), some (.int y), none, none], [.int (sv_if (T.nv < 80) 1 0), .int (sv_if (¬ x = y) 1 0), .int (sv_if (sv_ia T v x ∧ sv_ia T v y) 1 0), .ref (g.2.2.1 + 6)])) ?_ (fun key => ?_)
      · skip
        refine am_cpsV [.int (sv_if (sv_ia T v x ∧ sv_ia T v y) 1 0), .int (sv_if (¬ x = y) 1 0), .int (sv_if (T.nv < 80) 1 0)] [] d_M_diagonal_48 cV_M_109 rfl m0 rfl rfl (Nat.le_of_ble_eq_true rfl) (Nat.le_of_ble_eq_true rfl) (m_goes hM (fun b1 S1 hN1 hf1 => ?_) (fun b1 b2 S1 hN1 hf1 => ?_) (fun b1 b2 b3 S1 hN1 hf1 => ?_) (fun b1 b2 b3 S1 hN1 hf1 => ?_))
        · show am_W g (d + 2) mm_M_diagonal (51, [some (.ref (g.2.2.1 + 6)), some (.int v), some (.int x), some (.int y), none, none], [.int 0]) S1 _
          refine am_ifne (tgt := 56) d_M_diagonal_51 (by decide) (fun hz => ?_) (fun hz => ?_)
          · exact absurd rfl hz
          · refine am_iconst 0 d_M_diagonal_54 (by decide) ?_
            rw [q_diagonal, sv_qva2_no (sv_b0 b1)]
            exact am_iret d_M_diagonal_55 rfl (sv_E.no hN1 hf1 (by decide))
        · show am_W g (d + 2) mm_M_diagonal (51, [some (.ref (g.2.2.1 + 6)), some (.int v), some (.int x), some (.int y), none, none], [.int 0]) S1 _
          refine am_ifne (tgt := 56) d_M_diagonal_51 (by decide) (fun hz => ?_) (fun hz => ?_)
          · exact absurd rfl hz
          · refine am_iconst 0 d_M_diagonal_54 (by decide) ?_
            rw [q_diag_5 (sv_b1 b1) (Classical.byContradiction (fun z => sv_b0 b2 z))]
            exact am_iret d_M_diagonal_55 rfl (sv_E.no hN1 hf1 (by decide))
        · show am_W g (d + 2) mm_M_diagonal (51, [some (.ref (g.2.2.1 + 6)), some (.int v), some (.int x), some (.int y), none, none], [.int 0]) S1 _
          refine am_ifne (tgt := 56) d_M_diagonal_51 (by decide) (fun hz => ?_) (fun hz => ?_)
          · exact absurd rfl hz
          · refine am_iconst 0 d_M_diagonal_54 (by decide) ?_
            rw [q_diag_6 (sv_b1 b1) (sv_b1 b2) (sv_b0 b3)]
            exact am_iret d_M_diagonal_55 rfl (sv_E.no hN1 hf1 (by decide))
        · skip
          show am_W g (d + 2) mm_M_diagonal (51, [some (.ref (g.2.2.1 + 6)), some (.int v), some (.int x), some (.int y), none, none], [.int 1]) S1 _
          refine am_ifne (tgt := 56) d_M_diagonal_51 (by decide) (fun hz => ?_) (fun hz => ?_)
          · skip
            have hC := sv_b1 b1
            have hne := sv_b1 b2
            have hv8 := sv_b1 b3
            obtain ⟨j, k, hj, rfl, hk, rfl⟩ := sv_ia_of hC.1 hw
            obtain ⟨j2, l, hj2, hjj, hl, rfl⟩ := sv_ia_of hC.2 hw
            obtain rfl : j = j2 := (nI_eq (by omega) (by omega)).mp hjj
            obtain ⟨w1, w2, w3, w4, w5, w6, w7⟩ := hw.2.2.2 j hj
            obtain ⟨v1, v2, v3, v4⟩ := t3 j hj
            have hkl : k ≠ l := fun z => hne (by rw [z])
            rw [q_diagonal, sv_qv_j hj h80, sv_qa_j hk w2, sv_qa_j hl w2, if_neg hne]
            have hOk := w3 k hk
            have hOl := w3 l hl
            obtain ⟨flb, fzb, fNb, fSb, fab, fxb, feb, fsb, ⟨m0b, m1b, m2b, m3b, m4b, m5b, m6b, m7b, m8b, m9b, m10b, m11b, m12b⟩, ⟨t1b, t2b, t3b⟩, hwb⟩ := id hN1
            obtain ⟨u1, u2, u3, u4⟩ := t3b j hj
            refine am_aloadn d_M_diagonal_56 rfl ?_
            refine am_get d_M_diagonal_57 fl_M_29 m0b rfl ?_
            refine am_iconst 4 d_M_diagonal_60 (by decide) ?_
            refine am_iloadn d_M_diagonal_61 rfl ?_
            refine am_imul d_M_diagonal_62 ?_
            refine am_iloadn d_M_diagonal_63 rfl ?_
            refine am_iadd d_M_diagonal_64 ?_
            refine am_ti (b := nI (4 * j + k)) (sv_4 j k) ?_
            refine am_ialdN (t := 0) (k := 4 * j + k) d_M_diagonal_65 rfl m7b (by omega) (by omega) ?_
            refine am_ti (b := nI ((T.vw j).ex k)) ((u4 k hk).1) ?_
            refine am_istore (L' := [some (.ref (g.2.2.1 + 6)), some (.int (nI j)), some (.int (nI k)), some (.int (nI l)), some (.int (nI ((T.vw j).ex k))), none]) d_M_diagonal_66 (by decide) rfl rfl ?_
            refine am_aloadn d_M_diagonal_68 rfl ?_
            refine am_get d_M_diagonal_69 fl_M_29 m0b rfl ?_
            refine am_iconst 4 d_M_diagonal_72 (by decide) ?_
            refine am_iloadn d_M_diagonal_73 rfl ?_
            refine am_imul d_M_diagonal_74 ?_
            refine am_iloadn d_M_diagonal_75 rfl ?_
            refine am_iadd d_M_diagonal_76 ?_
            refine am_ti (b := nI (4 * j + l)) (sv_4 j l) ?_
            refine am_ialdN (t := 0) (k := 4 * j + l) d_M_diagonal_77 rfl m7b (by omega) (by omega) ?_
            refine am_ti (b := nI ((T.vw j).ex l)) ((u4 l hl).1) ?_
            refine am_istore (L' := [some (.ref (g.2.2.1 + 6)), some (.int (nI j)), some (.int (nI k)), some (.int (nI l)), some (.int (nI ((T.vw j).ex k))), some (.int (nI ((T.vw j).ex l)))]) d_M_diagonal_78 (by decide) rfl rfl ?_
            refine am_aloadn d_M_diagonal_80 rfl ?_
            refine am_iloadn d_M_diagonal_81 rfl ?_
            refine am_iloadn d_M_diagonal_82 rfl ?_
            refine am_iloadn d_M_diagonal_83 rfl ?_
            refine am_cpsV [.int (nI j), .int (nI k), .int (nI l)] [] d_M_diagonal_84 cV_M_113 rfl m0b rfl rfl (Nat.le_of_ble_eq_true rfl) (Nat.le_of_ble_eq_true rfl) (m_take hN1 hj (b1 := nI k) (b2 := nI l) (fun S2 Ne Nw hN2 hf2 hI2 => ?_))
            show am_W g (d + 2) mm_M_diagonal (87, [some (.ref (g.2.2.1 + 6)), some (.int (nI j)), some (.int (nI k)), some (.int (nI l)), some (.int (nI ((T.vw j).ex k))), some (.int (nI ((T.vw j).ex l)))], []) S2 _
            have hI3 := sv_tk_two hk hl hkl w2 hI2
            have hc2 : sv_c2 (nI k) (nI l) (T.vw j).ax = (T.vw j).ax - 2 := by rw [sv_c2_two (by omega) (by omega) hkl (by omega), if_pos hk, if_pos hl]; omega
            rw [hc2] at hN2
            obtain ⟨flc, fzc, fNc, fSc, fac, fxc, fec, fsc, ⟨m0c, m1c, m2c, m3c, m4c, m5c, m6c, m7c, m8c, m9c, m10c, m11c, m12c⟩, ⟨t1c, t2c, t3c⟩, hwc⟩ := id hN2
            obtain ⟨u1c, u2c, u3c, u4c⟩ := t3c j hj
            clear u1 u2 u3 u4
            have u4 := u4c
            refine am_aloadn d_M_diagonal_87 rfl ?_
            refine am_iload d_M_diagonal_88 rfl ?_
            refine am_iload d_M_diagonal_90 rfl ?_
            refine am_cut (F := (104, [some (.ref (g.2.2.1 + 6)), some (.int (nI j)), some (.int (nI k)), some (.int (nI l)), some (.int (nI ((T.vw j).ex k))), some (.int (nI ((T.vw j).ex l)))], [.long (lN (min ((T.vw j).ex k) ((T.vw j).ex l))), .ref (g.2.2.1 + 6)])) ?_ (fun key => ?_)
            · skip
              refine am_aloadn d_M_diagonal_104 rfl ?_
              refine am_get d_M_diagonal_105 fl_M_32 m0c rfl ?_
              refine am_iconst 4 d_M_diagonal_108 (by decide) ?_
              refine am_iloadn d_M_diagonal_109 rfl ?_
              refine am_imul d_M_diagonal_110 ?_
              refine am_iloadn d_M_diagonal_111 rfl ?_
              refine am_iadd d_M_diagonal_112 ?_
              refine am_ti (b := nI (4 * j + k)) (sv_4 j k) ?_
              refine am_ialdN (t := 0) (k := 4 * j + k) d_M_diagonal_113 rfl m8c (by omega) (by omega) ?_
              refine am_ti (b := (T.vw j).sp k) ((u4 k hk).2) ?_
              refine am_i2l d_M_diagonal_114 ?_
              refine am_aloadn d_M_diagonal_115 rfl ?_
              refine am_get d_M_diagonal_116 fl_M_32 m0c rfl ?_
              refine am_iconst 4 d_M_diagonal_119 (by decide) ?_
              refine am_iloadn d_M_diagonal_120 rfl ?_
              refine am_imul d_M_diagonal_121 ?_
              refine am_iloadn d_M_diagonal_122 rfl ?_
              refine am_iadd d_M_diagonal_123 ?_
              refine am_ti (b := nI (4 * j + l)) (sv_4 j l) ?_
              refine am_ialdN (t := 0) (k := 4 * j + l) d_M_diagonal_124 rfl m8c (by omega) (by omega) ?_
              refine am_ti (b := (T.vw j).sp l) ((u4 l hl).2) ?_
              refine am_i2l d_M_diagonal_125 ?_
              refine am_ladd d_M_diagonal_126 ?_
              refine am_cpsV [.long (lN (min ((T.vw j).ex k) ((T.vw j).ex l))), .long ((((T.vw j).sp k).toInt64) + (((T.vw j).sp l).toInt64))] [] d_M_diagonal_127 cV_M_94 rfl m0c rfl rfl (Nat.le_of_ble_eq_true rfl) (Nat.le_of_ble_eq_true rfl) (m_more hN2 (by omega) (fun S3 hN3 hf3 => ?_))
              show am_W g (d + 2) mm_M_diagonal (130, [some (.ref (g.2.2.1 + 6)), some (.int (nI j)), some (.int (nI k)), some (.int (nI l)), some (.int (nI ((T.vw j).ex k))), some (.int (nI ((T.vw j).ex l)))], []) S3 _
              obtain ⟨fle, fze, fNe, fSe, fae, fxe, fee, fse, ⟨m0e, m1e, m2e, m3e, m4e, m5e, m6e, m7e, m8e, m9e, m10e, m11e, m12e⟩, ⟨t1e, t2e, t3e⟩, hwe⟩ := id hN3
              obtain ⟨u1e, u2e, u3e, u4e⟩ := t3e j hj
              refine am_aloadn d_M_diagonal_130 rfl ?_
              refine am_aloadn d_M_diagonal_131 rfl ?_
              refine am_get d_M_diagonal_132 fl_M_20 m0e rfl ?_
              refine am_iloadn d_M_diagonal_135 rfl ?_
              refine am_ialdN (t := 0) (k := j) d_M_diagonal_136 rfl m4e (by omega) (by omega) ?_
              refine am_ti (b := nI (T.vw j).st) u1e ?_
              refine am_aloadn d_M_diagonal_137 rfl ?_
              refine am_get d_M_diagonal_138 fl_M_23 m0e rfl ?_
              refine am_iloadn d_M_diagonal_141 rfl ?_
              refine am_ialdN (t := 0) (k := j) d_M_diagonal_142 rfl m5e (by omega) (by omega) ?_
              refine am_ti (b := (T.vw j).sa) u2e ?_
              refine am_i2l d_M_diagonal_143 ?_
              have hEn : ∀ i, i < (T.vw j).ax - 1 → (vp_updL Ne ((T.vw j).ax - 2) (lN (min ((T.vw j).ex k) ((T.vw j).ex l)))) i = lN (sv_ins (sv_rem (sv_rem (T.vw j).ex (max k l)) (min k l)) ((T.vw j).ax - 2) (min ((T.vw j).ex k) ((T.vw j).ex l)) i) := fun i hi => by
                simp only [sv_ins]
                by_cases e : i = (T.vw j).ax - 2
                · rw [if_neg (by omega), if_pos e, e, pk_uLs]
                · rw [if_pos (by omega), pk_uLn e]; exact (hI3 i (by omega)).1
              have hSn : ∀ i, i < (T.vw j).ax - 1 → ((vp_updL Nw ((T.vw j).ax - 2) (((T.vw j).sp k).toInt64 + ((T.vw j).sp l).toInt64)) i).toInt32 = sv_ins (sv_rem (sv_rem (T.vw j).sp (max k l)) (min k l)) ((T.vw j).ax - 2) ((T.vw j).sp k + (T.vw j).sp l) i := fun i hi => by
                simp only [sv_ins]
                by_cases e : i = (T.vw j).ax - 2
                · rw [if_neg (by omega), if_pos e, e, pk_uLs]; exact sv_li3 _ _
                · rw [if_pos (by omega), pk_uLn e, (hI3 i (by omega)).2]; exact sv_li2 _
              have hOn : sv_ok (sv_ins (sv_rem (sv_rem (T.vw j).ex (max k l)) (min k l)) ((T.vw j).ax - 2) (min ((T.vw j).ex k) ((T.vw j).ex l))) ((T.vw j).ax - 1) := fun i hi => by
                simp only [sv_ins, sv_rem]; split
                · split <;> split <;> exact w3 _ (by omega)
                · split
                  · omega
                  · omega
              refine am_cpsV [.int (nI (T.vw j).st), .long (((T.vw j).sa).toInt64)] [] d_M_diagonal_144 cV_M_101 rfl m0e rfl rfl (Nat.le_of_ble_eq_true rfl) (Nat.le_of_ble_eq_true rfl) (m_add hN3 (a := ((T.vw j).st, (T.vw j).sa, (T.vw j).ax - 1, sv_ins (sv_rem (sv_rem (T.vw j).ex (max k l)) (min k l)) ((T.vw j).ax - 2) (min ((T.vw j).ex k) ((T.vw j).ex l)), sv_ins (sv_rem (sv_rem (T.vw j).sp (max k l)) (min k l)) ((T.vw j).ax - 2) ((T.vw j).sp k + (T.vw j).sp l))) (show (T.vw j).ax - 1 = (T.vw j).ax - 2 + 1 by omega) (show (T.vw j).ax - 1 ≤ 4 by omega) hEn hSn hOn (sv_pr_diag hk hl hkl w4) w1 (sv_in_diag w7 hk hl hkl) hv8 (sv_li2 _) (fun S9 hN9 hf9 => ?_))
              show am_W g (d + 2) mm_M_diagonal (147, [some (.ref (g.2.2.1 + 6)), some (.int (nI j)), some (.int (nI k)), some (.int (nI l)), some (.int (nI ((T.vw j).ex k))), some (.int (nI ((T.vw j).ex l)))], [.int (nI T.nv)]) S9 _
              rw [sv_kp, if_pos ⟨hv8, (sv_pr_diag hk hl hkl w4)⟩]
              exact am_iret d_M_diagonal_147 rfl (sv_E.ok hN9 (((hf1.tr hf2).tr hf3).tr hf9))
            · refine am_icge (tgt := 101) d_M_diagonal_92 (by decide) (fun hz => ?_) (fun hz => ?_)
              · refine am_iload d_M_diagonal_101 rfl ?_
                refine am_i2l d_M_diagonal_103 ?_
                have e : min ((T.vw j).ex k) ((T.vw j).ex l) = (T.vw j).ex l := Nat.min_eq_right ((nI_leI hOl hOk).mp hz)
                refine am_tl (b := lN (min ((T.vw j).ex k) ((T.vw j).ex l))) ((nI_l hOl).trans (by rw [e])) ?_
                exact key
              · refine am_iload d_M_diagonal_95 rfl ?_
                refine am_i2l d_M_diagonal_97 ?_
                refine am_goto (tgt := 104) d_M_diagonal_98 (by decide) ?_
                have e : min ((T.vw j).ex k) ((T.vw j).ex l) = (T.vw j).ex k := Nat.min_eq_left (Nat.le_of_lt (Nat.lt_of_not_le (fun z => hz (nI_le z hOk))))
                refine am_tl (b := lN (min ((T.vw j).ex k) ((T.vw j).ex l))) ((nI_l hOk).trans (by rw [e])) ?_
                exact key
          · exact absurd hz (by decide)
      · refine am_aloadn d_M_diagonal_34 rfl ?_
        refine am_get d_M_diagonal_35 fl_M_52 m0 rfl ?_
        refine am_bipush 80 d_M_diagonal_38 (by decide) ?_
        refine am_icge (tgt := 47) d_M_diagonal_40 (by decide) (fun hb_4 => ?_) (fun hb_4 => ?_)
        · refine am_iconst 0 d_M_diagonal_47 (by decide) ?_
          rw [sv_if_n (c := T.nv < 80) (fun q => nI_ge (b := 80) q (by decide) hb_4)] at key
          exact key
        · refine am_iconst 1 d_M_diagonal_43 (by decide) ?_
          refine am_goto (tgt := 48) d_M_diagonal_44 (by decide) ?_
          rw [sv_if_y (c := T.nv < 80) (Nat.lt_of_not_le (fun z => hb_4 (nI_le (a := 80) z (by omega))))] at key
          exact key
    · refine am_iloadn d_M_diagonal_24 rfl ?_
      refine am_iloadn d_M_diagonal_25 rfl ?_
      refine am_iceq (tgt := 33) d_M_diagonal_26 (by decide) (fun hb_3 => ?_) (fun hb_3 => ?_)
      · refine am_iconst 0 d_M_diagonal_33 (by decide) ?_
        rw [sv_if_n (c := ¬ x = y) (fun q => q hb_3)] at key
        exact key
      · refine am_iconst 1 d_M_diagonal_29 (by decide) ?_
        refine am_goto (tgt := 34) d_M_diagonal_30 (by decide) ?_
        rw [sv_if_y (c := ¬ x = y) (hb_3)] at key
        exact key
  · refine am_aloadn d_M_diagonal_1 rfl ?_
    refine am_iloadn d_M_diagonal_2 rfl ?_
    refine am_iloadn d_M_diagonal_3 rfl ?_
    refine am_cpsV [.int v, .int x] [.ref (g.2.2.1 + 6)] d_M_diagonal_4 cV_M_105 rfl m0 rfl rfl (Nat.le_of_ble_eq_true rfl) (Nat.le_of_ble_eq_true rfl) (m_isAxis hM ?_)
    show am_W g (d + 2) mm_M_diagonal (7, [some (.ref (g.2.2.1 + 6)), some (.int v), some (.int x), some (.int y), none, none], [.int (sv_if (sv_ia T v x) 1 0), .ref (g.2.2.1 + 6)]) S _
    refine am_ifeq (tgt := 23) d_M_diagonal_7 (by decide) (fun hb_1 => ?_) (fun hb_1 => ?_)
    · refine am_iconst 0 d_M_diagonal_23 (by decide) ?_
      rw [sv_if_n (c := sv_ia T v x ∧ sv_ia T v y) (fun q => sv_b0 hb_1 q.1)] at key
      exact key
    · refine am_aloadn d_M_diagonal_10 rfl ?_
      refine am_iloadn d_M_diagonal_11 rfl ?_
      refine am_iloadn d_M_diagonal_12 rfl ?_
      refine am_cpsV [.int v, .int y] [.ref (g.2.2.1 + 6)] d_M_diagonal_13 cV_M_105 rfl m0 rfl rfl (Nat.le_of_ble_eq_true rfl) (Nat.le_of_ble_eq_true rfl) (m_isAxis hM ?_)
      show am_W g (d + 2) mm_M_diagonal (16, [some (.ref (g.2.2.1 + 6)), some (.int v), some (.int x), some (.int y), none, none], [.int (sv_if (sv_ia T v y) 1 0), .ref (g.2.2.1 + 6)]) S _
      refine am_ifeq (tgt := 23) d_M_diagonal_16 (by decide) (fun hb_2 => ?_) (fun hb_2 => ?_)
      · refine am_iconst 0 d_M_diagonal_23 (by decide) ?_
        rw [sv_if_n (c := sv_ia T v x ∧ sv_ia T v y) (fun q => sv_b0 hb_2 q.2)] at key
        exact key
      · refine am_iconst 1 d_M_diagonal_19 (by decide) ?_
        refine am_goto (tgt := 24) d_M_diagonal_20 (by decide) ?_
        rw [sv_if_y (c := sv_ia T v x ∧ sv_ia T v y) ⟨sv_b1 hb_1, sv_b1 hb_2⟩] at key
        exact key
