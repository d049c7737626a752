/-! the reference: a view in the making, a view more, a store more -/
def sv_c2 (b1 b2 : Int32) : Nat → Nat
  | 0 => 0
  | k + 1 => if (nI k = b1 ∨ nI k = b2) then sv_c2 b1 b2 k else sv_c2 b1 b2 k + 1
theorem sv_c2_le (b1 b2 : Int32) : ∀ k, sv_c2 b1 b2 k ≤ k := by
  intro k
  induction k with
  | zero => exact Nat.le_refl 0
  | succ k ih => simp only [sv_c2]; split <;> omega
theorem sv_c2_lt {b1 b2 : Int32} : ∀ {k i : Nat}, i < k → ¬ (nI i = b1 ∨ nI i = b2) → sv_c2 b1 b2 i < sv_c2 b1 b2 k := by
  intro k
  induction k with
  | zero => intro i h; omega
  | succ k ih =>
    intro i h hn
    simp only [sv_c2]
    by_cases e : i = k
    · subst e
      rw [if_neg hn]
      omega
    · have := ih (by omega : i < k) hn
      split <;> omega
theorem sv_c2_none : ∀ {i : Nat}, i < 2 ^ 31 → sv_c2 (-1) (-1) i = i := by
  intro i
  induction i with
  | zero => intro _; rfl
  | succ i ih => intro h; simp only [sv_c2]; rw [if_neg (fun q => q.elim (sv_neg1 (by omega)) (sv_neg1 (by omega))), ih (by omega)]
theorem sv_c2_one {k : Nat} (hk : k < 2 ^ 31) : ∀ {i : Nat}, i < 2 ^ 31 → sv_c2 (nI k) (-1) i = if k < i then i - 1 else i := by
  intro i
  induction i with
  | zero => intro _; rfl
  | succ i ih =>
    intro h
    simp only [sv_c2]
    rw [ih (by omega)]
    by_cases e : i = k
    · rw [if_pos (Or.inl (by rw [e])), if_neg (by omega), if_pos (by omega)]
      omega
    · rw [if_neg (fun q => q.elim (fun z => e ((nI_eq (by omega) hk).mp z)) (sv_neg1 (by omega)))]
      by_cases e2 : k < i
      · rw [if_pos e2, if_pos (by omega)]; omega
      · rw [if_neg e2, if_neg (by omega)]
theorem sv_c2_two {k l : Nat} (hk : k < 2 ^ 31) (hl : l < 2 ^ 31) (hne : k ≠ l) : ∀ {i : Nat}, i < 2 ^ 31 → sv_c2 (nI k) (nI l) i = i - (if k < i then 1 else 0) - (if l < i then 1 else 0) := by
  intro i
  induction i with
  | zero => intro _; rfl
  | succ i ih =>
    intro h
    simp only [sv_c2]
    rw [ih (by omega)]
    by_cases e : i = k
    · rw [if_pos (Or.inl (by rw [e]))]
      by_cases c1 : k < i <;> by_cases c2 : l < i <;> by_cases c3 : k < i + 1 <;> by_cases c4 : l < i + 1 <;> simp only [c1, c2, c3, c4, if_true, if_false] <;> omega
    · by_cases e3 : i = l
      · rw [if_pos (Or.inr (by rw [e3]))]
        by_cases c1 : k < i <;> by_cases c2 : l < i <;> by_cases c3 : k < i + 1 <;> by_cases c4 : l < i + 1 <;> simp only [c1, c2, c3, c4, if_true, if_false] <;> omega
      · rw [if_neg (fun q => q.elim (fun z => e ((nI_eq (by omega) hk).mp z)) (fun z => e3 ((nI_eq (by omega) hl).mp z)))]
        by_cases c1 : k < i <;> by_cases c2 : l < i <;> by_cases c3 : k < i + 1 <;> by_cases c4 : l < i + 1 <;> simp only [c1, c2, c3, c4, if_true, if_false] <;> omega
theorem sv_TI.addS {T : sv_T} {fl fz : Nat → Int32} {fN : Nat → Int64} {fS fa fx fe fs : Nat → Int32} (h : sv_TI T fl fz fN fS fa fx fe fs) (ln : Int32) (sz : Nat) (hz : sz ≤ 300) : sv_TI (T.addS ln sz (fun _ => 0)) (upd fl T.ns ln) (upd fz T.ns (nI sz)) fN fS fa fx fe fs := by
  obtain ⟨h1, h2, h3⟩ := h
  refine ⟨fun i hi => ?_, fun q hq => h2 q ?_, h3⟩
  · have hi : i < T.ns + 1 := hi
    show upd fl T.ns ln i = (if i = T.ns then ln else T.ln i) ∧ upd fz T.ns (nI sz) i = nI (if i = T.ns then sz else T.sz i) ∧ ∀ p, p < (if i = T.ns then sz else T.sz i) → fN (300 * i + p) = (if i = T.ns then (fun _ => 0) else T.nu i) p
    by_cases e : i = T.ns
    · subst e
      rw [pk_us, pk_us, if_pos rfl, if_pos rfl, if_pos rfl]
      exact ⟨rfl, rfl, fun p hp => h2 _ (by omega)⟩
    · rw [pk_un e, pk_un e, if_neg e, if_neg e, if_neg e]
      exact h1 i (by omega)
  · have hq : 300 * (T.ns + 1) ≤ q := hq
    omega
theorem sv_TI.addV {T : sv_T} {fl fz : Nat → Int32} {fN : Nat → Int64} {fS fa fx fe fs Fe Fs : Nat → Int32} (h : sv_TI T fl fz fN fS fa fx fe fs) (hw : sv_wf T) (a : sv_A) (h4 : a.ax ≤ 4) (h1 : ∀ q, q < 4 * T.nv → Fe q = fe q ∧ Fs q = fs q) (h2 : ∀ k, k < a.ax → Fe (4 * T.nv + k) = nI (a.ex k) ∧ Fs (4 * T.nv + k) = a.sp k) : sv_TI (T.addV a) fl fz fN (upd fS T.nv (nI a.st)) (upd fa T.nv a.sa) (upd fx T.nv (nI a.ax)) Fe Fs := by
  obtain ⟨g1, g2, g3⟩ := h
  refine ⟨g1, g2, fun v hv => ?_⟩
  have hv : v < T.nv + 1 := hv
  show upd fS T.nv (nI a.st) v = nI (if v = T.nv then a else T.vw v).st ∧ upd fa T.nv a.sa v = (if v = T.nv then a else T.vw v).sa ∧ upd fx T.nv (nI a.ax) v = nI (if v = T.nv then a else T.vw v).ax ∧ ∀ k, k < (if v = T.nv then a else T.vw v).ax → Fe (4 * v + k) = nI ((if v = T.nv then a else T.vw v).ex k) ∧ Fs (4 * v + k) = (if v = T.nv then a else T.vw v).sp k
  by_cases e : v = T.nv
  · subst e
    rw [if_pos rfl, pk_us, pk_us, pk_us]
    exact ⟨rfl, rfl, rfl, h2⟩
  · rw [if_neg e, pk_un e, pk_un e, pk_un e]
    obtain ⟨c1, c2, c3, c4⟩ := g3 v (by omega)
    refine ⟨c1, c2, c3, fun k hk => ?_⟩
    have hx := (hw.2.2.2 v (by omega)).2.1
    obtain ⟨q1, q2⟩ := h1 (4 * v + k) (by omega)
    rw [q1, q2]
    exact c4 k hk
theorem sv_lcle {y z : Int64} : lg_cmp y z ≤ 0 ↔ ¬ z < y := by
  rw [← Int32.not_lt]
  exact not_congr sv_lcgt
set_option maxHeartbeats 4000000 in
set_option maxRecDepth 100000 in
/-- product, is there none -/
theorem m_product_1 {g : am_G} {d : Nat} {S : am_S} {T : sv_T} {th : Int32} {na : Nat} {ne nw rd : Nat → Int64} {mt : Nat → Int32} (hM : sv_N g S.1 T th na ne nw rd mt) (E : Nat → Nat) (hE : ∀ k, k < na → ne k = lN (E k)) (hO : sv_ok E na) (hna : na ≤ 5) {P : am_O → am_S → Prop} (h0 : sv_pr E na = 0 → P (.inl (some (.long 0))) S) (hK : (∀ t, t < na → 0 < E t) → ∀ z3 : Int32, am_W g d mm_M_product (31, [some (.ref (g.2.2.1 + 6)), some (.long 1), none, some (.int z3)], []) S P) : ∀ (m k : Nat), k + m = na → (∀ t, t < k → 0 < E t) → am_W g d mm_M_product (4, [some (.ref (g.2.2.1 + 6)), some (.long 1), none, some (.int (nI k))], []) S P := by
  obtain ⟨fl, fz, fN, fS, fa, fx, fe, fs, ⟨m0, m1, m2, m3, m4, m5, m6, m7, m8, m9, m10, m11, m12⟩, ⟨t1, t2, t3⟩, hw⟩ := id hM
  have h80 := hw.2.1
  have h12 := hw.1
  intro m
  induction m using Nat.strongRecOn with
  | ind m ih =>
    intro k hk hI
    refine am_iloadn d_M_product_4 rfl ?_
    refine am_aloadn d_M_product_5 rfl ?_
    refine am_get d_M_product_6 fl_M_59 m0 rfl ?_
    refine am_icge (tgt := 31) d_M_product_9 (by decide) (fun hc => ?_) (fun hc => ?_)
    · have hk0 : na ≤ k := (nI_leI (by omega) (by omega)).mp hc
      exact hK (fun t ht => hI t (by omega)) (nI k)
    · have hlt : k < na := Nat.lt_of_not_le (fun q => hc (nI_le q (by omega)))
      have hO9 := hO k hlt
      refine am_aloadn d_M_product_12 rfl ?_
      refine am_get d_M_product_13 fl_M_35 m0 rfl ?_
      refine am_iloadn d_M_product_16 rfl ?_
      refine am_laldN (t := 1) (k := k) d_M_product_17 rfl m9 (by omega) (by omega) ?_
      refine am_tl (b := lN (E k)) (hE k hlt) ?_
      refine am_lconst 0 d_M_product_18 (by decide) ?_
      refine am_lcmp d_M_product_19 ?_
      refine am_ifne (tgt := 25) d_M_product_20 (by decide) (fun hz => ?_) (fun hz => ?_)
      · have hp : 0 < E k := Nat.pos_of_ne_zero (fun h => hz (sv_lce.mpr (by rw [h]; rfl)))
        refine am_iinc (v := nI (k + 1)) (L' := [some (.ref (g.2.2.1 + 6)), some (.long 1), none, some (.int (nI (k + 1)))]) d_M_product_25 rfl (nI_1 k) (by decide) rfl rfl ?_
        refine am_goto (tgt := 4) d_M_product_28 (by decide) ?_
        exact ih (m - 1) (by omega) (k + 1) (by omega) (fun t ht => (Nat.lt_or_ge t k).elim (hI t) (fun z => (show t = k by omega) ▸ hp))
      · have hp : E k = 0 := (lN_eq hO9 (by decide)).mp (sv_lce.mp hz)
        refine am_lconst 0 d_M_product_23 (by decide) ?_
        exact am_lret d_M_product_24 rfl (h0 (sv_pr_0 hlt hp))
set_option maxHeartbeats 4000000 in
set_option maxRecDepth 100000 in
/-- product, how many -/
theorem m_product_2 {g : am_G} {d : Nat} {S : am_S} {T : sv_T} {th : Int32} {na : Nat} {ne nw rd : Nat → Int64} {mt : Nat → Int32} (hM : sv_N g S.1 T th na ne nw rd mt) (E : Nat → Nat) (hE : ∀ k, k < na → ne k = lN (E k)) (hO : sv_ok E na) (hna : na ≤ 5) (hZ : ∀ t, t < na → 0 < E t) {P : am_O → am_S → Prop} (hP : P (.inl (some (.long (lN (min (sv_pr E na) 3001))))) S) : ∀ (m k : Nat), k + m = na → ∀ A : Nat, A < 2 ^ 63 → (sv_pr E k ≤ 3000 → A = sv_pr E k) → (3000 < sv_pr E k → 3000 < A) → am_W g d mm_M_product (33, [some (.ref (g.2.2.1 + 6)), some (.long (lN A)), none, some (.int (nI k))], []) S P := by
  obtain ⟨fl, fz, fN, fS, fa, fx, fe, fs, ⟨m0, m1, m2, m3, m4, m5, m6, m7, m8, m9, m10, m11, m12⟩, ⟨t1, t2, t3⟩, hw⟩ := id hM
  have h80 := hw.2.1
  have h12 := hw.1
  intro m
  induction m using Nat.strongRecOn with
  | ind m ih =>
    intro k hk A hA h1 h2
    refine am_iloadn d_M_product_33 rfl ?_
    refine am_aloadn d_M_product_34 rfl ?_
    refine am_get d_M_product_35 fl_M_59 m0 rfl ?_
    refine am_icge (tgt := 70) d_M_product_38 (by decide) (fun hc => ?_) (fun hc => ?_)
    · have hk0 : na ≤ k := (nI_leI (by omega) (by omega)).mp hc
      obtain rfl : k = na := by omega
      refine am_lloadn d_M_product_70 rfl ?_
      refine am_ldc2 3000 d_M_product_71 (am_in 607 (by decide +kernel) rfl) ?_
      refine am_lcmp d_M_product_74 ?_
      refine am_ifle (tgt := 84) d_M_product_75 (by decide) (fun hz => ?_) (fun hz => ?_)
      · have hA3 : A ≤ 3000 := Nat.le_of_not_lt (fun q => sv_lcle.mp hz ((pk_lLT (a := 3000) (by decide) hA).mpr q))
        have e : min (sv_pr E k) 3001 = A := by
          rcases Nat.lt_or_ge 3000 (sv_pr E k) with q | q
          · have := h2 q; omega
          · have := h1 q; omega
        rw [e] at hP
        refine am_lloadn d_M_product_84 rfl ?_
        exact am_lret d_M_product_85 rfl hP
      · have hA3 : 3000 < A := Classical.byContradiction (fun q => hz (sv_lcle.mpr (fun z => q ((pk_lLT (a := 3000) (by decide) hA).mp z))))
        have e : min (sv_pr E k) 3001 = 3001 := by
          rcases Nat.lt_or_ge 3000 (sv_pr E k) with q | q
          · omega
          · have := h1 q; omega
        rw [e] at hP
        refine am_ldc2 3001 d_M_product_78 (am_in 608 (by decide +kernel) rfl) ?_
        refine am_goto (tgt := 85) d_M_product_81 (by decide) ?_
        exact am_lret d_M_product_85 rfl hP
    · have hlt : k < na := Nat.lt_of_not_le (fun q => hc (nI_le q (by omega)))
      have hO9 := hO k hlt
      have hZ9 := hZ k hlt
      have hps : sv_pr E (k + 1) = sv_pr E k * E k := rfl
      refine am_lloadn d_M_product_41 rfl ?_
      refine am_ldc2 3000 d_M_product_42 (am_in 607 (by decide +kernel) rfl) ?_
      refine am_lcmp d_M_product_45 ?_
      refine am_ifle (tgt := 55) d_M_product_46 (by decide) (fun hz => ?_) (fun hz => ?_)
      · have hA3 : A ≤ 3000 := Nat.le_of_not_lt (fun q => sv_lcle.mp hz ((pk_lLT (a := 3000) (by decide) hA).mpr q))
        have hpk : sv_pr E k ≤ 3000 := Nat.le_of_not_lt (fun q => by have := h2 q; omega)
        have hAk := h1 hpk
        have hml := Nat.mul_le_mul hA3 (Nat.le_of_lt hO9)
        refine am_lloadn d_M_product_55 rfl ?_
        refine am_aloadn d_M_product_56 rfl ?_
        refine am_get d_M_product_57 fl_M_35 m0 rfl ?_
        refine am_iloadn d_M_product_60 rfl ?_
        refine am_laldN (t := 1) (k := k) d_M_product_61 rfl m9 (by omega) (by omega) ?_
        refine am_tl (b := lN (E k)) (hE k hlt) ?_
        refine am_lmul d_M_product_62 ?_
        refine am_tl (b := lN (A * E k)) (lN_mul _ _) ?_
        refine am_lstoren (L' := [some (.ref (g.2.2.1 + 6)), some (.long (lN (A * E k))), none, some (.int (nI k))]) d_M_product_63 (by decide) rfl rfl ?_
        refine am_iinc (v := nI (k + 1)) (L' := [some (.ref (g.2.2.1 + 6)), some (.long (lN (A * E k))), none, some (.int (nI (k + 1)))]) d_M_product_64 rfl (nI_1 k) (by decide) rfl rfl ?_
        refine am_goto (tgt := 33) d_M_product_67 (by decide) ?_
        exact ih (m - 1) (by omega) (k + 1) (by omega) (A * E k) (by omega) (fun q => by rw [hps, hAk]) (fun q => by rw [hAk, ← hps]; exact q)
      · have hA3 : 3000 < A := Classical.byContradiction (fun q => hz (sv_lcle.mpr (fun z => q ((pk_lLT (a := 3000) (by decide) hA).mp z))))
        have hpk : 3000 < sv_pr E k := Nat.lt_of_not_le (fun q => by have := h1 q; omega)
        have hpl : sv_pr E k ≤ sv_pr E (k + 1) := by rw [hps]; exact Nat.le_mul_of_pos_right _ hZ9
        refine am_ldc2 3001 d_M_product_49 (am_in 608 (by decide +kernel) rfl) ?_
        refine am_goto (tgt := 63) d_M_product_52 (by decide) ?_
        refine am_lstoren (L' := [some (.ref (g.2.2.1 + 6)), some (.long 3001), none, some (.int (nI k))]) d_M_product_63 (by decide) rfl rfl ?_
        refine am_iinc (v := nI (k + 1)) (L' := [some (.ref (g.2.2.1 + 6)), some (.long 3001), none, some (.int (nI (k + 1)))]) d_M_product_64 rfl (nI_1 k) (by decide) rfl rfl ?_
        refine am_goto (tgt := 33) d_M_product_67 (by decide) ?_
        exact ih (m - 1) (by omega) (k + 1) (by omega) 3001 (by decide) (fun q => by omega) (fun q => by decide)
set_option maxHeartbeats 4000000 in
set_option maxRecDepth 100000 in
/-- M_product -/
theorem m_product {g : am_G} {d : Nat} {S : am_S} {T : sv_T} {th : Int32} {na : Nat} {ne nw rd : Nat → Int64} {mt : Nat → Int32} (hM : sv_N g S.1 T th na ne nw rd mt) (E : Nat → Nat) (hE : ∀ k, k < na → ne k = lN (E k)) (hO : sv_ok E na) (hna : na ≤ 5) {P : am_O → am_S → Prop} (hP : P (.inl (some (.long (lN (min (sv_pr E na) 3001))))) S) : am_W g d mm_M_product (0, am_ent [.ref (g.2.2.1 + 6)] 4, []) S (P) := by
  obtain ⟨fl, fz, fN, fS, fa, fx, fe, fs, ⟨m0, m1, m2, m3, m4, m5, m6, m7, m8, m9, m10, m11, m12⟩, ⟨t1, t2, t3⟩, hw⟩ := id hM
  have h80 := hw.2.1
  have h12 := hw.1
  show am_W g d mm_M_product (0, [some (.ref (g.2.2.1 + 6)), none, none, none], []) S _
  refine am_lconst 1 d_M_product_0 (by decide) ?_
  refine am_lstoren (L' := [some (.ref (g.2.2.1 + 6)), some (.long 1), none, none]) d_M_product_1 (by decide) rfl rfl ?_
  refine am_iconst 0 d_M_product_2 (by decide) ?_
  refine am_istoren (L' := [some (.ref (g.2.2.1 + 6)), some (.long 1), none, some (.int 0)]) d_M_product_3 (by decide) rfl rfl ?_
  refine m_product_1 hM E hE hO hna (fun h => ?_) (fun hZ z3 => ?_) na 0 (Nat.zero_add _) (fun t ht => absurd ht (Nat.not_lt_zero t))
  · rw [h] at hP
    exact hP
  · refine am_iconst 0 d_M_product_31 (by decide) ?_
    refine am_istoren (L' := [some (.ref (g.2.2.1 + 6)), some (.long 1), none, some (.int 0)]) d_M_product_32 (by decide) rfl rfl ?_
    exact m_product_2 hM E hE hO hna hZ hP na 0 (Nat.zero_add _) 1 (by decide) (fun _ => rfl) (fun q => absurd q (show ¬ 3000 < 1 by decide))
set_option maxHeartbeats 4000000 in
set_option maxRecDepth 100000 in
/-- take, the loop -/
theorem m_take_l {g : am_G} {d : Nat} {S : am_S} {T : sv_T} {th : Int32} {rd : Nat → Int64} {mt : Nat → Int32} {j : Nat} (hj : j < T.nv) {b1 b2 : Int32} {P : am_O → am_S → Prop} (hP : ∀ (S1 : am_S) (Ne Nw : Nat → Int64), sv_N g S1.1 T th (sv_c2 b1 b2 (T.vw j).ax) Ne Nw rd mt → sv_MF g S S1 → (∀ i, i < (T.vw j).ax → ¬ (nI i = b1 ∨ nI i = b2) → Ne (sv_c2 b1 b2 i) = lN ((T.vw j).ex i) ∧ Nw (sv_c2 b1 b2 i) = ((T.vw j).sp i).toInt64) → P (.inl none) S1) : ∀ (m k : Nat), k + m = (T.vw j).ax → ∀ (S0 : am_S) (Ne Nw : Nat → Int64), sv_N g S0.1 T th (sv_c2 b1 b2 k) Ne Nw rd mt → sv_MF g S S0 → (∀ i, i < k → ¬ (nI i = b1 ∨ nI i = b2) → Ne (sv_c2 b1 b2 i) = lN ((T.vw j).ex i) ∧ Nw (sv_c2 b1 b2 i) = ((T.vw j).sp i).toInt64) → am_W g d mm_M_take (8, [some (.ref (g.2.2.1 + 6)), some (.int (nI j)), some (.int b1), some (.int b2), some (.int (nI k))], []) S0 P := by
  intro m
  induction m using Nat.strongRecOn with
  | ind m ih =>
    intro k hk S0 Ne Nw hN hfr hI
    obtain ⟨fl, fz, fN, fS, fa, fx, fe, fs, ⟨m0, m1, m2, m3, m4, m5, m6, m7, m8, m9, m10, m11, m12⟩, ⟨t1, t2, t3⟩, hw⟩ := id hN
    have h80 := hw.2.1
    have h12 := hw.1
    obtain ⟨v1, v2, v3, v4⟩ := t3 j hj
    obtain ⟨w1, w2, w3, w4, w5, w6, w7⟩ := hw.2.2.2 j hj
    refine am_iload d_M_take_8 rfl ?_
    refine am_aloadn d_M_take_10 rfl ?_
    refine am_get d_M_take_11 fl_M_26 m0 rfl ?_
    refine am_iloadn d_M_take_14 rfl ?_
    refine am_ialdN (t := 0) (k := j) d_M_take_15 rfl m6 (by omega) (by omega) ?_
    refine am_ti (b := nI (T.vw j).ax) v3 ?_
    refine am_icge (tgt := 89) d_M_take_16 (by decide) (fun hc => ?_) (fun hc => ?_)
    · have hk0 : (T.vw j).ax ≤ k := (nI_leI (by omega) (by omega)).mp hc
      obtain rfl : k = (T.vw j).ax := by omega
      exact am_vret d_M_take_89 rfl (hP S0 Ne Nw hN hfr hI)
    · have hlt : k < (T.vw j).ax := Nat.lt_of_not_le (fun q => hc (nI_le q (by omega)))
      have hO9 := w3 k hlt
      have hcl := sv_c2_le b1 b2 k
      refine am_iload d_M_take_19 rfl ?_
      refine am_iloadn d_M_take_21 rfl ?_
      refine am_iceq (tgt := 83) d_M_take_22 (by decide) (fun hz => ?_) (fun hz => ?_)
      · refine am_iinc (v := nI (k + 1)) (L' := [some (.ref (g.2.2.1 + 6)), some (.int (nI j)), some (.int b1), some (.int b2), some (.int (nI (k + 1)))]) d_M_take_83 rfl (nI_1 k) (by decide) rfl rfl ?_
        refine am_goto (tgt := 8) d_M_take_86 (by decide) ?_
        have hs : sv_c2 b1 b2 (k + 1) = sv_c2 b1 b2 k := if_pos (Or.inl hz)
        refine ih (m - 1) (by omega) (k + 1) (by omega) S0 Ne Nw (by rw [hs]; exact hN) hfr (fun i hi hn => hI i ?_ hn)
        have : i ≠ k := fun q => hn (by rw [q]; exact (Or.inl hz))
        omega
      · refine am_iload d_M_take_25 rfl ?_
        refine am_iloadn d_M_take_27 rfl ?_
        refine am_iceq (tgt := 83) d_M_take_28 (by decide) (fun hy => ?_) (fun hy => ?_)
        · refine am_iinc (v := nI (k + 1)) (L' := [some (.ref (g.2.2.1 + 6)), some (.int (nI j)), some (.int b1), some (.int b2), some (.int (nI (k + 1)))]) d_M_take_83 rfl (nI_1 k) (by decide) rfl rfl ?_
          refine am_goto (tgt := 8) d_M_take_86 (by decide) ?_
          have hs : sv_c2 b1 b2 (k + 1) = sv_c2 b1 b2 k := if_pos (Or.inr hy)
          refine ih (m - 1) (by omega) (k + 1) (by omega) S0 Ne Nw (by rw [hs]; exact hN) hfr (fun i hi hn => hI i ?_ hn)
          have : i ≠ k := fun q => hn (by rw [q]; exact (Or.inr hy))
          omega
        · refine am_aloadn d_M_take_31 rfl ?_
          refine am_get d_M_take_32 fl_M_35 m0 rfl ?_
          refine am_aloadn d_M_take_35 rfl ?_
          refine am_get d_M_take_36 fl_M_59 m0 rfl ?_
          refine am_aloadn d_M_take_39 rfl ?_
          refine am_get d_M_take_40 fl_M_29 m0 rfl ?_
          refine am_iconst 4 d_M_take_43 (by decide) ?_
          refine am_iloadn d_M_take_44 rfl ?_
          refine am_imul d_M_take_45 ?_
          refine am_iload d_M_take_46 rfl ?_
          refine am_iadd d_M_take_48 ?_
          refine am_ti (b := nI (4 * j + k)) (sv_4 j k) ?_
          refine am_ialdN (t := 0) (k := 4 * j + k) d_M_take_49 rfl m7 (by omega) (by omega) ?_
          refine am_ti (b := nI ((T.vw j).ex k)) ((v4 k hlt).1) ?_
          refine am_i2l d_M_take_50 ?_
          refine am_tl (b := lN ((T.vw j).ex k)) (nI_l hO9) ?_
          refine am_lastN (t := 1) d_M_take_51 rfl m9 (by omega) (by omega) ?_
          obtain ⟨S_1, eS_1⟩ : ∃ z : am_S, z = (am_up S0.1 (g.2.2.1 + 15) (.inl (1, 5, .inr (.inl (vp_updL Ne (sv_c2 b1 b2 k) (lN ((T.vw j).ex k)))))), S0.2) := ⟨_, rfl⟩
          change am_W _ _ _ _ (am_up S0.1 (g.2.2.1 + 15) (.inl (1, 5, .inr (.inl (vp_updL Ne (sv_c2 b1 b2 k) (lN ((T.vw j).ex k)))))), S0.2) _
          rw [← eS_1]
          have h_2 : S_1.1 (g.2.2.1 + 6) = some (.inr (3, [.int th, .int (nI T.ns), .ref (g.2.2.1 + 7), .ref (g.2.2.1 + 8), .ref (g.2.2.1 + 9), .int (nI T.nv), .ref (g.2.2.1 + 10), .ref (g.2.2.1 + 11), .ref (g.2.2.1 + 12), .ref (g.2.2.1 + 13), .ref (g.2.2.1 + 14), .ref (g.2.2.1 + 15), .ref (g.2.2.1 + 16), .int (nI (sv_c2 b1 b2 k)), .ref (g.2.2.1 + 17), .ref (g.2.2.1 + 18)])) := by rw [eS_1]; exact (am_up_n (by omega)).trans m0
          have h_3 : S_1.1 (g.2.2.1 + 7) = some (.inl (0, 12, .inl fl)) := by rw [eS_1]; exact (am_up_n (by omega)).trans m1
          have h_4 : S_1.1 (g.2.2.1 + 8) = some (.inl (0, 12, .inl fz)) := by rw [eS_1]; exact (am_up_n (by omega)).trans m2
          have h_5 : S_1.1 (g.2.2.1 + 9) = some (.inl (1, 3600, .inr (.inl fN))) := by rw [eS_1]; exact (am_up_n (by omega)).trans m3
          have h_6 : S_1.1 (g.2.2.1 + 10) = some (.inl (0, 80, .inl fS)) := by rw [eS_1]; exact (am_up_n (by omega)).trans m4
          have h_7 : S_1.1 (g.2.2.1 + 11) = some (.inl (0, 80, .inl fa)) := by rw [eS_1]; exact (am_up_n (by omega)).trans m5
          have h_8 : S_1.1 (g.2.2.1 + 12) = some (.inl (0, 80, .inl fx)) := by rw [eS_1]; exact (am_up_n (by omega)).trans m6
          have h_9 : S_1.1 (g.2.2.1 + 13) = some (.inl (0, 320, .inl fe)) := by rw [eS_1]; exact (am_up_n (by omega)).trans m7
          have h_10 : S_1.1 (g.2.2.1 + 14) = some (.inl (0, 320, .inl fs)) := by rw [eS_1]; exact (am_up_n (by omega)).trans m8
          have h_11 : S_1.1 (g.2.2.1 + 16) = some (.inl (1, 5, .inr (.inl Nw))) := by rw [eS_1]; exact (am_up_n (by omega)).trans m10
          have h_12 : S_1.1 (g.2.2.1 + 17) = some (.inl (1, 3000, .inr (.inl rd))) := by rw [eS_1]; exact (am_up_n (by omega)).trans m11
          have h_13 : S_1.1 (g.2.2.1 + 18) = some (.inl (2, 300, .inl mt)) := by rw [eS_1]; exact (am_up_n (by omega)).trans m12
          have hf_14 : sv_MF g S S_1 := by rw [eS_1]; exact hfr.u (by omega) (by omega)
          have h_15 : S_1.1 (g.2.2.1 + 15) = some (.inl (1, 5, .inr (.inl (vp_updL Ne (sv_c2 b1 b2 k) (lN ((T.vw j).ex k)))))) := by rw [eS_1]; exact am_up_s
          have hnS_1 : S_1.2.1 = S0.2.1 := by rw [eS_1]
          have hzS_1 : S_1.2.2 = S0.2.2 := by rw [eS_1]
          refine am_aloadn d_M_take_52 rfl ?_
          refine am_get d_M_take_53 fl_M_38 h_2 rfl ?_
          refine am_aloadn d_M_take_56 rfl ?_
          refine am_get d_M_take_57 fl_M_59 h_2 rfl ?_
          refine am_aloadn d_M_take_60 rfl ?_
          refine am_get d_M_take_61 fl_M_32 h_2 rfl ?_
          refine am_iconst 4 d_M_take_64 (by decide) ?_
          refine am_iloadn d_M_take_65 rfl ?_
          refine am_imul d_M_take_66 ?_
          refine am_iload d_M_take_67 rfl ?_
          refine am_iadd d_M_take_69 ?_
          refine am_ti (b := nI (4 * j + k)) (sv_4 j k) ?_
          refine am_ialdN (t := 0) (k := 4 * j + k) d_M_take_70 rfl h_10 (by omega) (by omega) ?_
          refine am_ti (b := (T.vw j).sp k) ((v4 k hlt).2) ?_
          refine am_i2l d_M_take_71 ?_
          refine am_lastN (t := 1) d_M_take_72 rfl h_11 (by omega) (by omega) ?_
          obtain ⟨S_16, eS_16⟩ : ∃ z : am_S, z = (am_up S_1.1 (g.2.2.1 + 16) (.inl (1, 5, .inr (.inl (vp_updL Nw (sv_c2 b1 b2 k) (((T.vw j).sp k).toInt64))))), S_1.2) := ⟨_, rfl⟩
          change am_W _ _ _ _ (am_up S_1.1 (g.2.2.1 + 16) (.inl (1, 5, .inr (.inl (vp_updL Nw (sv_c2 b1 b2 k) (((T.vw j).sp k).toInt64))))), S_1.2) _
          rw [← eS_16]
          have h_17 : S_16.1 (g.2.2.1 + 6) = some (.inr (3, [.int th, .int (nI T.ns), .ref (g.2.2.1 + 7), .ref (g.2.2.1 + 8), .ref (g.2.2.1 + 9), .int (nI T.nv), .ref (g.2.2.1 + 10), .ref (g.2.2.1 + 11), .ref (g.2.2.1 + 12), .ref (g.2.2.1 + 13), .ref (g.2.2.1 + 14), .ref (g.2.2.1 + 15), .ref (g.2.2.1 + 16), .int (nI (sv_c2 b1 b2 k)), .ref (g.2.2.1 + 17), .ref (g.2.2.1 + 18)])) := by rw [eS_16]; exact (am_up_n (by omega)).trans h_2
          have h_18 : S_16.1 (g.2.2.1 + 7) = some (.inl (0, 12, .inl fl)) := by rw [eS_16]; exact (am_up_n (by omega)).trans h_3
          have h_19 : S_16.1 (g.2.2.1 + 8) = some (.inl (0, 12, .inl fz)) := by rw [eS_16]; exact (am_up_n (by omega)).trans h_4
          have h_20 : S_16.1 (g.2.2.1 + 9) = some (.inl (1, 3600, .inr (.inl fN))) := by rw [eS_16]; exact (am_up_n (by omega)).trans h_5
          have h_21 : S_16.1 (g.2.2.1 + 10) = some (.inl (0, 80, .inl fS)) := by rw [eS_16]; exact (am_up_n (by omega)).trans h_6
          have h_22 : S_16.1 (g.2.2.1 + 11) = some (.inl (0, 80, .inl fa)) := by rw [eS_16]; exact (am_up_n (by omega)).trans h_7
          have h_23 : S_16.1 (g.2.2.1 + 12) = some (.inl (0, 80, .inl fx)) := by rw [eS_16]; exact (am_up_n (by omega)).trans h_8
          have h_24 : S_16.1 (g.2.2.1 + 13) = some (.inl (0, 320, .inl fe)) := by rw [eS_16]; exact (am_up_n (by omega)).trans h_9
          have h_25 : S_16.1 (g.2.2.1 + 14) = some (.inl (0, 320, .inl fs)) := by rw [eS_16]; exact (am_up_n (by omega)).trans h_10
          have h_26 : S_16.1 (g.2.2.1 + 15) = some (.inl (1, 5, .inr (.inl (vp_updL Ne (sv_c2 b1 b2 k) (lN ((T.vw j).ex k)))))) := by rw [eS_16]; exact (am_up_n (by omega)).trans h_15
          have h_27 : S_16.1 (g.2.2.1 + 17) = some (.inl (1, 3000, .inr (.inl rd))) := by rw [eS_16]; exact (am_up_n (by omega)).trans h_12
          have h_28 : S_16.1 (g.2.2.1 + 18) = some (.inl (2, 300, .inl mt)) := by rw [eS_16]; exact (am_up_n (by omega)).trans h_13
          have hf_29 : sv_MF g S S_16 := by rw [eS_16]; exact hf_14.u (by omega) (by omega)
          have h_30 : S_16.1 (g.2.2.1 + 16) = some (.inl (1, 5, .inr (.inl (vp_updL Nw (sv_c2 b1 b2 k) (((T.vw j).sp k).toInt64))))) := by rw [eS_16]; exact am_up_s
          have hnS_16 : S_16.2.1 = S_1.2.1 := by rw [eS_16]
          have hzS_16 : S_16.2.2 = S_1.2.2 := by rw [eS_16]
          refine am_aloadn d_M_take_73 rfl ?_
          refine am_dup d_M_take_74 rfl ?_
          refine am_get d_M_take_75 fl_M_59 h_17 rfl ?_
          refine am_iconst 1 d_M_take_78 (by decide) ?_
          refine am_iadd d_M_take_79 ?_
          refine am_ti (b := nI (sv_c2 b1 b2 k + 1)) (nI_1 _) ?_
          refine am_put d_M_take_80 fp_M_59 h_17 rfl rfl (Nat.le_of_ble_eq_true rfl) ?_
          obtain ⟨S_31, eS_31⟩ : ∃ z : am_S, z = (am_up S_16.1 (g.2.2.1 + 6) (.inr (3, [.int th, .int (nI T.ns), .ref (g.2.2.1 + 7), .ref (g.2.2.1 + 8), .ref (g.2.2.1 + 9), .int (nI T.nv), .ref (g.2.2.1 + 10), .ref (g.2.2.1 + 11), .ref (g.2.2.1 + 12), .ref (g.2.2.1 + 13), .ref (g.2.2.1 + 14), .ref (g.2.2.1 + 15), .ref (g.2.2.1 + 16), .int (nI (sv_c2 b1 b2 k + 1)), .ref (g.2.2.1 + 17), .ref (g.2.2.1 + 18)])), S_16.2) := ⟨_, rfl⟩
          change am_W _ _ _ _ (am_up S_16.1 (g.2.2.1 + 6) (.inr (3, [.int th, .int (nI T.ns), .ref (g.2.2.1 + 7), .ref (g.2.2.1 + 8), .ref (g.2.2.1 + 9), .int (nI T.nv), .ref (g.2.2.1 + 10), .ref (g.2.2.1 + 11), .ref (g.2.2.1 + 12), .ref (g.2.2.1 + 13), .ref (g.2.2.1 + 14), .ref (g.2.2.1 + 15), .ref (g.2.2.1 + 16), .int (nI (sv_c2 b1 b2 k + 1)), .ref (g.2.2.1 + 17), .ref (g.2.2.1 + 18)])), S_16.2) _
          rw [← eS_31]
          have h_32 : S_31.1 (g.2.2.1 + 7) = some (.inl (0, 12, .inl fl)) := by rw [eS_31]; exact (am_up_n (by omega)).trans h_18
          have h_33 : S_31.1 (g.2.2.1 + 8) = some (.inl (0, 12, .inl fz)) := by rw [eS_31]; exact (am_up_n (by omega)).trans h_19
          have h_34 : S_31.1 (g.2.2.1 + 9) = some (.inl (1, 3600, .inr (.inl fN))) := by rw [eS_31]; exact (am_up_n (by omega)).trans h_20
          have h_35 : S_31.1 (g.2.2.1 + 10) = some (.inl (0, 80, .inl fS)) := by rw [eS_31]; exact (am_up_n (by omega)).trans h_21
          have h_36 : S_31.1 (g.2.2.1 + 11) = some (.inl (0, 80, .inl fa)) := by rw [eS_31]; exact (am_up_n (by omega)).trans h_22
          have h_37 : S_31.1 (g.2.2.1 + 12) = some (.inl (0, 80, .inl fx)) := by rw [eS_31]; exact (am_up_n (by omega)).trans h_23
          have h_38 : S_31.1 (g.2.2.1 + 13) = some (.inl (0, 320, .inl fe)) := by rw [eS_31]; exact (am_up_n (by omega)).trans h_24
          have h_39 : S_31.1 (g.2.2.1 + 14) = some (.inl (0, 320, .inl fs)) := by rw [eS_31]; exact (am_up_n (by omega)).trans h_25
          have h_40 : S_31.1 (g.2.2.1 + 15) = some (.inl (1, 5, .inr (.inl (vp_updL Ne (sv_c2 b1 b2 k) (lN ((T.vw j).ex k)))))) := by rw [eS_31]; exact (am_up_n (by omega)).trans h_26
          have h_41 : S_31.1 (g.2.2.1 + 16) = some (.inl (1, 5, .inr (.inl (vp_updL Nw (sv_c2 b1 b2 k) (((T.vw j).sp k).toInt64))))) := by rw [eS_31]; exact (am_up_n (by omega)).trans h_30
          have h_42 : S_31.1 (g.2.2.1 + 17) = some (.inl (1, 3000, .inr (.inl rd))) := by rw [eS_31]; exact (am_up_n (by omega)).trans h_27
          have h_43 : S_31.1 (g.2.2.1 + 18) = some (.inl (2, 300, .inl mt)) := by rw [eS_31]; exact (am_up_n (by omega)).trans h_28
          have hf_44 : sv_MF g S S_31 := by rw [eS_31]; exact hf_29.u (by omega) (by omega)
          have h_45 : S_31.1 (g.2.2.1 + 6) = some (.inr (3, [.int th, .int (nI T.ns), .ref (g.2.2.1 + 7), .ref (g.2.2.1 + 8), .ref (g.2.2.1 + 9), .int (nI T.nv), .ref (g.2.2.1 + 10), .ref (g.2.2.1 + 11), .ref (g.2.2.1 + 12), .ref (g.2.2.1 + 13), .ref (g.2.2.1 + 14), .ref (g.2.2.1 + 15), .ref (g.2.2.1 + 16), .int (nI (sv_c2 b1 b2 k + 1)), .ref (g.2.2.1 + 17), .ref (g.2.2.1 + 18)])) := by rw [eS_31]; exact am_up_s
          have hnS_31 : S_31.2.1 = S_16.2.1 := by rw [eS_31]
          have hzS_31 : S_31.2.2 = S_16.2.2 := by rw [eS_31]
          refine am_iinc (v := nI (k + 1)) (L' := [some (.ref (g.2.2.1 + 6)), some (.int (nI j)), some (.int b1), some (.int b2), some (.int (nI (k + 1)))]) d_M_take_83 rfl (nI_1 k) (by decide) rfl rfl ?_
          refine am_goto (tgt := 8) d_M_take_86 (by decide) ?_
          have hnk : ¬ (nI k = b1 ∨ nI k = b2) := fun q => q.elim hz hy
          have hs : sv_c2 b1 b2 (k + 1) = sv_c2 b1 b2 k + 1 := if_neg hnk
          refine ih (m - 1) (by omega) (k + 1) (by omega) _ _ _ (by rw [hs]; exact ⟨fl, fz, fN, fS, fa, fx, fe, fs, ⟨h_45, h_32, h_33, h_34, h_35, h_36, h_37, h_38, h_39, h_40, h_41, h_42, h_43⟩, ⟨t1, t2, t3⟩, hw⟩) hf_44 (fun i hi hn => ?_)
          by_cases e : i = k
          · subst e
            rw [pk_uLs, pk_uLs]
            exact ⟨rfl, rfl⟩
          · have hcc := sv_c2_lt (b1 := b1) (b2 := b2) (show i < k by omega) hn
            rw [pk_uLn (by omega), pk_uLn (by omega)]
            exact hI i (by omega) hn
set_option maxHeartbeats 4000000 in
set_option maxRecDepth 100000 in
/-- M_take -/
theorem m_take {g : am_G} {d : Nat} {S : am_S} {T : sv_T} {th : Int32} {na : Nat} {ne nw rd : Nat → Int64} {mt : Nat → Int32} (hM : sv_N g S.1 T th na ne nw rd mt) {j : Nat} (hj : j < T.nv) {b1 b2 : Int32} {P : am_O → am_S → Prop} (hP : ∀ (S1 : am_S) (Ne Nw : Nat → Int64), sv_N g S1.1 T th (sv_c2 b1 b2 (T.vw j).ax) Ne Nw rd mt → sv_MF g S S1 → (∀ i, i < (T.vw j).ax → ¬ (nI i = b1 ∨ nI i = b2) → Ne (sv_c2 b1 b2 i) = lN ((T.vw j).ex i) ∧ Nw (sv_c2 b1 b2 i) = ((T.vw j).sp i).toInt64) → P (.inl none) S1) : am_W g d mm_M_take (0, am_ent [.ref (g.2.2.1 + 6), .int (nI j), .int b1, .int b2] 5, []) S (P) := by
  obtain ⟨fl, fz, fN, fS, fa, fx, fe, fs, ⟨m0, m1, m2, m3, m4, m5, m6, m7, m8, m9, m10, m11, m12⟩, ⟨t1, t2, t3⟩, hw⟩ := id hM
  have h80 := hw.2.1
  have h12 := hw.1
  obtain ⟨v1, v2, v3, v4⟩ := t3 j hj
  obtain ⟨w1, w2, w3, w4, w5, w6, w7⟩ := hw.2.2.2 j hj
  show am_W g d mm_M_take (0, [some (.ref (g.2.2.1 + 6)), some (.int (nI j)), some (.int b1), some (.int b2), none], []) S _
  refine am_aloadn d_M_take_0 rfl ?_
  refine am_iconst 0 d_M_take_1 (by decide) ?_
  show am_W _ _ _ (_, _, [.int (nI 0), _]) _ _
  refine am_put d_M_take_2 fp_M_59 m0 rfl rfl (Nat.le_of_ble_eq_true rfl) ?_
  obtain ⟨S_1, eS_1⟩ : ∃ z : am_S, z = (am_up S.1 (g.2.2.1 + 6) (.inr (3, [.int th, .int (nI T.ns), .ref (g.2.2.1 + 7), .ref (g.2.2.1 + 8), .ref (g.2.2.1 + 9), .int (nI T.nv), .ref (g.2.2.1 + 10), .ref (g.2.2.1 + 11), .ref (g.2.2.1 + 12), .ref (g.2.2.1 + 13), .ref (g.2.2.1 + 14), .ref (g.2.2.1 + 15), .ref (g.2.2.1 + 16), .int (nI 0), .ref (g.2.2.1 + 17), .ref (g.2.2.1 + 18)])), S.2) := ⟨_, rfl⟩
  change am_W _ _ _ _ (am_up S.1 (g.2.2.1 + 6) (.inr (3, [.int th, .int (nI T.ns), .ref (g.2.2.1 + 7), .ref (g.2.2.1 + 8), .ref (g.2.2.1 + 9), .int (nI T.nv), .ref (g.2.2.1 + 10), .ref (g.2.2.1 + 11), .ref (g.2.2.1 + 12), .ref (g.2.2.1 + 13), .ref (g.2.2.1 + 14), .ref (g.2.2.1 + 15), .ref (g.2.2.1 + 16), .int (nI 0), .ref (g.2.2.1 + 17), .ref (g.2.2.1 + 18)])), S.2) _
  rw [← eS_1]
  have h_2 : S_1.1 (g.2.2.1 + 7) = some (.inl (0, 12, .inl fl)) := by rw [eS_1]; exact (am_up_n (by omega)).trans m1
  have h_3 : S_1.1 (g.2.2.1 + 8) = some (.inl (0, 12, .inl fz)) := by rw [eS_1]; exact (am_up_n (by omega)).trans m2
  have h_4 : S_1.1 (g.2.2.1 + 9) = some (.inl (1, 3600, .inr (.inl fN))) := by rw [eS_1]; exact (am_up_n (by omega)).trans m3
  have h_5 : S_1.1 (g.2.2.1 + 10) = some (.inl (0, 80, .inl fS)) := by rw [eS_1]; exact (am_up_n (by omega)).trans m4
  have h_6 : S_1.1 (g.2.2.1 + 11) = some (.inl (0, 80, .inl fa)) := by rw [eS_1]; exact (am_up_n (by omega)).trans m5
  have h_7 : S_1.1 (g.2.2.1 + 12) = some (.inl (0, 80, .inl fx)) := by rw [eS_1]; exact (am_up_n (by omega)).trans m6
  have h_8 : S_1.1 (g.2.2.1 + 13) = some (.inl (0, 320, .inl fe)) := by rw [eS_1]; exact (am_up_n (by omega)).trans m7
  have h_9 : S_1.1 (g.2.2.1 + 14) = some (.inl (0, 320, .inl fs)) := by rw [eS_1]; exact (am_up_n (by omega)).trans m8
  have h_10 : S_1.1 (g.2.2.1 + 15) = some (.inl (1, 5, .inr (.inl ne))) := by rw [eS_1]; exact (am_up_n (by omega)).trans m9
  have h_11 : S_1.1 (g.2.2.1 + 16) = some (.inl (1, 5, .inr (.inl nw))) := by rw [eS_1]; exact (am_up_n (by omega)).trans m10
  have h_12 : S_1.1 (g.2.2.1 + 17) = some (.inl (1, 3000, .inr (.inl rd))) := by rw [eS_1]; exact (am_up_n (by omega)).trans m11
  have h_13 : S_1.1 (g.2.2.1 + 18) = some (.inl (2, 300, .inl mt)) := by rw [eS_1]; exact (am_up_n (by omega)).trans m12
  have hf_14 : sv_MF g S S_1 := by rw [eS_1]; exact sv_MF.rf.u (by omega) (by omega)
  have h_15 : S_1.1 (g.2.2.1 + 6) = some (.inr (3, [.int th, .int (nI T.ns), .ref (g.2.2.1 + 7), .ref (g.2.2.1 + 8), .ref (g.2.2.1 + 9), .int (nI T.nv), .ref (g.2.2.1 + 10), .ref (g.2.2.1 + 11), .ref (g.2.2.1 + 12), .ref (g.2.2.1 + 13), .ref (g.2.2.1 + 14), .ref (g.2.2.1 + 15), .ref (g.2.2.1 + 16), .int (nI 0), .ref (g.2.2.1 + 17), .ref (g.2.2.1 + 18)])) := by rw [eS_1]; exact am_up_s
  have hnS_1 : S_1.2.1 = S.2.1 := by rw [eS_1]
  have hzS_1 : S_1.2.2 = S.2.2 := by rw [eS_1]
  refine am_iconst 0 d_M_take_5 (by decide) ?_
  refine am_istore (L' := [some (.ref (g.2.2.1 + 6)), some (.int (nI j)), some (.int b1), some (.int b2), some (.int 0)]) d_M_take_6 (by decide) rfl rfl ?_
  exact m_take_l hj hP (T.vw j).ax 0 (Nat.zero_add _) S_1 ne nw ⟨fl, fz, fN, fS, fa, fx, fe, fs, ⟨h_15, h_2, h_3, h_4, h_5, h_6, h_7, h_8, h_9, h_10, h_11, h_12, h_13⟩, ⟨t1, t2, t3⟩, hw⟩ hf_14 (fun i hi => absurd hi (Nat.not_lt_zero i))
set_option maxHeartbeats 4000000 in
set_option maxRecDepth 100000 in
/-- M_more -/
theorem m_more {g : am_G} {d : Nat} {S : am_S} {T : sv_T} {th : Int32} {na : Nat} {ne nw rd : Nat → Int64} {mt : Nat → Int32} (hM : sv_N g S.1 T th na ne nw rd mt) (hna : na < 5) {x y : Int64} {P : am_O → am_S → Prop} (hP : ∀ S1 : am_S, sv_N g S1.1 T th (na + 1) (vp_updL ne na x) (vp_updL nw na y) rd mt → sv_MF g S S1 → P (.inl none) S1) : am_W g d mm_M_more (0, am_ent [.ref (g.2.2.1 + 6), .long x, .long y] 5, []) S (P) := by
  obtain ⟨fl, fz, fN, fS, fa, fx, fe, fs, ⟨m0, m1, m2, m3, m4, m5, m6, m7, m8, m9, m10, m11, m12⟩, ⟨t1, t2, t3⟩, hw⟩ := id hM
  have h80 := hw.2.1
  have h12 := hw.1
  show am_W g d mm_M_more (0, [some (.ref (g.2.2.1 + 6)), some (.long x), none, some (.long y), none], []) S _
  refine am_aloadn d_M_more_0 rfl ?_
  refine am_get d_M_more_1 fl_M_35 m0 rfl ?_
  refine am_aloadn d_M_more_4 rfl ?_
  refine am_get d_M_more_5 fl_M_59 m0 rfl ?_
  refine am_lloadn d_M_more_8 rfl ?_
  refine am_lastN (t := 1) d_M_more_9 rfl m9 (by omega) (by omega) ?_
  obtain ⟨S_1, eS_1⟩ : ∃ z : am_S, z = (am_up S.1 (g.2.2.1 + 15) (.inl (1, 5, .inr (.inl (vp_updL ne na x)))), S.2) := ⟨_, rfl⟩
  change am_W _ _ _ _ (am_up S.1 (g.2.2.1 + 15) (.inl (1, 5, .inr (.inl (vp_updL ne na x)))), S.2) _
  rw [← eS_1]
  have h_2 : S_1.1 (g.2.2.1 + 6) = some (.inr (3, [.int th, .int (nI T.ns), .ref (g.2.2.1 + 7), .ref (g.2.2.1 + 8), .ref (g.2.2.1 + 9), .int (nI T.nv), .ref (g.2.2.1 + 10), .ref (g.2.2.1 + 11), .ref (g.2.2.1 + 12), .ref (g.2.2.1 + 13), .ref (g.2.2.1 + 14), .ref (g.2.2.1 + 15), .ref (g.2.2.1 + 16), .int (nI na), .ref (g.2.2.1 + 17), .ref (g.2.2.1 + 18)])) := by rw [eS_1]; exact (am_up_n (by omega)).trans m0
  have h_3 : S_1.1 (g.2.2.1 + 7) = some (.inl (0, 12, .inl fl)) := by rw [eS_1]; exact (am_up_n (by omega)).trans m1
  have h_4 : S_1.1 (g.2.2.1 + 8) = some (.inl (0, 12, .inl fz)) := by rw [eS_1]; exact (am_up_n (by omega)).trans m2
  have h_5 : S_1.1 (g.2.2.1 + 9) = some (.inl (1, 3600, .inr (.inl fN))) := by rw [eS_1]; exact (am_up_n (by omega)).trans m3
  have h_6 : S_1.1 (g.2.2.1 + 10) = some (.inl (0, 80, .inl fS)) := by rw [eS_1]; exact (am_up_n (by omega)).trans m4
  have h_7 : S_1.1 (g.2.2.1 + 11) = some (.inl (0, 80, .inl fa)) := by rw [eS_1]; exact (am_up_n (by omega)).trans m5
  have h_8 : S_1.1 (g.2.2.1 + 12) = some (.inl (0, 80, .inl fx)) := by rw [eS_1]; exact (am_up_n (by omega)).trans m6
  have h_9 : S_1.1 (g.2.2.1 + 13) = some (.inl (0, 320, .inl fe)) := by rw [eS_1]; exact (am_up_n (by omega)).trans m7
  have h_10 : S_1.1 (g.2.2.1 + 14) = some (.inl (0, 320, .inl fs)) := by rw [eS_1]; exact (am_up_n (by omega)).trans m8
  have h_11 : S_1.1 (g.2.2.1 + 16) = some (.inl (1, 5, .inr (.inl nw))) := by rw [eS_1]; exact (am_up_n (by omega)).trans m10
  have h_12 : S_1.1 (g.2.2.1 + 17) = some (.inl (1, 3000, .inr (.inl rd))) := by rw [eS_1]; exact (am_up_n (by omega)).trans m11
  have h_13 : S_1.1 (g.2.2.1 + 18) = some (.inl (2, 300, .inl mt)) := by rw [eS_1]; exact (am_up_n (by omega)).trans m12
  have hf_14 : sv_MF g S S_1 := by rw [eS_1]; exact sv_MF.rf.u (by omega) (by omega)
  have h_15 : S_1.1 (g.2.2.1 + 15) = some (.inl (1, 5, .inr (.inl (vp_updL ne na x)))) := by rw [eS_1]; exact am_up_s
  have hnS_1 : S_1.2.1 = S.2.1 := by rw [eS_1]
  have hzS_1 : S_1.2.2 = S.2.2 := by rw [eS_1]
  refine am_aloadn d_M_more_10 rfl ?_
  refine am_get d_M_more_11 fl_M_38 h_2 rfl ?_
  refine am_aloadn d_M_more_14 rfl ?_
  refine am_get d_M_more_15 fl_M_59 h_2 rfl ?_
  refine am_lloadn d_M_more_18 rfl ?_
  refine am_lastN (t := 1) d_M_more_19 rfl h_11 (by omega) (by omega) ?_
  obtain ⟨S_16, eS_16⟩ : ∃ z : am_S, z = (am_up S_1.1 (g.2.2.1 + 16) (.inl (1, 5, .inr (.inl (vp_updL nw na y)))), S_1.2) := ⟨_, rfl⟩
  change am_W _ _ _ _ (am_up S_1.1 (g.2.2.1 + 16) (.inl (1, 5, .inr (.inl (vp_updL nw na y)))), S_1.2) _
  rw [← eS_16]
  have h_17 : S_16.1 (g.2.2.1 + 6) = some (.inr (3, [.int th, .int (nI T.ns), .ref (g.2.2.1 + 7), .ref (g.2.2.1 + 8), .ref (g.2.2.1 + 9), .int (nI T.nv), .ref (g.2.2.1 + 10), .ref (g.2.2.1 + 11), .ref (g.2.2.1 + 12), .ref (g.2.2.1 + 13), .ref (g.2.2.1 + 14), .ref (g.2.2.1 + 15), .ref (g.2.2.1 + 16), .int (nI na), .ref (g.2.2.1 + 17), .ref (g.2.2.1 + 18)])) := by rw [eS_16]; exact (am_up_n (by omega)).trans h_2
  have h_18 : S_16.1 (g.2.2.1 + 7) = some (.inl (0, 12, .inl fl)) := by rw [eS_16]; exact (am_up_n (by omega)).trans h_3
  have h_19 : S_16.1 (g.2.2.1 + 8) = some (.inl (0, 12, .inl fz)) := by rw [eS_16]; exact (am_up_n (by omega)).trans h_4
  have h_20 : S_16.1 (g.2.2.1 + 9) = some (.inl (1, 3600, .inr (.inl fN))) := by rw [eS_16]; exact (am_up_n (by omega)).trans h_5
  have h_21 : S_16.1 (g.2.2.1 + 10) = some (.inl (0, 80, .inl fS)) := by rw [eS_16]; exact (am_up_n (by omega)).trans h_6
  have h_22 : S_16.1 (g.2.2.1 + 11) = some (.inl (0, 80, .inl fa)) := by rw [eS_16]; exact (am_up_n (by omega)).trans h_7
  have h_23 : S_16.1 (g.2.2.1 + 12) = some (.inl (0, 80, .inl fx)) := by rw [eS_16]; exact (am_up_n (by omega)).trans h_8
  have h_24 : S_16.1 (g.2.2.1 + 13) = some (.inl (0, 320, .inl fe)) := by rw [eS_16]; exact (am_up_n (by omega)).trans h_9
  have h_25 : S_16.1 (g.2.2.1 + 14) = some (.inl (0, 320, .inl fs)) := by rw [eS_16]; exact (am_up_n (by omega)).trans h_10
  have h_26 : S_16.1 (g.2.2.1 + 15) = some (.inl (1, 5, .inr (.inl (vp_updL ne na x)))) := by rw [eS_16]; exact (am_up_n (by omega)).trans h_15
  have h_27 : S_16.1 (g.2.2.1 + 17) = some (.inl (1, 3000, .inr (.inl rd))) := by rw [eS_16]; exact (am_up_n (by omega)).trans h_12
  have h_28 : S_16.1 (g.2.2.1 + 18) = some (.inl (2, 300, .inl mt)) := by rw [eS_16]; exact (am_up_n (by omega)).trans h_13
  have hf_29 : sv_MF g S S_16 := by rw [eS_16]; exact hf_14.u (by omega) (by omega)
  have h_30 : S_16.1 (g.2.2.1 + 16) = some (.inl (1, 5, .inr (.inl (vp_updL nw na y)))) := by rw [eS_16]; exact am_up_s
  have hnS_16 : S_16.2.1 = S_1.2.1 := by rw [eS_16]
  have hzS_16 : S_16.2.2 = S_1.2.2 := by rw [eS_16]
  refine am_aloadn d_M_more_20 rfl ?_
  refine am_dup d_M_more_21 rfl ?_
  refine am_get d_M_more_22 fl_M_59 h_17 rfl ?_
  refine am_iconst 1 d_M_more_25 (by decide) ?_
  refine am_iadd d_M_more_26 ?_
  refine am_ti (b := nI (na + 1)) (nI_1 _) ?_
  refine am_put d_M_more_27 fp_M_59 h_17 rfl rfl (Nat.le_of_ble_eq_true rfl) ?_
  obtain ⟨S_31, eS_31⟩ : ∃ z : am_S, z = (am_up S_16.1 (g.2.2.1 + 6) (.inr (3, [.int th, .int (nI T.ns), .ref (g.2.2.1 + 7), .ref (g.2.2.1 + 8), .ref (g.2.2.1 + 9), .int (nI T.nv), .ref (g.2.2.1 + 10), .ref (g.2.2.1 + 11), .ref (g.2.2.1 + 12), .ref (g.2.2.1 + 13), .ref (g.2.2.1 + 14), .ref (g.2.2.1 + 15), .ref (g.2.2.1 + 16), .int (nI (na + 1)), .ref (g.2.2.1 + 17), .ref (g.2.2.1 + 18)])), S_16.2) := ⟨_, rfl⟩
  change am_W _ _ _ _ (am_up S_16.1 (g.2.2.1 + 6) (.inr (3, [.int th, .int (nI T.ns), .ref (g.2.2.1 + 7), .ref (g.2.2.1 + 8), .ref (g.2.2.1 + 9), .int (nI T.nv), .ref (g.2.2.1 + 10), .ref (g.2.2.1 + 11), .ref (g.2.2.1 + 12), .ref (g.2.2.1 + 13), .ref (g.2.2.1 + 14), .ref (g.2.2.1 + 15), .ref (g.2.2.1 + 16), .int (nI (na + 1)), .ref (g.2.2.1 + 17), .ref (g.2.2.1 + 18)])), S_16.2) _
  rw [← eS_31]
  have h_32 : S_31.1 (g.2.2.1 + 7) = some (.inl (0, 12, .inl fl)) := by rw [eS_31]; exact (am_up_n (by omega)).trans h_18
  have h_33 : S_31.1 (g.2.2.1 + 8) = some (.inl (0, 12, .inl fz)) := by rw [eS_31]; exact (am_up_n (by omega)).trans h_19
  have h_34 : S_31.1 (g.2.2.1 + 9) = some (.inl (1, 3600, .inr (.inl fN))) := by rw [eS_31]; exact (am_up_n (by omega)).trans h_20
  have h_35 : S_31.1 (g.2.2.1 + 10) = some (.inl (0, 80, .inl fS)) := by rw [eS_31]; exact (am_up_n (by omega)).trans h_21
  have h_36 : S_31.1 (g.2.2.1 + 11) = some (.inl (0, 80, .inl fa)) := by rw [eS_31]; exact (am_up_n (by omega)).trans h_22
  have h_37 : S_31.1 (g.2.2.1 + 12) = some (.inl (0, 80, .inl fx)) := by rw [eS_31]; exact (am_up_n (by omega)).trans h_23
  have h_38 : S_31.1 (g.2.2.1 + 13) = some (.inl (0, 320, .inl fe)) := by rw [eS_31]; exact (am_up_n (by omega)).trans h_24
  have h_39 : S_31.1 (g.2.2.1 + 14) = some (.inl (0, 320, .inl fs)) := by rw [eS_31]; exact (am_up_n (by omega)).trans h_25
  have h_40 : S_31.1 (g.2.2.1 + 15) = some (.inl (1, 5, .inr (.inl (vp_updL ne na x)))) := by rw [eS_31]; exact (am_up_n (by omega)).trans h_26
  have h_41 : S_31.1 (g.2.2.1 + 16) = some (.inl (1, 5, .inr (.inl (vp_updL nw na y)))) := by rw [eS_31]; exact (am_up_n (by omega)).trans h_30
  have h_42 : S_31.1 (g.2.2.1 + 17) = some (.inl (1, 3000, .inr (.inl rd))) := by rw [eS_31]; exact (am_up_n (by omega)).trans h_27
  have h_43 : S_31.1 (g.2.2.1 + 18) = some (.inl (2, 300, .inl mt)) := by rw [eS_31]; exact (am_up_n (by omega)).trans h_28
  have hf_44 : sv_MF g S S_31 := by rw [eS_31]; exact hf_29.u (by omega) (by omega)
  have h_45 : S_31.1 (g.2.2.1 + 6) = some (.inr (3, [.int th, .int (nI T.ns), .ref (g.2.2.1 + 7), .ref (g.2.2.1 + 8), .ref (g.2.2.1 + 9), .int (nI T.nv), .ref (g.2.2.1 + 10), .ref (g.2.2.1 + 11), .ref (g.2.2.1 + 12), .ref (g.2.2.1 + 13), .ref (g.2.2.1 + 14), .ref (g.2.2.1 + 15), .ref (g.2.2.1 + 16), .int (nI (na + 1)), .ref (g.2.2.1 + 17), .ref (g.2.2.1 + 18)])) := by rw [eS_31]; exact am_up_s
  have hnS_31 : S_31.2.1 = S_16.2.1 := by rw [eS_31]
  have hzS_31 : S_31.2.2 = S_16.2.2 := by rw [eS_31]
  exact am_vret d_M_more_30 rfl (hP S_31 ⟨fl, fz, fN, fS, fa, fx, fe, fs, ⟨h_45, h_32, h_33, h_34, h_35, h_36, h_37, h_38, h_39, h_40, h_41, h_42, h_43⟩, ⟨t1, t2, t3⟩, hw⟩ hf_44)
set_option maxHeartbeats 4000000 in
set_option maxRecDepth 100000 in
/-- inOrder, the loop -/
theorem m_inOrder_l {g : am_G} {d : Nat} {S : am_S} {T : sv_T} {th : Int32} {na : Nat} {ne rd : Nat → Int64} {mt : Nat → Int32} (E : Nat → Nat) (hE : ∀ k, k < na → ne k = lN (E k)) (hO : sv_ok E na) (hna : na ≤ 5) {P : am_O → am_S → Prop} (hP : ∀ (S1 : am_S) (Nw : Nat → Int64), sv_N g S1.1 T th na ne Nw rd mt → sv_MF g S S1 → (∀ i, i < na → Nw i = lN (sv_dp E na (na - 1 - i))) → P (.inl none) S1) : ∀ (m : Nat), m ≤ na → ∀ (S0 : am_S) (Nw : Nat → Int64), sv_N g S0.1 T th na ne Nw rd mt → sv_MF g S S0 → (∀ i, i < na → m ≤ i → Nw i = lN (sv_dp E na (na - 1 - i))) → am_W g d mm_M_inOrder (9, [some (.ref (g.2.2.1 + 6)), some (.long (lN (sv_dp E na (na - m)))), none, some (.int (sv_dn m))], []) S0 P := by
  intro m
  induction m with
  | zero =>
    intro hm S0 Nw hN hfr hI
    obtain ⟨fl, fz, fN, fS, fa, fx, fe, fs, ⟨m0, m1, m2, m3, m4, m5, m6, m7, m8, m9, m10, m11, m12⟩, ⟨t1, t2, t3⟩, hw⟩ := id hN
    have h80 := hw.2.1
    have h12 := hw.1
    refine am_iloadn d_M_inOrder_9 rfl ?_
    refine am_iflt (tgt := 35) d_M_inOrder_10 (by decide) (fun hc => ?_) (fun hc => ?_)
    · exact am_vret d_M_inOrder_35 rfl (hP S0 Nw hN hfr (fun i hi => hI i hi (Nat.zero_le i)))
    · exact absurd sv_dn_0 hc
  | succ m ih =>
    intro hm S0 Nw hN hfr hI
    obtain ⟨fl, fz, fN, fS, fa, fx, fe, fs, ⟨m0, m1, m2, m3, m4, m5, m6, m7, m8, m9, m10, m11, m12⟩, ⟨t1, t2, t3⟩, hw⟩ := id hN
    have h80 := hw.2.1
    have h12 := hw.1
    refine am_iloadn d_M_inOrder_9 rfl ?_
    refine am_iflt (tgt := 35) d_M_inOrder_10 (by decide) (fun hc => ?_) (fun hc => ?_)
    · exact absurd hc (sv_dn_n (by omega))
    · rw [sv_dn_s m]
      refine am_aloadn d_M_inOrder_13 rfl ?_
      refine am_get d_M_inOrder_14 fl_M_38 m0 rfl ?_
      refine am_iloadn d_M_inOrder_17 rfl ?_
      refine am_lloadn d_M_inOrder_18 rfl ?_
      refine am_lastN (t := 1) d_M_inOrder_19 rfl m10 (by omega) (by omega) ?_
      obtain ⟨S_1, eS_1⟩ : ∃ z : am_S, z = (am_up S0.1 (g.2.2.1 + 16) (.inl (1, 5, .inr (.inl (vp_updL Nw m (lN (sv_dp E na (na - (m + 1)))))))), S0.2) := ⟨_, rfl⟩
      change am_W _ _ _ _ (am_up S0.1 (g.2.2.1 + 16) (.inl (1, 5, .inr (.inl (vp_updL Nw m (lN (sv_dp E na (na - (m + 1)))))))), S0.2) _
      rw [← eS_1]
      have h_2 : S_1.1 (g.2.2.1 + 6) = some (.inr (3, [.int th, .int (nI T.ns), .ref (g.2.2.1 + 7), .ref (g.2.2.1 + 8), .ref (g.2.2.1 + 9), .int (nI T.nv), .ref (g.2.2.1 + 10), .ref (g.2.2.1 + 11), .ref (g.2.2.1 + 12), .ref (g.2.2.1 + 13), .ref (g.2.2.1 + 14), .ref (g.2.2.1 + 15), .ref (g.2.2.1 + 16), .int (nI na), .ref (g.2.2.1 + 17), .ref (g.2.2.1 + 18)])) := by rw [eS_1]; exact (am_up_n (by omega)).trans m0
      have h_3 : S_1.1 (g.2.2.1 + 7) = some (.inl (0, 12, .inl fl)) := by rw [eS_1]; exact (am_up_n (by omega)).trans m1
      have h_4 : S_1.1 (g.2.2.1 + 8) = some (.inl (0, 12, .inl fz)) := by rw [eS_1]; exact (am_up_n (by omega)).trans m2
      have h_5 : S_1.1 (g.2.2.1 + 9) = some (.inl (1, 3600, .inr (.inl fN))) := by rw [eS_1]; exact (am_up_n (by omega)).trans m3
      have h_6 : S_1.1 (g.2.2.1 + 10) = some (.inl (0, 80, .inl fS)) := by rw [eS_1]; exact (am_up_n (by omega)).trans m4
      have h_7 : S_1.1 (g.2.2.1 + 11) = some (.inl (0, 80, .inl fa)) := by rw [eS_1]; exact (am_up_n (by omega)).trans m5
      have h_8 : S_1.1 (g.2.2.1 + 12) = some (.inl (0, 80, .inl fx)) := by rw [eS_1]; exact (am_up_n (by omega)).trans m6
      have h_9 : S_1.1 (g.2.2.1 + 13) = some (.inl (0, 320, .inl fe)) := by rw [eS_1]; exact (am_up_n (by omega)).trans m7
      have h_10 : S_1.1 (g.2.2.1 + 14) = some (.inl (0, 320, .inl fs)) := by rw [eS_1]; exact (am_up_n (by omega)).trans m8
      have h_11 : S_1.1 (g.2.2.1 + 15) = some (.inl (1, 5, .inr (.inl ne))) := by rw [eS_1]; exact (am_up_n (by omega)).trans m9
      have h_12 : S_1.1 (g.2.2.1 + 17) = some (.inl (1, 3000, .inr (.inl rd))) := by rw [eS_1]; exact (am_up_n (by omega)).trans m11
      have h_13 : S_1.1 (g.2.2.1 + 18) = some (.inl (2, 300, .inl mt)) := by rw [eS_1]; exact (am_up_n (by omega)).trans m12
      have hf_14 : sv_MF g S S_1 := by rw [eS_1]; exact hfr.u (by omega) (by omega)
      have h_15 : S_1.1 (g.2.2.1 + 16) = some (.inl (1, 5, .inr (.inl (vp_updL Nw m (lN (sv_dp E na (na - (m + 1)))))))) := by rw [eS_1]; exact am_up_s
      have hnS_1 : S_1.2.1 = S0.2.1 := by rw [eS_1]
      have hzS_1 : S_1.2.2 = S0.2.2 := by rw [eS_1]
      refine am_lloadn d_M_inOrder_20 rfl ?_
      refine am_aloadn d_M_inOrder_21 rfl ?_
      refine am_get d_M_inOrder_22 fl_M_35 h_2 rfl ?_
      refine am_iloadn d_M_inOrder_25 rfl ?_
      refine am_laldN (t := 1) (k := m) d_M_inOrder_26 rfl h_11 (by omega) (by omega) ?_
      refine am_tl (b := lN (E m)) (hE m (by omega)) ?_
      refine am_lmul d_M_inOrder_27 ?_
      refine am_tl (b := lN (sv_dp E na (na - m))) (by rw [lN_mul, show na - m = (na - (m + 1)) + 1 by omega, sv_dp_s E _ na (by omega), show na - 1 - (na - (m + 1)) = m by omega]) ?_
      refine am_lstoren (L' := [some (.ref (g.2.2.1 + 6)), some (.long (lN (sv_dp E na (na - m)))), none, some (.int (nI m))]) d_M_inOrder_28 (by decide) rfl rfl ?_
      refine am_iinc (v := sv_dn m) (L' := [some (.ref (g.2.2.1 + 6)), some (.long (lN (sv_dp E na (na - m)))), none, some (.int (sv_dn m))]) d_M_inOrder_29 rfl (sv_dn_d m) (by decide) rfl rfl ?_
      refine am_goto (tgt := 9) d_M_inOrder_32 (by decide) ?_
      refine ih (by omega) _ _ ⟨fl, fz, fN, fS, fa, fx, fe, fs, ⟨h_2, h_3, h_4, h_5, h_6, h_7, h_8, h_9, h_10, h_11, h_15, h_12, h_13⟩, ⟨t1, t2, t3⟩, hw⟩ hf_14 (fun i hi hmi => ?_)
      by_cases e : i = m
      · subst e
        rw [pk_uLs, show na - 1 - i = na - (i + 1) by omega]
      · rw [pk_uLn e]
        exact hI i hi (by omega)
set_option maxHeartbeats 4000000 in
set_option maxRecDepth 100000 in
/-- M_inOrder -/
theorem m_inOrder {g : am_G} {d : Nat} {S : am_S} {T : sv_T} {th : Int32} {na : Nat} {ne nw rd : Nat → Int64} {mt : Nat → Int32} (hM : sv_N g S.1 T th na ne nw rd mt) (E : Nat → Nat) (hE : ∀ k, k < na → ne k = lN (E k)) (hO : sv_ok E na) (hna : na ≤ 5) {P : am_O → am_S → Prop} (hP : ∀ (S1 : am_S) (Nw : Nat → Int64), sv_N g S1.1 T th na ne Nw rd mt → sv_MF g S S1 → (∀ i, i < na → Nw i = lN (sv_dp E na (na - 1 - i))) → P (.inl none) S1) : am_W g d mm_M_inOrder (0, am_ent [.ref (g.2.2.1 + 6)] 4, []) S (P) := by
  obtain ⟨fl, fz, fN, fS, fa, fx, fe, fs, ⟨m0, m1, m2, m3, m4, m5, m6, m7, m8, m9, m10, m11, m12⟩, ⟨t1, t2, t3⟩, hw⟩ := id hM
  have h80 := hw.2.1
  have h12 := hw.1
  show am_W g d mm_M_inOrder (0, [some (.ref (g.2.2.1 + 6)), none, none, none], []) S _
  refine am_lconst 1 d_M_inOrder_0 (by decide) ?_
  refine am_lstoren (L' := [some (.ref (g.2.2.1 + 6)), some (.long 1), none, none]) d_M_inOrder_1 (by decide) rfl rfl ?_
  refine am_aloadn d_M_inOrder_2 rfl ?_
  refine am_get d_M_inOrder_3 fl_M_59 m0 rfl ?_
  refine am_iconst 1 d_M_inOrder_6 (by decide) ?_
  refine am_isub d_M_inOrder_7 ?_
  refine am_ti (b := sv_dn na) rfl ?_
  refine am_istoren (L' := [some (.ref (g.2.2.1 + 6)), some (.long 1), none, some (.int (sv_dn na))]) d_M_inOrder_8 (by decide) rfl rfl ?_
  have h9 : (1 : Int64) = lN (sv_dp E na (na - na)) := by rw [Nat.sub_self, sv_dp_0]; rfl
  rw [h9]
  exact m_inOrder_l E hE hO hna hP na (Nat.le_refl na) S nw hM sv_MF.rf (fun i hi h => absurd hi (by omega))
set_option maxHeartbeats 4000000 in
set_option maxRecDepth 100000 in
/-- M_addStore -/
theorem m_addStore {g : am_G} {d : Nat} {S : am_S} {T : sv_T} {th : Int32} {na : Nat} {ne nw rd : Nat → Int64} {mt : Nat → Int32} (hM : sv_N g S.1 T th na ne nw rd mt) {ln : Int32} {sz : Nat} (hs : T.ns < 12) (hz : sz ≤ 300) {P : am_O → am_S → Prop} (hP : ∀ S1 : am_S, sv_N g S1.1 (T.addS ln sz (fun _ => 0)) th na ne nw rd mt → sv_MF g S S1 → P (.inl (some (.int (nI T.ns)))) S1) : am_W g d mm_M_addStore (0, am_ent [.ref (g.2.2.1 + 6), .int ln, .int (nI sz)] 3, []) S (P) := by
  obtain ⟨fl, fz, fN, fS, fa, fx, fe, fs, ⟨m0, m1, m2, m3, m4, m5, m6, m7, m8, m9, m10, m11, m12⟩, ⟨t1, t2, t3⟩, hw⟩ := id hM
  have h80 := hw.2.1
  have h12 := hw.1
  show am_W g d mm_M_addStore (0, [some (.ref (g.2.2.1 + 6)), some (.int ln), some (.int (nI sz))], []) S _
  refine am_aloadn d_M_addStore_0 rfl ?_
  refine am_get d_M_addStore_1 fl_M_7 m0 rfl ?_
  refine am_aloadn d_M_addStore_4 rfl ?_
  refine am_get d_M_addStore_5 fl_M_84 m0 rfl ?_
  refine am_iloadn d_M_addStore_8 rfl ?_
  refine am_iastN (t := 0) d_M_addStore_9 rfl m1 (by omega) (by omega) ?_
  obtain ⟨S_1, eS_1⟩ : ∃ z : am_S, z = (am_up S.1 (g.2.2.1 + 7) (.inl (0, 12, .inl (upd fl T.ns ln))), S.2) := ⟨_, rfl⟩
  change am_W _ _ _ _ (am_up S.1 (g.2.2.1 + 7) (.inl (0, 12, .inl (upd fl T.ns ln))), S.2) _
  rw [← eS_1]
  have h_2 : S_1.1 (g.2.2.1 + 6) = some (.inr (3, [.int th, .int (nI T.ns), .ref (g.2.2.1 + 7), .ref (g.2.2.1 + 8), .ref (g.2.2.1 + 9), .int (nI T.nv), .ref (g.2.2.1 + 10), .ref (g.2.2.1 + 11), .ref (g.2.2.1 + 12), .ref (g.2.2.1 + 13), .ref (g.2.2.1 + 14), .ref (g.2.2.1 + 15), .ref (g.2.2.1 + 16), .int (nI na), .ref (g.2.2.1 + 17), .ref (g.2.2.1 + 18)])) := by rw [eS_1]; exact (am_up_n (by omega)).trans m0
  have h_3 : S_1.1 (g.2.2.1 + 8) = some (.inl (0, 12, .inl fz)) := by rw [eS_1]; exact (am_up_n (by omega)).trans m2
  have h_4 : S_1.1 (g.2.2.1 + 9) = some (.inl (1, 3600, .inr (.inl fN))) := by rw [eS_1]; exact (am_up_n (by omega)).trans m3
  have h_5 : S_1.1 (g.2.2.1 + 10) = some (.inl (0, 80, .inl fS)) := by rw [eS_1]; exact (am_up_n (by omega)).trans m4
  have h_6 : S_1.1 (g.2.2.1 + 11) = some (.inl (0, 80, .inl fa)) := by rw [eS_1]; exact (am_up_n (by omega)).trans m5
  have h_7 : S_1.1 (g.2.2.1 + 12) = some (.inl (0, 80, .inl fx)) := by rw [eS_1]; exact (am_up_n (by omega)).trans m6
  have h_8 : S_1.1 (g.2.2.1 + 13) = some (.inl (0, 320, .inl fe)) := by rw [eS_1]; exact (am_up_n (by omega)).trans m7
  have h_9 : S_1.1 (g.2.2.1 + 14) = some (.inl (0, 320, .inl fs)) := by rw [eS_1]; exact (am_up_n (by omega)).trans m8
  have h_10 : S_1.1 (g.2.2.1 + 15) = some (.inl (1, 5, .inr (.inl ne))) := by rw [eS_1]; exact (am_up_n (by omega)).trans m9
  have h_11 : S_1.1 (g.2.2.1 + 16) = some (.inl (1, 5, .inr (.inl nw))) := by rw [eS_1]; exact (am_up_n (by omega)).trans m10
  have h_12 : S_1.1 (g.2.2.1 + 17) = some (.inl (1, 3000, .inr (.inl rd))) := by rw [eS_1]; exact (am_up_n (by omega)).trans m11
  have h_13 : S_1.1 (g.2.2.1 + 18) = some (.inl (2, 300, .inl mt)) := by rw [eS_1]; exact (am_up_n (by omega)).trans m12
  have hf_14 : sv_MF g S S_1 := by rw [eS_1]; exact sv_MF.rf.u (by omega) (by omega)
  have h_15 : S_1.1 (g.2.2.1 + 7) = some (.inl (0, 12, .inl (upd fl T.ns ln))) := by rw [eS_1]; exact am_up_s
  have hnS_1 : S_1.2.1 = S.2.1 := by rw [eS_1]
  have hzS_1 : S_1.2.2 = S.2.2 := by rw [eS_1]
  refine am_aloadn d_M_addStore_10 rfl ?_
  refine am_get d_M_addStore_11 fl_M_13 h_2 rfl ?_
  refine am_aloadn d_M_addStore_14 rfl ?_
  refine am_get d_M_addStore_15 fl_M_84 h_2 rfl ?_
  refine am_iloadn d_M_addStore_18 rfl ?_
  refine am_iastN (t := 0) d_M_addStore_19 rfl h_3 (by omega) (by omega) ?_
  obtain ⟨S_16, eS_16⟩ : ∃ z : am_S, z = (am_up S_1.1 (g.2.2.1 + 8) (.inl (0, 12, .inl (upd fz T.ns (nI sz)))), S_1.2) := ⟨_, rfl⟩
  change am_W _ _ _ _ (am_up S_1.1 (g.2.2.1 + 8) (.inl (0, 12, .inl (upd fz T.ns (nI sz)))), S_1.2) _
  rw [← eS_16]
  have h_17 : S_16.1 (g.2.2.1 + 6) = some (.inr (3, [.int th, .int (nI T.ns), .ref (g.2.2.1 + 7), .ref (g.2.2.1 + 8), .ref (g.2.2.1 + 9), .int (nI T.nv), .ref (g.2.2.1 + 10), .ref (g.2.2.1 + 11), .ref (g.2.2.1 + 12), .ref (g.2.2.1 + 13), .ref (g.2.2.1 + 14), .ref (g.2.2.1 + 15), .ref (g.2.2.1 + 16), .int (nI na), .ref (g.2.2.1 + 17), .ref (g.2.2.1 + 18)])) := by rw [eS_16]; exact (am_up_n (by omega)).trans h_2
  have h_18 : S_16.1 (g.2.2.1 + 7) = some (.inl (0, 12, .inl (upd fl T.ns ln))) := by rw [eS_16]; exact (am_up_n (by omega)).trans h_15
  have h_19 : S_16.1 (g.2.2.1 + 9) = some (.inl (1, 3600, .inr (.inl fN))) := by rw [eS_16]; exact (am_up_n (by omega)).trans h_4
  have h_20 : S_16.1 (g.2.2.1 + 10) = some (.inl (0, 80, .inl fS)) := by rw [eS_16]; exact (am_up_n (by omega)).trans h_5
  have h_21 : S_16.1 (g.2.2.1 + 11) = some (.inl (0, 80, .inl fa)) := by rw [eS_16]; exact (am_up_n (by omega)).trans h_6
  have h_22 : S_16.1 (g.2.2.1 + 12) = some (.inl (0, 80, .inl fx)) := by rw [eS_16]; exact (am_up_n (by omega)).trans h_7
  have h_23 : S_16.1 (g.2.2.1 + 13) = some (.inl (0, 320, .inl fe)) := by rw [eS_16]; exact (am_up_n (by omega)).trans h_8
  have h_24 : S_16.1 (g.2.2.1 + 14) = some (.inl (0, 320, .inl fs)) := by rw [eS_16]; exact (am_up_n (by omega)).trans h_9
  have h_25 : S_16.1 (g.2.2.1 + 15) = some (.inl (1, 5, .inr (.inl ne))) := by rw [eS_16]; exact (am_up_n (by omega)).trans h_10
  have h_26 : S_16.1 (g.2.2.1 + 16) = some (.inl (1, 5, .inr (.inl nw))) := by rw [eS_16]; exact (am_up_n (by omega)).trans h_11
  have h_27 : S_16.1 (g.2.2.1 + 17) = some (.inl (1, 3000, .inr (.inl rd))) := by rw [eS_16]; exact (am_up_n (by omega)).trans h_12
  have h_28 : S_16.1 (g.2.2.1 + 18) = some (.inl (2, 300, .inl mt)) := by rw [eS_16]; exact (am_up_n (by omega)).trans h_13
  have hf_29 : sv_MF g S S_16 := by rw [eS_16]; exact hf_14.u (by omega) (by omega)
  have h_30 : S_16.1 (g.2.2.1 + 8) = some (.inl (0, 12, .inl (upd fz T.ns (nI sz)))) := by rw [eS_16]; exact am_up_s
  have hnS_16 : S_16.2.1 = S_1.2.1 := by rw [eS_16]
  have hzS_16 : S_16.2.2 = S_1.2.2 := by rw [eS_16]
  refine am_aloadn d_M_addStore_20 rfl ?_
  refine am_dup d_M_addStore_21 rfl ?_
  refine am_get d_M_addStore_22 fl_M_84 h_17 rfl ?_
  refine am_iconst 1 d_M_addStore_25 (by decide) ?_
  refine am_iadd d_M_addStore_26 ?_
  refine am_ti (b := nI (T.ns + 1)) (nI_1 _) ?_
  refine am_put d_M_addStore_27 fp_M_84 h_17 rfl rfl (Nat.le_of_ble_eq_true rfl) ?_
  obtain ⟨S_31, eS_31⟩ : ∃ z : am_S, z = (am_up S_16.1 (g.2.2.1 + 6) (.inr (3, [.int th, .int (nI (T.ns + 1)), .ref (g.2.2.1 + 7), .ref (g.2.2.1 + 8), .ref (g.2.2.1 + 9), .int (nI T.nv), .ref (g.2.2.1 + 10), .ref (g.2.2.1 + 11), .ref (g.2.2.1 + 12), .ref (g.2.2.1 + 13), .ref (g.2.2.1 + 14), .ref (g.2.2.1 + 15), .ref (g.2.2.1 + 16), .int (nI na), .ref (g.2.2.1 + 17), .ref (g.2.2.1 + 18)])), S_16.2) := ⟨_, rfl⟩
  change am_W _ _ _ _ (am_up S_16.1 (g.2.2.1 + 6) (.inr (3, [.int th, .int (nI (T.ns + 1)), .ref (g.2.2.1 + 7), .ref (g.2.2.1 + 8), .ref (g.2.2.1 + 9), .int (nI T.nv), .ref (g.2.2.1 + 10), .ref (g.2.2.1 + 11), .ref (g.2.2.1 + 12), .ref (g.2.2.1 + 13), .ref (g.2.2.1 + 14), .ref (g.2.2.1 + 15), .ref (g.2.2.1 + 16), .int (nI na), .ref (g.2.2.1 + 17), .ref (g.2.2.1 + 18)])), S_16.2) _
  rw [← eS_31]
  have h_32 : S_31.1 (g.2.2.1 + 7) = some (.inl (0, 12, .inl (upd fl T.ns ln))) := by rw [eS_31]; exact (am_up_n (by omega)).trans h_18
  have h_33 : S_31.1 (g.2.2.1 + 8) = some (.inl (0, 12, .inl (upd fz T.ns (nI sz)))) := by rw [eS_31]; exact (am_up_n (by omega)).trans h_30
  have h_34 : S_31.1 (g.2.2.1 + 9) = some (.inl (1, 3600, .inr (.inl fN))) := by rw [eS_31]; exact (am_up_n (by omega)).trans h_19
  have h_35 : S_31.1 (g.2.2.1 + 10) = some (.inl (0, 80, .inl fS)) := by rw [eS_31]; exact (am_up_n (by omega)).trans h_20
  have h_36 : S_31.1 (g.2.2.1 + 11) = some (.inl (0, 80, .inl fa)) := by rw [eS_31]; exact (am_up_n (by omega)).trans h_21
  have h_37 : S_31.1 (g.2.2.1 + 12) = some (.inl (0, 80, .inl fx)) := by rw [eS_31]; exact (am_up_n (by omega)).trans h_22
  have h_38 : S_31.1 (g.2.2.1 + 13) = some (.inl (0, 320, .inl fe)) := by rw [eS_31]; exact (am_up_n (by omega)).trans h_23
  have h_39 : S_31.1 (g.2.2.1 + 14) = some (.inl (0, 320, .inl fs)) := by rw [eS_31]; exact (am_up_n (by omega)).trans h_24
  have h_40 : S_31.1 (g.2.2.1 + 15) = some (.inl (1, 5, .inr (.inl ne))) := by rw [eS_31]; exact (am_up_n (by omega)).trans h_25
  have h_41 : S_31.1 (g.2.2.1 + 16) = some (.inl (1, 5, .inr (.inl nw))) := by rw [eS_31]; exact (am_up_n (by omega)).trans h_26
  have h_42 : S_31.1 (g.2.2.1 + 17) = some (.inl (1, 3000, .inr (.inl rd))) := by rw [eS_31]; exact (am_up_n (by omega)).trans h_27
  have h_43 : S_31.1 (g.2.2.1 + 18) = some (.inl (2, 300, .inl mt)) := by rw [eS_31]; exact (am_up_n (by omega)).trans h_28
  have hf_44 : sv_MF g S S_31 := by rw [eS_31]; exact hf_29.u (by omega) (by omega)
  have h_45 : S_31.1 (g.2.2.1 + 6) = some (.inr (3, [.int th, .int (nI (T.ns + 1)), .ref (g.2.2.1 + 7), .ref (g.2.2.1 + 8), .ref (g.2.2.1 + 9), .int (nI T.nv), .ref (g.2.2.1 + 10), .ref (g.2.2.1 + 11), .ref (g.2.2.1 + 12), .ref (g.2.2.1 + 13), .ref (g.2.2.1 + 14), .ref (g.2.2.1 + 15), .ref (g.2.2.1 + 16), .int (nI na), .ref (g.2.2.1 + 17), .ref (g.2.2.1 + 18)])) := by rw [eS_31]; exact am_up_s
  have hnS_31 : S_31.2.1 = S_16.2.1 := by rw [eS_31]
  have hzS_31 : S_31.2.2 = S_16.2.2 := by rw [eS_31]
  refine am_aloadn d_M_addStore_30 rfl ?_
  refine am_get d_M_addStore_31 fl_M_84 h_45 rfl ?_
  refine am_iconst 1 d_M_addStore_34 (by decide) ?_
  refine am_isub d_M_addStore_35 ?_
  refine am_ti (b := nI T.ns) (nI_pred _) ?_
  exact am_iret d_M_addStore_36 rfl (hP S_31 ⟨_, _, fN, fS, fa, fx, fe, fs, ⟨h_45, h_32, h_33, h_34, h_35, h_36, h_37, h_38, h_39, h_40, h_41, h_42, h_43⟩, sv_TI.addS ⟨t1, t2, t3⟩ ln sz hz, hw.addS hs hz⟩ hf_44)
set_option maxHeartbeats 4000000 in
set_option maxRecDepth 100000 in
/-- add, the loop -/
theorem m_add_l {g : am_G} {d : Nat} {S : am_S} {T : sv_T} {th : Int32}  {ne nw rd : Nat → Int64} {mt : Nat → Int32} {fl fz : Nat → Int32} {fN : Nat → Int64} {fS fa fx fe fs : Nat → Int32} (hTI : sv_TI T fl fz fN fS fa fx fe fs) (hw : sv_wf T) {a : sv_A} {st0 : Int64} (h4 : a.ax ≤ 4) (hE : ∀ k, k < a.ax → ne k = lN (a.ex k)) (hS : ∀ k, k < a.ax → (nw k).toInt32 = a.sp k) (hO : sv_ok a.ex a.ax) (hit : a.it ≤ 3000) (hst : a.st < T.ns) (hin : sv_in a (T.sz a.st)) (hv8 : T.nv < 80) {P : am_O → am_S → Prop} (hP : ∀ S1 : am_S, sv_N g S1.1 (T.addV (sv_set a)) th a.ax ne nw rd mt → sv_MF g S S1 → P (.inl (some (.int (nI T.nv)))) S1) : ∀ (m k : Nat), k + m = a.ax → ∀ (S0 : am_S) (Fe Fs : Nat → Int32), sv_MM g S0.1 th T.ns T.nv a.ax fl fz fN (upd fS T.nv (nI a.st)) (upd fa T.nv (sv_set a).sa) (upd fx T.nv (nI a.ax)) Fe Fs ne nw rd mt → sv_MF g S S0 → (∀ q, q < 4 * T.nv → Fe q = fe q ∧ Fs q = fs q) → (∀ i, i < k → Fe (4 * T.nv + i) = nI (a.ex i) ∧ Fs (4 * T.nv + i) = (sv_set a).sp i) → am_W g d mm_M_add (62, [some (.ref (g.2.2.1 + 6)), some (.int (nI a.st)), some (.long st0), none, some (.int (nI T.nv)), some (.int (sv_if (a.it = 0) 1 0)), some (.int (nI k))], []) S0 P := by
  obtain ⟨t1, t2, t3⟩ := id hTI
  intro m
  induction m using Nat.strongRecOn with
  | ind m ih =>
    intro k hk S0 Fe Fs hMM hfr hI1 hI2
    obtain ⟨m0, m1, m2, m3, m4, m5, m6, m7, m8, m9, m10, m11, m12⟩ := id hMM
    refine am_iload d_M_add_62 rfl ?_
    refine am_aloadn d_M_add_64 rfl ?_
    refine am_get d_M_add_65 fl_M_59 m0 rfl ?_
    refine am_icge (tgt := 140) d_M_add_68 (by decide) (fun hc => ?_) (fun hc => ?_)
    · have hk0 : a.ax ≤ k := (nI_leI (by omega) (by omega)).mp hc
      obtain rfl : k = a.ax := by omega
      refine am_aloadn d_M_add_140 rfl ?_
      refine am_dup d_M_add_141 rfl ?_
      refine am_get d_M_add_142 fl_M_52 m0 rfl ?_
      refine am_iconst 1 d_M_add_145 (by decide) ?_
      refine am_iadd d_M_add_146 ?_
      refine am_ti (b := nI (T.nv + 1)) (nI_1 _) ?_
      refine am_put d_M_add_147 fp_M_52 m0 rfl rfl (Nat.le_of_ble_eq_true rfl) ?_
      obtain ⟨S_1, eS_1⟩ : ∃ z : am_S, z = (am_up S0.1 (g.2.2.1 + 6) (.inr (3, [.int th, .int (nI T.ns), .ref (g.2.2.1 + 7), .ref (g.2.2.1 + 8), .ref (g.2.2.1 + 9), .int (nI (T.nv + 1)), .ref (g.2.2.1 + 10), .ref (g.2.2.1 + 11), .ref (g.2.2.1 + 12), .ref (g.2.2.1 + 13), .ref (g.2.2.1 + 14), .ref (g.2.2.1 + 15), .ref (g.2.2.1 + 16), .int (nI a.ax), .ref (g.2.2.1 + 17), .ref (g.2.2.1 + 18)])), S0.2) := ⟨_, rfl⟩
      change am_W _ _ _ _ (am_up S0.1 (g.2.2.1 + 6) (.inr (3, [.int th, .int (nI T.ns), .ref (g.2.2.1 + 7), .ref (g.2.2.1 + 8), .ref (g.2.2.1 + 9), .int (nI (T.nv + 1)), .ref (g.2.2.1 + 10), .ref (g.2.2.1 + 11), .ref (g.2.2.1 + 12), .ref (g.2.2.1 + 13), .ref (g.2.2.1 + 14), .ref (g.2.2.1 + 15), .ref (g.2.2.1 + 16), .int (nI a.ax), .ref (g.2.2.1 + 17), .ref (g.2.2.1 + 18)])), S0.2) _
      rw [← eS_1]
      have h_2 : S_1.1 (g.2.2.1 + 7) = some (.inl (0, 12, .inl fl)) := by rw [eS_1]; exact (am_up_n (by omega)).trans m1
      have h_3 : S_1.1 (g.2.2.1 + 8) = some (.inl (0, 12, .inl fz)) := by rw [eS_1]; exact (am_up_n (by omega)).trans m2
      have h_4 : S_1.1 (g.2.2.1 + 9) = some (.inl (1, 3600, .inr (.inl fN))) := by rw [eS_1]; exact (am_up_n (by omega)).trans m3
      have h_5 : S_1.1 (g.2.2.1 + 10) = some (.inl (0, 80, .inl (upd fS T.nv (nI a.st)))) := by rw [eS_1]; exact (am_up_n (by omega)).trans m4
      have h_6 : S_1.1 (g.2.2.1 + 11) = some (.inl (0, 80, .inl (upd fa T.nv (sv_set a).sa))) := by rw [eS_1]; exact (am_up_n (by omega)).trans m5
      have h_7 : S_1.1 (g.2.2.1 + 12) = some (.inl (0, 80, .inl (upd fx T.nv (nI a.ax)))) := by rw [eS_1]; exact (am_up_n (by omega)).trans m6
      have h_8 : S_1.1 (g.2.2.1 + 13) = some (.inl (0, 320, .inl Fe)) := by rw [eS_1]; exact (am_up_n (by omega)).trans m7
      have h_9 : S_1.1 (g.2.2.1 + 14) = some (.inl (0, 320, .inl Fs)) := by rw [eS_1]; exact (am_up_n (by omega)).trans m8
      have h_10 : S_1.1 (g.2.2.1 + 15) = some (.inl (1, 5, .inr (.inl ne))) := by rw [eS_1]; exact (am_up_n (by omega)).trans m9
      have h_11 : S_1.1 (g.2.2.1 + 16) = some (.inl (1, 5, .inr (.inl nw))) := by rw [eS_1]; exact (am_up_n (by omega)).trans m10
      have h_12 : S_1.1 (g.2.2.1 + 17) = some (.inl (1, 3000, .inr (.inl rd))) := by rw [eS_1]; exact (am_up_n (by omega)).trans m11
      have h_13 : S_1.1 (g.2.2.1 + 18) = some (.inl (2, 300, .inl mt)) := by rw [eS_1]; exact (am_up_n (by omega)).trans m12
      have hf_14 : sv_MF g S S_1 := by rw [eS_1]; exact hfr.u (by omega) (by omega)
      have h_15 : S_1.1 (g.2.2.1 + 6) = some (.inr (3, [.int th, .int (nI T.ns), .ref (g.2.2.1 + 7), .ref (g.2.2.1 + 8), .ref (g.2.2.1 + 9), .int (nI (T.nv + 1)), .ref (g.2.2.1 + 10), .ref (g.2.2.1 + 11), .ref (g.2.2.1 + 12), .ref (g.2.2.1 + 13), .ref (g.2.2.1 + 14), .ref (g.2.2.1 + 15), .ref (g.2.2.1 + 16), .int (nI a.ax), .ref (g.2.2.1 + 17), .ref (g.2.2.1 + 18)])) := by rw [eS_1]; exact am_up_s
      have hnS_1 : S_1.2.1 = S0.2.1 := by rw [eS_1]
      have hzS_1 : S_1.2.2 = S0.2.2 := by rw [eS_1]
      refine am_iload d_M_add_150 rfl ?_
      exact am_iret d_M_add_152 rfl (hP S_1 ⟨fl, fz, fN, _, _, _, Fe, Fs, ⟨h_15, h_2, h_3, h_4, h_5, h_6, h_7, h_8, h_9, h_10, h_11, h_12, h_13⟩, sv_TI.addV ⟨t1, t2, t3⟩ hw (sv_set a) h4 hI1 (fun i hi => hI2 i hi), hw.addV hv8 (sv_set_wv hst h4 hO hit hin)⟩ hf_14)
    · have hlt : k < a.ax := Nat.lt_of_not_le (fun q => hc (nI_le q (by omega)))
      have hO9 := hO k hlt
      refine am_aloadn d_M_add_71 rfl ?_
      refine am_get d_M_add_72 fl_M_29 m0 rfl ?_
      refine am_iconst 4 d_M_add_75 (by decide) ?_
      refine am_iload d_M_add_76 rfl ?_
      refine am_imul d_M_add_78 ?_
      refine am_iload d_M_add_79 rfl ?_
      refine am_iadd d_M_add_81 ?_
      refine am_ti (b := nI (4 * T.nv + k)) (sv_4 _ _) ?_
      refine am_aloadn d_M_add_82 rfl ?_
      refine am_get d_M_add_83 fl_M_35 m0 rfl ?_
      refine am_iload d_M_add_86 rfl ?_
      refine am_laldN (t := 1) (k := k) d_M_add_88 rfl m9 (by omega) (by omega) ?_
      refine am_tl (b := lN (a.ex k)) (hE k hlt) ?_
      refine am_l2i d_M_add_89 ?_
      refine am_ti (b := nI (a.ex k)) (lN_i _) ?_
      refine am_iastN (t := 0) d_M_add_90 rfl m7 (by omega) (by omega) ?_
      obtain ⟨S_16, eS_16⟩ : ∃ z : am_S, z = (am_up S0.1 (g.2.2.1 + 13) (.inl (0, 320, .inl (upd Fe (4 * T.nv + k) (nI (a.ex k))))), S0.2) := ⟨_, rfl⟩
      change am_W _ _ _ _ (am_up S0.1 (g.2.2.1 + 13) (.inl (0, 320, .inl (upd Fe (4 * T.nv + k) (nI (a.ex k))))), S0.2) _
      rw [← eS_16]
      have h_17 : S_16.1 (g.2.2.1 + 6) = some (.inr (3, [.int th, .int (nI T.ns), .ref (g.2.2.1 + 7), .ref (g.2.2.1 + 8), .ref (g.2.2.1 + 9), .int (nI T.nv), .ref (g.2.2.1 + 10), .ref (g.2.2.1 + 11), .ref (g.2.2.1 + 12), .ref (g.2.2.1 + 13), .ref (g.2.2.1 + 14), .ref (g.2.2.1 + 15), .ref (g.2.2.1 + 16), .int (nI a.ax), .ref (g.2.2.1 + 17), .ref (g.2.2.1 + 18)])) := by rw [eS_16]; exact (am_up_n (by omega)).trans m0
      have h_18 : S_16.1 (g.2.2.1 + 7) = some (.inl (0, 12, .inl fl)) := by rw [eS_16]; exact (am_up_n (by omega)).trans m1
      have h_19 : S_16.1 (g.2.2.1 + 8) = some (.inl (0, 12, .inl fz)) := by rw [eS_16]; exact (am_up_n (by omega)).trans m2
      have h_20 : S_16.1 (g.2.2.1 + 9) = some (.inl (1, 3600, .inr (.inl fN))) := by rw [eS_16]; exact (am_up_n (by omega)).trans m3
      have h_21 : S_16.1 (g.2.2.1 + 10) = some (.inl (0, 80, .inl (upd fS T.nv (nI a.st)))) := by rw [eS_16]; exact (am_up_n (by omega)).trans m4
      have h_22 : S_16.1 (g.2.2.1 + 11) = some (.inl (0, 80, .inl (upd fa T.nv (sv_set a).sa))) := by rw [eS_16]; exact (am_up_n (by omega)).trans m5
      have h_23 : S_16.1 (g.2.2.1 + 12) = some (.inl (0, 80, .inl (upd fx T.nv (nI a.ax)))) := by rw [eS_16]; exact (am_up_n (by omega)).trans m6
      have h_24 : S_16.1 (g.2.2.1 + 14) = some (.inl (0, 320, .inl Fs)) := by rw [eS_16]; exact (am_up_n (by omega)).trans m8
      have h_25 : S_16.1 (g.2.2.1 + 15) = some (.inl (1, 5, .inr (.inl ne))) := by rw [eS_16]; exact (am_up_n (by omega)).trans m9
      have h_26 : S_16.1 (g.2.2.1 + 16) = some (.inl (1, 5, .inr (.inl nw))) := by rw [eS_16]; exact (am_up_n (by omega)).trans m10
      have h_27 : S_16.1 (g.2.2.1 + 17) = some (.inl (1, 3000, .inr (.inl rd))) := by rw [eS_16]; exact (am_up_n (by omega)).trans m11
      have h_28 : S_16.1 (g.2.2.1 + 18) = some (.inl (2, 300, .inl mt)) := by rw [eS_16]; exact (am_up_n (by omega)).trans m12
      have hf_29 : sv_MF g S S_16 := by rw [eS_16]; exact hfr.u (by omega) (by omega)
      have h_30 : S_16.1 (g.2.2.1 + 13) = some (.inl (0, 320, .inl (upd Fe (4 * T.nv + k) (nI (a.ex k))))) := by rw [eS_16]; exact am_up_s
      have hnS_16 : S_16.2.1 = S0.2.1 := by rw [eS_16]
      have hzS_16 : S_16.2.2 = S0.2.2 := by rw [eS_16]
      refine am_aloadn d_M_add_91 rfl ?_
      refine am_get d_M_add_92 fl_M_32 h_17 rfl ?_
      refine am_iconst 4 d_M_add_95 (by decide) ?_
      refine am_iload d_M_add_96 rfl ?_
      refine am_imul d_M_add_98 ?_
      refine am_iload d_M_add_99 rfl ?_
      refine am_iadd d_M_add_101 ?_
      refine am_ti (b := nI (4 * T.nv + k)) (sv_4 _ _) ?_
      refine am_cut (F := (133, [some (.ref (g.2.2.1 + 6)), some (.int (nI a.st)), some (.long st0), none, some (.int (nI T.nv)), some (.int (sv_if (a.it = 0) 1 0)), some (.int (nI k))], [.int ((sv_set a).sp k), .int (nI (4 * T.nv + k)), .ref (g.2.2.1 + 14)])) ?_ (fun key => ?_)
      · refine am_iastN (t := 0) d_M_add_133 rfl h_24 (by omega) (by omega) ?_
        obtain ⟨S_31, eS_31⟩ : ∃ z : am_S, z = (am_up S_16.1 (g.2.2.1 + 14) (.inl (0, 320, .inl (upd Fs (4 * T.nv + k) ((sv_set a).sp k)))), S_16.2) := ⟨_, rfl⟩
        change am_W _ _ _ _ (am_up S_16.1 (g.2.2.1 + 14) (.inl (0, 320, .inl (upd Fs (4 * T.nv + k) ((sv_set a).sp k)))), S_16.2) _
        rw [← eS_31]
        have h_32 : S_31.1 (g.2.2.1 + 6) = some (.inr (3, [.int th, .int (nI T.ns), .ref (g.2.2.1 + 7), .ref (g.2.2.1 + 8), .ref (g.2.2.1 + 9), .int (nI T.nv), .ref (g.2.2.1 + 10), .ref (g.2.2.1 + 11), .ref (g.2.2.1 + 12), .ref (g.2.2.1 + 13), .ref (g.2.2.1 + 14), .ref (g.2.2.1 + 15), .ref (g.2.2.1 + 16), .int (nI a.ax), .ref (g.2.2.1 + 17), .ref (g.2.2.1 + 18)])) := by rw [eS_31]; exact (am_up_n (by omega)).trans h_17
        have h_33 : S_31.1 (g.2.2.1 + 7) = some (.inl (0, 12, .inl fl)) := by rw [eS_31]; exact (am_up_n (by omega)).trans h_18
        have h_34 : S_31.1 (g.2.2.1 + 8) = some (.inl (0, 12, .inl fz)) := by rw [eS_31]; exact (am_up_n (by omega)).trans h_19
        have h_35 : S_31.1 (g.2.2.1 + 9) = some (.inl (1, 3600, .inr (.inl fN))) := by rw [eS_31]; exact (am_up_n (by omega)).trans h_20
        have h_36 : S_31.1 (g.2.2.1 + 10) = some (.inl (0, 80, .inl (upd fS T.nv (nI a.st)))) := by rw [eS_31]; exact (am_up_n (by omega)).trans h_21
        have h_37 : S_31.1 (g.2.2.1 + 11) = some (.inl (0, 80, .inl (upd fa T.nv (sv_set a).sa))) := by rw [eS_31]; exact (am_up_n (by omega)).trans h_22
        have h_38 : S_31.1 (g.2.2.1 + 12) = some (.inl (0, 80, .inl (upd fx T.nv (nI a.ax)))) := by rw [eS_31]; exact (am_up_n (by omega)).trans h_23
        have h_39 : S_31.1 (g.2.2.1 + 13) = some (.inl (0, 320, .inl (upd Fe (4 * T.nv + k) (nI (a.ex k))))) := by rw [eS_31]; exact (am_up_n (by omega)).trans h_30
        have h_40 : S_31.1 (g.2.2.1 + 15) = some (.inl (1, 5, .inr (.inl ne))) := by rw [eS_31]; exact (am_up_n (by omega)).trans h_25
        have h_41 : S_31.1 (g.2.2.1 + 16) = some (.inl (1, 5, .inr (.inl nw))) := by rw [eS_31]; exact (am_up_n (by omega)).trans h_26
        have h_42 : S_31.1 (g.2.2.1 + 17) = some (.inl (1, 3000, .inr (.inl rd))) := by rw [eS_31]; exact (am_up_n (by omega)).trans h_27
        have h_43 : S_31.1 (g.2.2.1 + 18) = some (.inl (2, 300, .inl mt)) := by rw [eS_31]; exact (am_up_n (by omega)).trans h_28
        have hf_44 : sv_MF g S S_31 := by rw [eS_31]; exact hf_29.u (by omega) (by omega)
        have h_45 : S_31.1 (g.2.2.1 + 14) = some (.inl (0, 320, .inl (upd Fs (4 * T.nv + k) ((sv_set a).sp k)))) := by rw [eS_31]; exact am_up_s
        have hnS_31 : S_31.2.1 = S_16.2.1 := by rw [eS_31]
        have hzS_31 : S_31.2.2 = S_16.2.2 := by rw [eS_31]
        refine am_iinc (v := nI (k + 1)) (L' := [some (.ref (g.2.2.1 + 6)), some (.int (nI a.st)), some (.long st0), none, some (.int (nI T.nv)), some (.int (sv_if (a.it = 0) 1 0)), some (.int (nI (k + 1)))]) d_M_add_134 rfl (nI_1 k) (by decide) rfl rfl ?_
        refine am_goto (tgt := 62) d_M_add_137 (by decide) ?_
        refine ih (m - 1) (by omega) (k + 1) (by omega) _ _ _ ⟨h_32, h_33, h_34, h_35, h_36, h_37, h_38, h_39, h_45, h_40, h_41, h_42, h_43⟩ hf_44 (fun q hq => ?_) (fun i hi => ?_)
        · rw [pk_un (by omega), pk_un (by omega)]
          exact hI1 q hq
        · by_cases e : i = k
          · subst e
            rw [pk_us, pk_us]
            exact ⟨rfl, rfl⟩
          · rw [pk_un (by omega), pk_un (by omega)]
            exact hI2 i (by omega)
      · refine am_iload d_M_add_102 rfl ?_
        refine am_ifne (tgt := 121) d_M_add_104 (by decide) (fun hz => ?_) (fun hz => ?_)
        · refine am_iconst 0 d_M_add_121 (by decide) ?_
          refine am_goto (tgt := 133) d_M_add_122 (by decide) ?_
          rw [show (sv_set a).sp k = 0 from if_pos (Or.inl (sv_b1 hz))] at key
          exact key
        · refine am_aloadn d_M_add_107 rfl ?_
          refine am_get d_M_add_108 fl_M_35 h_17 rfl ?_
          refine am_iload d_M_add_111 rfl ?_
          refine am_laldN (t := 1) (k := k) d_M_add_113 rfl h_25 (by omega) (by omega) ?_
          refine am_tl (b := lN (a.ex k)) (hE k hlt) ?_
          refine am_ldc2 2 d_M_add_114 (am_in 609 (by decide +kernel) rfl) ?_
          refine am_lcmp d_M_add_117 ?_
          refine am_ifge (tgt := 125) d_M_add_118 (by decide) (fun hy => ?_) (fun hy => ?_)
          · have h2 : ¬ a.ex k < 2 := fun q => Int32.not_lt.mpr hy (sv_lcl.mpr ((pk_lLT (b := 2) (by omega) (by decide)).mpr q))
            refine am_aloadn d_M_add_125 rfl ?_
            refine am_get d_M_add_126 fl_M_38 h_17 rfl ?_
            refine am_iload d_M_add_129 rfl ?_
            refine am_laldN (t := 1) (k := k) d_M_add_131 rfl h_26 (by omega) (by omega) ?_
            refine am_l2i d_M_add_132 ?_
            refine am_ti (b := a.sp k) (hS k hlt) ?_
            rw [show (sv_set a).sp k = a.sp k from if_neg (fun q => q.elim (sv_b0 hz) h2)] at key
            exact key
          · have h2 : a.ex k < 2 := (pk_lLT (b := 2) (by omega) (by decide)).mp (sv_lcl.mp (Int32.not_le.mp hy))
            refine am_iconst 0 d_M_add_121 (by decide) ?_
            refine am_goto (tgt := 133) d_M_add_122 (by decide) ?_
            rw [show (sv_set a).sp k = 0 from if_pos (Or.inr h2)] at key
            exact key
set_option maxHeartbeats 4000000 in
set_option maxRecDepth 100000 in
/-- M_add -/
theorem m_add {g : am_G} {d : Nat} {S : am_S} {T : sv_T} {th : Int32} {na : Nat} {ne nw rd : Nat → Int64} {mt : Nat → Int32} (hM : sv_N g S.1 T th na ne nw rd mt) {a : sv_A} (hax : a.ax = na) {st0 : Int64} (h4 : a.ax ≤ 4) (hE : ∀ k, k < a.ax → ne k = lN (a.ex k)) (hS : ∀ k, k < a.ax → (nw k).toInt32 = a.sp k) (hO : sv_ok a.ex a.ax) (hit : a.it ≤ 3000) (hst : a.st < T.ns) (hin : sv_in a (T.sz a.st)) (hv8 : T.nv < 80) (hs0 : st0.toInt32 = a.sa) {P : am_O → am_S → Prop} (hP : ∀ S1 : am_S, sv_N g S1.1 (T.addV (sv_set a)) th a.ax ne nw rd mt → sv_MF g S S1 → P (.inl (some (.int (nI T.nv)))) S1) : am_W g (d + 1) mm_M_add (0, am_ent [.ref (g.2.2.1 + 6), .int (nI a.st), .long st0] 7, []) S (P) := by
  obtain ⟨fl, fz, fN, fS, fa, fx, fe, fs, ⟨m0, m1, m2, m3, m4, m5, m6, m7, m8, m9, m10, m11, m12⟩, ⟨t1, t2, t3⟩, hw⟩ := id hM
  have h80 := hw.2.1
  have h12 := hw.1
  show am_W g (d + 1) mm_M_add (0, [some (.ref (g.2.2.1 + 6)), some (.int (nI a.st)), some (.long st0), none, none, none, none], []) S _
  refine am_aloadn d_M_add_0 rfl ?_
  refine am_get d_M_add_1 fl_M_52 m0 rfl ?_
  refine am_istore (L' := [some (.ref (g.2.2.1 + 6)), some (.int (nI a.st)), some (.long st0), none, some (.int (nI T.nv)), none, none]) d_M_add_4 (by decide) rfl rfl ?_
  refine am_aloadn d_M_add_6 rfl ?_
  subst hax
  refine am_cpsV [] [] d_M_add_7 cV_M_78 rfl m0 rfl rfl (Nat.le_of_ble_eq_true rfl) (Nat.le_of_ble_eq_true rfl) (m_product hM a.ex hE hO (by omega) ?_)
  show am_W g (d + 1) mm_M_add (10, [some (.ref (g.2.2.1 + 6)), some (.int (nI a.st)), some (.long st0), none, some (.int (nI T.nv)), none, none], [.long (lN (min (sv_pr a.ex a.ax) 3001))]) S _
  refine am_lconst 0 d_M_add_10 (by decide) ?_
  refine am_lcmp d_M_add_11 ?_
  refine am_cut (F := (20, [some (.ref (g.2.2.1 + 6)), some (.int (nI a.st)), some (.long st0), none, some (.int (nI T.nv)), none, none], [.int (sv_if (a.it = 0) 1 0)])) ?_ (fun key => ?_)
  · refine am_istore (L' := [some (.ref (g.2.2.1 + 6)), some (.int (nI a.st)), some (.long st0), none, some (.int (nI T.nv)), some (.int (sv_if (a.it = 0) 1 0)), none]) d_M_add_20 (by decide) rfl rfl ?_
    refine am_aloadn d_M_add_22 rfl ?_
    refine am_get d_M_add_23 fl_M_20 m0 rfl ?_
    refine am_iload d_M_add_26 rfl ?_
    refine am_iloadn d_M_add_28 rfl ?_
    refine am_iastN (t := 0) d_M_add_29 rfl m4 (by omega) (by omega) ?_
    obtain ⟨S_1, eS_1⟩ : ∃ z : am_S, z = (am_up S.1 (g.2.2.1 + 10) (.inl (0, 80, .inl (upd fS T.nv (nI a.st)))), S.2) := ⟨_, rfl⟩
    change am_W _ _ _ _ (am_up S.1 (g.2.2.1 + 10) (.inl (0, 80, .inl (upd fS T.nv (nI a.st)))), S.2) _
    rw [← eS_1]
    have h_2 : S_1.1 (g.2.2.1 + 6) = some (.inr (3, [.int th, .int (nI T.ns), .ref (g.2.2.1 + 7), .ref (g.2.2.1 + 8), .ref (g.2.2.1 + 9), .int (nI T.nv), .ref (g.2.2.1 + 10), .ref (g.2.2.1 + 11), .ref (g.2.2.1 + 12), .ref (g.2.2.1 + 13), .ref (g.2.2.1 + 14), .ref (g.2.2.1 + 15), .ref (g.2.2.1 + 16), .int (nI a.ax), .ref (g.2.2.1 + 17), .ref (g.2.2.1 + 18)])) := by rw [eS_1]; exact (am_up_n (by omega)).trans m0
    have h_3 : S_1.1 (g.2.2.1 + 7) = some (.inl (0, 12, .inl fl)) := by rw [eS_1]; exact (am_up_n (by omega)).trans m1
    have h_4 : S_1.1 (g.2.2.1 + 8) = some (.inl (0, 12, .inl fz)) := by rw [eS_1]; exact (am_up_n (by omega)).trans m2
    have h_5 : S_1.1 (g.2.2.1 + 9) = some (.inl (1, 3600, .inr (.inl fN))) := by rw [eS_1]; exact (am_up_n (by omega)).trans m3
    have h_6 : S_1.1 (g.2.2.1 + 11) = some (.inl (0, 80, .inl fa)) := by rw [eS_1]; exact (am_up_n (by omega)).trans m5
    have h_7 : S_1.1 (g.2.2.1 + 12) = some (.inl (0, 80, .inl fx)) := by rw [eS_1]; exact (am_up_n (by omega)).trans m6
    have h_8 : S_1.1 (g.2.2.1 + 13) = some (.inl (0, 320, .inl fe)) := by rw [eS_1]; exact (am_up_n (by omega)).trans m7
    have h_9 : S_1.1 (g.2.2.1 + 14) = some (.inl (0, 320, .inl fs)) := by rw [eS_1]; exact (am_up_n (by omega)).trans m8
    have h_10 : S_1.1 (g.2.2.1 + 15) = some (.inl (1, 5, .inr (.inl ne))) := by rw [eS_1]; exact (am_up_n (by omega)).trans m9
    have h_11 : S_1.1 (g.2.2.1 + 16) = some (.inl (1, 5, .inr (.inl nw))) := by rw [eS_1]; exact (am_up_n (by omega)).trans m10
    have h_12 : S_1.1 (g.2.2.1 + 17) = some (.inl (1, 3000, .inr (.inl rd))) := by rw [eS_1]; exact (am_up_n (by omega)).trans m11
    have h_13 : S_1.1 (g.2.2.1 + 18) = some (.inl (2, 300, .inl mt)) := by rw [eS_1]; exact (am_up_n (by omega)).trans m12
    have hf_14 : sv_MF g S S_1 := by rw [eS_1]; exact sv_MF.rf.u (by omega) (by omega)
    have h_15 : S_1.1 (g.2.2.1 + 10) = some (.inl (0, 80, .inl (upd fS T.nv (nI a.st)))) := by rw [eS_1]; exact am_up_s
    have hnS_1 : S_1.2.1 = S.2.1 := by rw [eS_1]
    have hzS_1 : S_1.2.2 = S.2.2 := by rw [eS_1]
    refine am_aloadn d_M_add_30 rfl ?_
    refine am_get d_M_add_31 fl_M_23 h_2 rfl ?_
    refine am_iload d_M_add_34 rfl ?_
    refine am_iload d_M_add_36 rfl ?_
    refine am_cut (F := (47, [some (.ref (g.2.2.1 + 6)), some (.int (nI a.st)), some (.long st0), none, some (.int (nI T.nv)), some (.int (sv_if (a.it = 0) 1 0)), none], [.int ((sv_set a).sa), .int (nI T.nv), .ref (g.2.2.1 + 11)])) ?_ (fun key => ?_)
    · refine am_iastN (t := 0) d_M_add_47 rfl h_6 (by omega) (by omega) ?_
      obtain ⟨S_16, eS_16⟩ : ∃ z : am_S, z = (am_up S_1.1 (g.2.2.1 + 11) (.inl (0, 80, .inl (upd fa T.nv ((sv_set a).sa)))), S_1.2) := ⟨_, rfl⟩
      change am_W _ _ _ _ (am_up S_1.1 (g.2.2.1 + 11) (.inl (0, 80, .inl (upd fa T.nv ((sv_set a).sa)))), S_1.2) _
      rw [← eS_16]
      have h_17 : S_16.1 (g.2.2.1 + 6) = some (.inr (3, [.int th, .int (nI T.ns), .ref (g.2.2.1 + 7), .ref (g.2.2.1 + 8), .ref (g.2.2.1 + 9), .int (nI T.nv), .ref (g.2.2.1 + 10), .ref (g.2.2.1 + 11), .ref (g.2.2.1 + 12), .ref (g.2.2.1 + 13), .ref (g.2.2.1 + 14), .ref (g.2.2.1 + 15), .ref (g.2.2.1 + 16), .int (nI a.ax), .ref (g.2.2.1 + 17), .ref (g.2.2.1 + 18)])) := by rw [eS_16]; exact (am_up_n (by omega)).trans h_2
      have h_18 : S_16.1 (g.2.2.1 + 7) = some (.inl (0, 12, .inl fl)) := by rw [eS_16]; exact (am_up_n (by omega)).trans h_3
      have h_19 : S_16.1 (g.2.2.1 + 8) = some (.inl (0, 12, .inl fz)) := by rw [eS_16]; exact (am_up_n (by omega)).trans h_4
      have h_20 : S_16.1 (g.2.2.1 + 9) = some (.inl (1, 3600, .inr (.inl fN))) := by rw [eS_16]; exact (am_up_n (by omega)).trans h_5
      have h_21 : S_16.1 (g.2.2.1 + 10) = some (.inl (0, 80, .inl (upd fS T.nv (nI a.st)))) := by rw [eS_16]; exact (am_up_n (by omega)).trans h_15
      have h_22 : S_16.1 (g.2.2.1 + 12) = some (.inl (0, 80, .inl fx)) := by rw [eS_16]; exact (am_up_n (by omega)).trans h_7
      have h_23 : S_16.1 (g.2.2.1 + 13) = some (.inl (0, 320, .inl fe)) := by rw [eS_16]; exact (am_up_n (by omega)).trans h_8
      have h_24 : S_16.1 (g.2.2.1 + 14) = some (.inl (0, 320, .inl fs)) := by rw [eS_16]; exact (am_up_n (by omega)).trans h_9
      have h_25 : S_16.1 (g.2.2.1 + 15) = some (.inl (1, 5, .inr (.inl ne))) := by rw [eS_16]; exact (am_up_n (by omega)).trans h_10
      have h_26 : S_16.1 (g.2.2.1 + 16) = some (.inl (1, 5, .inr (.inl nw))) := by rw [eS_16]; exact (am_up_n (by omega)).trans h_11
      have h_27 : S_16.1 (g.2.2.1 + 17) = some (.inl (1, 3000, .inr (.inl rd))) := by rw [eS_16]; exact (am_up_n (by omega)).trans h_12
      have h_28 : S_16.1 (g.2.2.1 + 18) = some (.inl (2, 300, .inl mt)) := by rw [eS_16]; exact (am_up_n (by omega)).trans h_13
      have hf_29 : sv_MF g S S_16 := by rw [eS_16]; exact hf_14.u (by omega) (by omega)
      have h_30 : S_16.1 (g.2.2.1 + 11) = some (.inl (0, 80, .inl (upd fa T.nv ((sv_set a).sa)))) := by rw [eS_16]; exact am_up_s
      have hnS_16 : S_16.2.1 = S_1.2.1 := by rw [eS_16]
      have hzS_16 : S_16.2.2 = S_1.2.2 := by rw [eS_16]
      refine am_aloadn d_M_add_48 rfl ?_
      refine am_get d_M_add_49 fl_M_26 h_17 rfl ?_
      refine am_iload d_M_add_52 rfl ?_
      refine am_aloadn d_M_add_54 rfl ?_
      refine am_get d_M_add_55 fl_M_59 h_17 rfl ?_
      refine am_iastN (t := 0) d_M_add_58 rfl h_22 (by omega) (by omega) ?_
      obtain ⟨S_31, eS_31⟩ : ∃ z : am_S, z = (am_up S_16.1 (g.2.2.1 + 12) (.inl (0, 80, .inl (upd fx T.nv (nI a.ax)))), S_16.2) := ⟨_, rfl⟩
      change am_W _ _ _ _ (am_up S_16.1 (g.2.2.1 + 12) (.inl (0, 80, .inl (upd fx T.nv (nI a.ax)))), S_16.2) _
      rw [← eS_31]
      have h_32 : S_31.1 (g.2.2.1 + 6) = some (.inr (3, [.int th, .int (nI T.ns), .ref (g.2.2.1 + 7), .ref (g.2.2.1 + 8), .ref (g.2.2.1 + 9), .int (nI T.nv), .ref (g.2.2.1 + 10), .ref (g.2.2.1 + 11), .ref (g.2.2.1 + 12), .ref (g.2.2.1 + 13), .ref (g.2.2.1 + 14), .ref (g.2.2.1 + 15), .ref (g.2.2.1 + 16), .int (nI a.ax), .ref (g.2.2.1 + 17), .ref (g.2.2.1 + 18)])) := by rw [eS_31]; exact (am_up_n (by omega)).trans h_17
      have h_33 : S_31.1 (g.2.2.1 + 7) = some (.inl (0, 12, .inl fl)) := by rw [eS_31]; exact (am_up_n (by omega)).trans h_18
      have h_34 : S_31.1 (g.2.2.1 + 8) = some (.inl (0, 12, .inl fz)) := by rw [eS_31]; exact (am_up_n (by omega)).trans h_19
      have h_35 : S_31.1 (g.2.2.1 + 9) = some (.inl (1, 3600, .inr (.inl fN))) := by rw [eS_31]; exact (am_up_n (by omega)).trans h_20
      have h_36 : S_31.1 (g.2.2.1 + 10) = some (.inl (0, 80, .inl (upd fS T.nv (nI a.st)))) := by rw [eS_31]; exact (am_up_n (by omega)).trans h_21
      have h_37 : S_31.1 (g.2.2.1 + 11) = some (.inl (0, 80, .inl (upd fa T.nv ((sv_set a).sa)))) := by rw [eS_31]; exact (am_up_n (by omega)).trans h_30
      have h_38 : S_31.1 (g.2.2.1 + 13) = some (.inl (0, 320, .inl fe)) := by rw [eS_31]; exact (am_up_n (by omega)).trans h_23
      have h_39 : S_31.1 (g.2.2.1 + 14) = some (.inl (0, 320, .inl fs)) := by rw [eS_31]; exact (am_up_n (by omega)).trans h_24
      have h_40 : S_31.1 (g.2.2.1 + 15) = some (.inl (1, 5, .inr (.inl ne))) := by rw [eS_31]; exact (am_up_n (by omega)).trans h_25
      have h_41 : S_31.1 (g.2.2.1 + 16) = some (.inl (1, 5, .inr (.inl nw))) := by rw [eS_31]; exact (am_up_n (by omega)).trans h_26
      have h_42 : S_31.1 (g.2.2.1 + 17) = some (.inl (1, 3000, .inr (.inl rd))) := by rw [eS_31]; exact (am_up_n (by omega)).trans h_27
      have h_43 : S_31.1 (g.2.2.1 + 18) = some (.inl (2, 300, .inl mt)) := by rw [eS_31]; exact (am_up_n (by omega)).trans h_28
      have hf_44 : sv_MF g S S_31 := by rw [eS_31]; exact hf_29.u (by omega) (by omega)
      have h_45 : S_31.1 (g.2.2.1 + 12) = some (.inl (0, 80, .inl (upd fx T.nv (nI a.ax)))) := by rw [eS_31]; exact am_up_s
      have hnS_31 : S_31.2.1 = S_16.2.1 := by rw [eS_31]
      have hzS_31 : S_31.2.2 = S_16.2.2 := by rw [eS_31]
      refine am_iconst 0 d_M_add_59 (by decide) ?_
      refine am_istore (L' := [some (.ref (g.2.2.1 + 6)), some (.int (nI a.st)), some (.long st0), none, some (.int (nI T.nv)), some (.int (sv_if (a.it = 0) 1 0)), some (.int 0)]) d_M_add_60 (by decide) rfl rfl ?_
      exact m_add_l ⟨t1, t2, t3⟩ hw h4 hE hS hO hit hst hin hv8 hP a.ax 0 (Nat.zero_add _) S_31 fe fs ⟨h_32, h_33, h_34, h_35, h_36, h_37, h_45, h_38, h_39, h_40, h_41, h_42, h_43⟩ hf_44 (fun q _ => ⟨rfl, rfl⟩) (fun i hi => absurd hi (Nat.not_lt_zero i))
    · refine am_ifeq (tgt := 45) d_M_add_38 (by decide) (fun hz => ?_) (fun hz => ?_)
      · refine am_lloadn d_M_add_45 rfl ?_
        refine am_l2i d_M_add_46 ?_
        refine am_ti (b := a.sa) hs0 ?_
        rw [show (sv_set a).sa = a.sa from if_neg (sv_b0 hz)] at key
        exact key
      · refine am_iconst 0 d_M_add_41 (by decide) ?_
        refine am_goto (tgt := 47) d_M_add_42 (by decide) ?_
        rw [show (sv_set a).sa = 0 from if_pos (sv_b1 hz)] at key
        exact key
  · refine am_ifne (tgt := 19) d_M_add_12 (by decide) (fun hz => ?_) (fun hz => ?_)
    · refine am_iconst 0 d_M_add_19 (by decide) ?_
      rw [sv_if_n (fun q => hz (sv_lce.mpr (by have q2 : sv_pr a.ex a.ax = 0 := q; rw [q2]; rfl)))] at key
      exact key
    · refine am_iconst 1 d_M_add_15 (by decide) ?_
      refine am_goto (tgt := 20) d_M_add_16 (by decide) ?_
      rw [sv_if_y (by have h9 : min (sv_pr a.ex a.ax) 3001 = 0 := (lN_eq (b := 0) (by omega) (by decide)).mp (sv_lce.mp hz); show sv_pr a.ex a.ax = 0; omega)] at key
      exact key
