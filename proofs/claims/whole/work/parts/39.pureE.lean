/-! where the items of derived views lie -/
theorem sv_sum_one {f f2 : Nat → Int32} {k : Nat} : ∀ {n : Nat}, k < n → (∀ l, l < n → l ≠ k → f2 l = f l) → sv_sum f2 n + f k = sv_sum f n + f2 k := by
  intro n
  induction n with
  | zero => intro h; omega
  | succ n ih =>
    intro hk h
    simp only [sv_sum]
    by_cases e : k = n
    · subst e
      have : sv_sum f2 k = sv_sum f k := sv_sum_congr (fun l hl => h l (by omega) (by omega))
      rw [this]
      grind
    · have := ih (by omega) (fun l hl hne => h l (by omega) hne)
      rw [h n (by omega) (by omega)]
      grind
theorem sv_sm_sum (p : Nat → Int32) (x : Nat → Nat) : ∀ n, sv_sm p x n = sv_sum (fun l => nI (x l) * p l) n := by
  intro n
  induction n with
  | zero => rfl
  | succ n ih => simp only [sv_sm, sv_sum]; rw [ih]; grind
theorem sv_sum_ins (f : Nat → Int32) (q : Int32) : ∀ {n k : Nat}, k ≤ n → sv_sum (sv_ins f k q) (n + 1) = sv_sum f n + q := by
  intro n
  induction n with
  | zero =>
    intro k hk
    obtain rfl : k = 0 := by omega
    simp only [sv_sum, sv_ins]
    simp
  | succ n ih =>
    intro k hk
    by_cases e : k = n + 1
    · subst e
      have h1 : sv_sum (sv_ins f (n + 1) q) (n + 1) = sv_sum f (n + 1) := sv_sum_congr (fun l hl => by simp only [sv_ins]; rw [if_pos hl])
      rw [show sv_sum (sv_ins f (n + 1) q) (n + 1 + 1) = sv_sum (sv_ins f (n + 1) q) (n + 1) + sv_ins f (n + 1) q (n + 1) from rfl, h1]
      simp [sv_ins]
    · rw [show sv_sum (sv_ins f k q) (n + 1 + 1) = sv_sum (sv_ins f k q) (n + 1) + sv_ins f k q (n + 1) from rfl, ih (by omega)]
      have h2 : sv_ins f k q (n + 1) = f n := by
        simp only [sv_ins]
        rw [if_neg (by omega), if_neg (by omega)]
        rfl
      rw [h2]
      simp only [sv_sum]
      grind
theorem sv_sm_ins (p : Nat → Int32) (x : Nat → Nat) (q : Int32) (z : Nat) {n k : Nat} (hk : k ≤ n) : sv_sm (sv_ins p k q) (sv_ins x k z) (n + 1) = sv_sm p x n + nI z * q := by
  rw [sv_sm_sum, sv_sm_sum, ← sv_sum_ins _ _ hk]
  refine sv_sum_congr (fun l hl => ?_)
  simp only [sv_ins]
  split
  · rfl
  · split <;> rfl
theorem sv_ins_rem {α : Type} (f : Nat → α) (k : Nat) : sv_ins (sv_rem f k) k (f k) = f := by
  funext l
  simp only [sv_ins, sv_rem]
  split
  · rfl
  · split
    · rename_i h; rw [h]
    · rw [if_neg (by omega), show l - 1 + 1 = l by omega]
theorem sv_ins_lt {E x : Nat → Nat} {k e z n : Nat} (h : ∀ l, l < n → x l < E l) (hz : z < e) (hk : k ≤ n) : ∀ l, l < n + 1 → sv_ins x k z l < sv_ins E k e l := by
  intro l hl
  simp only [sv_ins]
  split
  · exact h l (by omega)
  · split
    · exact hz
    · exact h (l - 1) (by omega)
/-- what holds at all of a view's indices -/
abbrev sv_in (a : sv_A) (sz : Nat) : Prop := ∀ i, i < a.it → vp_in (a.pl i) sz
theorem sv_in_of {a b : sv_A} {sz : Nat} (ha : sv_in a sz) (h : ∀ x : Nat → Nat, (∀ k, k < b.ax → x k < b.ex k) → ∃ y : Nat → Nat, (∀ k, k < a.ax → y k < a.ex k) ∧ b.sa + sv_sm b.sp x b.ax = a.sa + sv_sm a.sp y a.ax) : sv_in b sz := by
  intro i hi
  refine sv_lla (Q := fun z => vp_in (b.sa + z) sz) (fun x hx => ?_) i hi
  obtain ⟨y, h1, h2⟩ := h x hx
  show vp_in (b.sa + sv_sm b.sp x b.ax) sz
  rw [h2]
  exact sv_all (Q := fun z => vp_in (a.sa + z) sz) ha y h1
theorem sv_in_pick {a : sv_A} {sz k i : Nat} (ha : sv_in a sz) (hk : k < a.ax) (hi : i < a.ex k) : sv_in (a.st, a.sa + nI i * a.sp k, a.ax - 1, sv_rem a.ex k, sv_rem a.sp k) sz := by
  refine sv_in_of ha (fun x hx => ⟨sv_ins x k i, ?_, ?_⟩)
  · have := sv_ins_lt (k := k) (e := a.ex k) (z := i) hx hi (by show k ≤ a.ax - 1; omega)
    rw [sv_ins_rem] at this
    exact fun l hl => this l (by show l < a.ax - 1 + 1; omega)
  · have := sv_sm_ins (sv_rem a.sp k) x (a.sp k) i (n := a.ax - 1) (k := k) (by omega)
    rw [sv_ins_rem, show a.ax - 1 + 1 = a.ax by omega] at this
    rw [this]
    show a.sa + nI i * a.sp k + sv_sm (sv_rem a.sp k) x (a.ax - 1) = _
    grind
theorem sv_rem_lt {E x : Nat → Nat} {k e n : Nat} (h : ∀ l, l < n + 1 → x l < sv_ins E k e l) (hk : k ≤ n) : ∀ l, l < n → sv_rem x k l < E l := by
  intro l hl
  simp only [sv_rem]
  split
  · have := h l (by omega)
    simp only [sv_ins] at this
    rwa [if_pos (by omega)] at this
  · have := h (l + 1) (by omega)
    simp only [sv_ins] at this
    rwa [if_neg (by omega), if_neg (by omega)] at this
theorem sv_in_spread {a : sv_A} {sz k n : Nat} (ha : sv_in a sz) (hk : k ≤ a.ax) : sv_in (a.st, a.sa, a.ax + 1, sv_ins a.ex k n, sv_ins a.sp k 0) sz := by
  refine sv_in_of ha (fun x hx => ⟨sv_rem x k, sv_rem_lt hx hk, ?_⟩)
  have := sv_sm_ins a.sp (sv_rem x k) 0 (x k) (n := a.ax) hk
  rw [sv_ins_rem, Int32.mul_zero, Int32.add_zero] at this
  show a.sa + sv_sm (sv_ins a.sp k 0) x (a.ax + 1) = _
  rw [this]
theorem sv_sum_swap {f : Nat → Int32} {k l n : Nat} (hk : k < n) (hl : l < n) : sv_sum (fun i => if i = l then f k else if i = k then f l else f i) n = sv_sum f n := by
  by_cases e : k = l
  · subst e
    exact sv_sum_congr (fun i _ => by show (if i = k then f k else if i = k then f k else f i) = f i; split; rename_i h; rw [h]; rfl)
  · have h1 := sv_sum_one (f := f) (f2 := fun i => if i = k then f l else f i) hk (fun i _ hne => if_neg hne)
    have h2 := sv_sum_one (f := fun i => if i = k then f l else f i) (f2 := fun i => if i = l then f k else if i = k then f l else f i) hl (fun i _ hne => if_neg hne)
    simp only [if_true] at h1 h2
    rw [if_neg (fun h => e h.symm)] at h2
    grind
theorem sv_in_turn {a : sv_A} {sz k l : Nat} (ha : sv_in a sz) (hk : k < a.ax) (hl : l < a.ax) : sv_in (a.st, a.sa, a.ax, fun i => if i = l then a.ex k else if i = k then a.ex l else a.ex i, fun i => if i = l then a.sp k else if i = k then a.sp l else a.sp i) sz := by
  refine sv_in_of ha (fun x hx => ⟨fun i => if i = l then x k else if i = k then x l else x i, fun i hi => ?_, ?_⟩)
  · have hx : ∀ t, t < a.ax → x t < (if t = l then a.ex k else if t = k then a.ex l else a.ex t) := hx
    show (if i = l then x k else if i = k then x l else x i) < a.ex i
    by_cases e1 : i = l
    · rw [if_pos e1]
      have := hx k hk
      by_cases e2 : k = l
      · rw [if_pos e2] at this; rw [e1, ← e2]; exact this
      · rw [if_neg e2, if_pos rfl] at this; rw [e1]; exact this
    · rw [if_neg e1]
      by_cases e2 : i = k
      · rw [if_pos e2]
        have := hx l hl
        rw [if_pos rfl] at this
        rw [e2]; exact this
      · rw [if_neg e2]
        have := hx i hi
        rw [if_neg e1, if_neg e2] at this
        exact this
  · show a.sa + sv_sm (fun i => if i = l then a.sp k else if i = k then a.sp l else a.sp i) x a.ax = _
    congr 1
    rw [sv_sm_sum, sv_sm_sum, ← sv_sum_swap (f := fun i => nI ((fun i => if i = l then x k else if i = k then x l else x i) i) * a.sp i) hk hl]
    refine sv_sum_congr (fun i hi => ?_)
    show nI (x i) * (if i = l then a.sp k else if i = k then a.sp l else a.sp i) = if i = l then nI (if k = l then x k else if k = k then x l else x k) * a.sp k else if i = k then nI (if l = l then x k else if l = k then x l else x l) * a.sp l else nI (if i = l then x k else if i = k then x l else x i) * a.sp i
    by_cases e1 : i = l
    · rw [if_pos e1, if_pos e1]
      by_cases e2 : k = l
      · rw [if_pos e2, e1, ← e2]
      · rw [if_neg e2, if_pos rfl, e1]
    · rw [if_neg e1, if_neg e1]
      by_cases e2 : i = k
      · rw [if_pos e2, if_pos e2, if_pos rfl, e2]
      · rw [if_neg e2, if_neg e2, if_neg e1, if_neg e2]
theorem sv_in_diag {a : sv_A} {sz k l : Nat} (ha : sv_in a sz) (hk : k < a.ax) (hl : l < a.ax) (hne : k ≠ l) : sv_in (a.st, a.sa, a.ax - 1, sv_ins (sv_rem (sv_rem a.ex (max k l)) (min k l)) (a.ax - 2) (min (a.ex k) (a.ex l)), sv_ins (sv_rem (sv_rem a.sp (max k l)) (min k l)) (a.ax - 2) (a.sp k + a.sp l)) sz := by
  obtain ⟨n, hn⟩ : ∃ n, a.ax = n + 2 := ⟨a.ax - 2, by omega⟩
  obtain ⟨mx, hmx⟩ : ∃ z, z = max k l := ⟨_, rfl⟩
  obtain ⟨mn, hmn⟩ : ∃ z, z = min k l := ⟨_, rfl⟩
  have h1 : mn < mx := by omega
  have h2 : mx < n + 2 := by omega
  have hme : min (a.ex k) (a.ex l) = min (a.ex mn) (a.ex mx) := by
    rcases Nat.lt_or_ge k l with h | h
    · rw [show mn = k by omega, show mx = l by omega]
    · rw [show mn = l by omega, show mx = k by omega, Nat.min_comm]
  have hmp : a.sp k + a.sp l = a.sp mn + a.sp mx := by
    rcases Nat.lt_or_ge k l with h | h
    · rw [show mn = k by omega, show mx = l by omega]
    · rw [show mn = l by omega, show mx = k by omega, Int32.add_comm]
  rw [hme, hmp, ← hmx, ← hmn, hn]
  have er : ∀ {α : Type} (f : Nat → α), sv_rem f mx mn = f mn := fun f => by simp only [sv_rem]; rw [if_pos h1]
  refine sv_in_of ha (fun x hx => ⟨sv_ins (sv_ins (sv_rem x n) mn (x n)) mx (x n), ?_, ?_⟩)
  · have hx : ∀ i, i < n + 1 → x i < sv_ins (sv_rem (sv_rem a.ex mx) mn) n (min (a.ex mn) (a.ex mx)) i := hx
    have hz : x n < min (a.ex mn) (a.ex mx) := by
      have := hx n (by omega)
      simp only [sv_ins] at this
      rwa [if_neg (by omega), if_pos trivial] at this
    have b1 := sv_rem_lt hx (Nat.le_refl n)
    have b2 := sv_ins_lt (k := mn) (e := sv_rem a.ex mx mn) (z := x n) b1 (by rw [er]; omega) (by omega)
    rw [sv_ins_rem] at b2
    have b3 := sv_ins_lt (k := mx) (e := a.ex mx) (z := x n) b2 (by omega) (by omega)
    rw [sv_ins_rem] at b3
    rw [hn]
    exact b3
  · show a.sa + sv_sm (sv_ins (sv_rem (sv_rem a.sp mx) mn) n (a.sp mn + a.sp mx)) x (n + 1) = _
    rw [hn]
    have c1 := sv_sm_ins (sv_rem (sv_rem a.sp mx) mn) (sv_rem x n) (a.sp mn + a.sp mx) (x n) (n := n) (k := n) (Nat.le_refl n)
    rw [sv_ins_rem] at c1
    have c2 := sv_sm_ins (sv_rem (sv_rem a.sp mx) mn) (sv_rem x n) (sv_rem a.sp mx mn) (x n) (n := n) (k := mn) (by omega)
    rw [sv_ins_rem] at c2
    have c3 := sv_sm_ins (sv_rem a.sp mx) (sv_ins (sv_rem x n) mn (x n)) (a.sp mx) (x n) (n := n + 1) (k := mx) (by omega)
    rw [sv_ins_rem] at c3
    rw [c1, c3, c2, er]
    grind
/-- a part's indices are the axis's -/
theorem sv_part {E x : Nat} {s t n : Int32} (hE : E < 2 ^ 31) (h : ¬ sv_bad (nI E) s t n) (hx : x < n.toNatClampNeg) : ∃ y, y < E ∧ nI y = s + nI x * t := by
  have hn0 : ¬ n < 0 := fun q => h (Or.inl q)
  obtain ⟨N, hN, rfl⟩ := nI_of hn0
  rw [nI_clamp hN] at hx
  have hpos : (0 : Int32) < nI N := Int32.not_le.mp (nI_nle (by omega) hN)
  have hsz : Int64.size = 18446744073709551616 := rfl
  have hb : ¬ (s < 0 ∨ nI E ≤ s ∨ s.toInt64 + ((nI N).toInt64 - 1) * t.toInt64 < 0 ∨ (nI E).toInt64 ≤ s.toInt64 + ((nI N).toInt64 - 1) * t.toInt64) := fun q => h (Or.inr (Or.inr ⟨hpos, q⟩))
  have hs0 : ¬ s < 0 := fun q => hb (Or.inl q)
  obtain ⟨a, ha, rfl⟩ := nI_of hs0
  have haE : a < E := Nat.lt_of_not_le (fun q => hb (Or.inr (Or.inl (nI_le q (by omega)))))
  have hL0 : ¬ (nI a).toInt64 + ((nI N).toInt64 - 1) * t.toInt64 < 0 := fun q => hb (Or.inr (Or.inr (Or.inl q)))
  have hL1 : ¬ (nI E).toInt64 ≤ (nI a).toInt64 + ((nI N).toInt64 - 1) * t.toInt64 := fun q => hb (Or.inr (Or.inr (Or.inr q)))
  have ht1 : -2147483648 ≤ t.toInt := Int32.le_toInt t
  have ht2 : t.toInt < 2147483648 := Int32.toInt_lt t
  have hval : ((nI a).toInt64 + ((nI N).toInt64 - 1) * t.toInt64).toInt = (a : Int) + ((N : Int) - 1) * t.toInt := by
    have e1 : (nI N).toInt64 - 1 = Int64.ofInt ((N : Int) - 1) := by
      rw [nI_l hN]
      apply Int64.toInt_inj.mp
      rw [Int64.toInt_sub, lN_toInt hN, Int64.toInt_ofInt]
      rfl
    have e2 : t.toInt64 = Int64.ofInt t.toInt := by apply Int64.toInt_inj.mp; rw [Int32.toInt_toInt64, Int64.toInt_ofInt]; rw [Int.bmod_eq_of_le (by omega) (by omega)]
    have e3 : (nI a).toInt64 = Int64.ofInt (a : Int) := by rw [nI_l ha]; rfl
    rw [e1, e2, e3, ← Int64.ofInt_mul, ← Int64.ofInt_add, Int64.toInt_ofInt]
    have hb1 : ((N : Int) - 1) * t.toInt ≤ 2147483648 * 2147483648 := by
      rcases (show t.toInt < 0 ∨ 0 ≤ t.toInt by omega) with q | q
      · have : ((N : Int) - 1) * t.toInt ≤ 0 := Int.mul_nonpos_of_nonneg_of_nonpos (by omega) (by omega)
        omega
      · exact Int.mul_le_mul (by omega) (by omega) q (by omega)
    have hb2 : -(2147483648 * 2147483648) ≤ ((N : Int) - 1) * t.toInt := by
      rcases (show t.toInt < 0 ∨ 0 ≤ t.toInt by omega) with q | q
      · have : ((N : Int) - 1) * (-t.toInt) ≤ 2147483648 * 2147483648 := Int.mul_le_mul (by omega) (by omega) (by omega) (by omega)
        rw [Int.mul_neg] at this
        omega
      · have : 0 ≤ ((N : Int) - 1) * t.toInt := Int.mul_nonneg (by omega) q
        omega
    exact Int.bmod_eq_of_le (by omega) (by omega)
  have hL0' : 0 ≤ (a : Int) + ((N : Int) - 1) * t.toInt := by
    rw [← hval]
    exact Int.not_lt.mp (fun q => hL0 (Int64.lt_iff_toInt_lt.mpr q))
  have hL1' : (a : Int) + ((N : Int) - 1) * t.toInt < E := by
    rw [← hval]
    have := Int.not_le.mp (fun q => hL1 (Int64.le_iff_toInt_le.mpr q))
    rwa [Int32.toInt_toInt64, nI_toInt hE] at this
  have hx0 : 0 ≤ (a : Int) + (x : Int) * t.toInt := by
    rcases (show t.toInt < 0 ∨ 0 ≤ t.toInt by omega) with q | q
    · have : ((N : Int) - 1) * t.toInt ≤ (x : Int) * t.toInt := Int.mul_le_mul_of_nonpos_right (by omega) (by omega)
      omega
    · have : 0 ≤ (x : Int) * t.toInt := Int.mul_nonneg (by omega) q
      omega
  have hx1 : (a : Int) + (x : Int) * t.toInt < E := by
    rcases (show t.toInt < 0 ∨ 0 ≤ t.toInt by omega) with q | q
    · have : (x : Int) * t.toInt ≤ 0 := Int.mul_nonpos_of_nonneg_of_nonpos (by omega) (by omega)
      omega
    · have : (x : Int) * t.toInt ≤ ((N : Int) - 1) * t.toInt := Int.mul_le_mul_of_nonneg_right (by omega) q
      omega
  refine ⟨((a : Int) + (x : Int) * t.toInt).toNat, by omega, ?_⟩
  have f1 : ∀ m : Nat, nI m = Int32.ofInt (m : Int) := fun m => rfl
  rw [f1, f1 a, f1 x, Int.toNat_of_nonneg hx0, Int32.ofInt_add, Int32.ofInt_mul, Int32.ofInt_toInt]
theorem sv_in_slice {a : sv_A} {sz k : Nat} {s t n : Int32} (ha : sv_in a sz) (hk : k < a.ax) (hO : sv_ok a.ex a.ax) (h : ¬ sv_bad (nI (a.ex k)) s t n) : sv_in (a.st, a.sa + s * a.sp k, a.ax, fun i => if i = k then n.toNatClampNeg else a.ex i, fun i => if i = k then t * a.sp k else a.sp i) sz := by
  refine sv_in_of ha (fun x hx => ?_)
  have hx : ∀ i, i < a.ax → x i < (if i = k then n.toNatClampNeg else a.ex i) := hx
  have hxk := hx k hk
  rw [if_pos rfl] at hxk
  obtain ⟨y, h1, h2⟩ := sv_part (hO k hk) h hxk
  refine ⟨fun i => if i = k then y else x i, fun i hi => ?_, ?_⟩
  · show (if i = k then y else x i) < a.ex i
    by_cases e : i = k
    · rw [if_pos e, e]; exact h1
    · have := hx i hi
      rw [if_neg e] at this ⊢
      exact this
  · show a.sa + s * a.sp k + sv_sm (fun i => if i = k then t * a.sp k else a.sp i) x a.ax = a.sa + sv_sm a.sp (fun i => if i = k then y else x i) a.ax
    rw [sv_sm_sum, sv_sm_sum]
    have h3 := sv_sum_one (f := fun l => nI (x l) * (if l = k then t * a.sp k else a.sp l)) (f2 := fun l => nI (if l = k then y else x l) * a.sp l) hk (fun l _ hne => by simp only [if_neg hne])
    simp only [if_true] at h3
    rw [h2] at h3
    grind
