/-! the least and the greatest place -/
def sv_mn (G : Nat → Int32) : Nat → Int32
  | 0 => -1
  | i + 1 => if (sv_mn G i = -1 ∨ G i < sv_mn G i) then G i else sv_mn G i
def sv_mx (G : Nat → Int32) : Nat → Int32
  | 0 => -1
  | i + 1 => if (sv_mx G i = -1 ∨ sv_mx G i < G i) then G i else sv_mx G i
theorem sv_mn_is {G : Nat → Int32} : ∀ {n : Nat}, 0 < n → (∀ t, t < n → 0 ≤ G t) → (∃ t, t < n ∧ sv_mn G n = G t) ∧ ∀ t, t < n → sv_mn G n ≤ G t := by
  intro n
  induction n with
  | zero => intro h; omega
  | succ n ih =>
    intro _ h
    have hn := h n (by omega)
    by_cases e : n = 0
    · subst e
      have h1 : sv_mn G 1 = G 0 := if_pos (Or.inl rfl)
      exact ⟨⟨0, by omega, h1⟩, fun t ht => by rw [h1, show t = 0 by omega]; exact Int32.le_refl _⟩
    · obtain ⟨⟨t0, h1, h2⟩, h3⟩ := ih (by omega) (fun t ht => h t (by omega))
      have hne : ¬ sv_mn G n = -1 := by
        intro q
        have := h t0 (by omega)
        rw [← h2, q] at this
        exact absurd this (by decide)
      show (∃ t, t < n + 1 ∧ (if (sv_mn G n = -1 ∨ G n < sv_mn G n) then G n else sv_mn G n) = G t) ∧ ∀ t, t < n + 1 → (if (sv_mn G n = -1 ∨ G n < sv_mn G n) then G n else sv_mn G n) ≤ G t
      by_cases c : G n < sv_mn G n
      · rw [if_pos (Or.inr c)]
        refine ⟨⟨n, by omega, rfl⟩, fun t ht => ?_⟩
        by_cases e2 : t = n
        · rw [e2]; exact Int32.le_refl _
        · exact Int32.le_trans (Int32.le_of_lt c) (h3 t (by omega))
      · rw [if_neg (fun q => q.elim hne c)]
        refine ⟨⟨t0, by omega, h2⟩, fun t ht => ?_⟩
        by_cases e2 : t = n
        · rw [e2]; exact Int32.not_lt.mp c
        · exact h3 t (by omega)
theorem sv_mx_is {G : Nat → Int32} : ∀ {n : Nat}, 0 < n → (∀ t, t < n → 0 ≤ G t) → (∃ t, t < n ∧ sv_mx G n = G t) ∧ ∀ t, t < n → G t ≤ sv_mx G n := by
  intro n
  induction n with
  | zero => intro h; omega
  | succ n ih =>
    intro _ h
    have hn := h n (by omega)
    by_cases e : n = 0
    · subst e
      have h1 : sv_mx G 1 = G 0 := if_pos (Or.inl rfl)
      exact ⟨⟨0, by omega, h1⟩, fun t ht => by rw [h1, show t = 0 by omega]; exact Int32.le_refl _⟩
    · obtain ⟨⟨t0, h1, h2⟩, h3⟩ := ih (by omega) (fun t ht => h t (by omega))
      have hne : ¬ sv_mx G n = -1 := by
        intro q
        have := h t0 (by omega)
        rw [← h2, q] at this
        exact absurd this (by decide)
      show (∃ t, t < n + 1 ∧ (if (sv_mx G n = -1 ∨ sv_mx G n < G n) then G n else sv_mx G n) = G t) ∧ ∀ t, t < n + 1 → G t ≤ (if (sv_mx G n = -1 ∨ sv_mx G n < G n) then G n else sv_mx G n)
      by_cases c : sv_mx G n < G n
      · rw [if_pos (Or.inr c)]
        refine ⟨⟨n, by omega, rfl⟩, fun t ht => ?_⟩
        by_cases e2 : t = n
        · rw [e2]; exact Int32.le_refl _
        · exact Int32.le_trans (h3 t (by omega)) (Int32.le_of_lt c)
      · rw [if_neg (fun q => q.elim hne c)]
        refine ⟨⟨t0, by omega, h2⟩, fun t ht => ?_⟩
        by_cases e2 : t = n
        · rw [e2]; exact Int32.not_lt.mp c
        · exact h3 t (by omega)
def sv_isum (f : Nat → Int) : Nat → Int
  | 0 => 0
  | n + 1 => sv_isum f n + f n
theorem sv_isum_le {f f2 : Nat → Int} : ∀ {n : Nat}, (∀ k, k < n → f k ≤ f2 k) → sv_isum f n ≤ sv_isum f2 n := by
  intro n
  induction n with
  | zero => intro _; exact Int.le_refl _
  | succ n ih => intro h; have := ih (fun k hk => h k (by omega)); have := h n (by omega); simp only [sv_isum]; omega
theorem sv_isum_bd {f : Nat → Int} : ∀ {n : Nat}, (∀ k, k < n → -300 < f k ∧ f k < 300) → -(300 * (n : Int)) ≤ sv_isum f n ∧ sv_isum f n ≤ 300 * (n : Int) := by
  intro n
  induction n with
  | zero => intro _; simp [sv_isum]
  | succ n ih => intro h; have := ih (fun k hk => h k (by omega)); have := h n (by omega); simp only [sv_isum]; omega
theorem sv_toInt_add {a b : Int32} (h1 : -2147483648 ≤ a.toInt + b.toInt) (h2 : a.toInt + b.toInt < 2147483648) : (a + b).toInt = a.toInt + b.toInt := by
  rw [Int32.toInt_add]
  exact Int.bmod_eq_of_le (by omega) (by omega)
theorem sv_toInt_sub {a b : Int32} (h1 : -2147483648 ≤ a.toInt - b.toInt) (h2 : a.toInt - b.toInt < 2147483648) : (a - b).toInt = a.toInt - b.toInt := by
  rw [Int32.toInt_sub]
  exact Int.bmod_eq_of_le (by omega) (by omega)
theorem sv_toInt_mul {a b : Int32} (h1 : -2147483648 ≤ a.toInt * b.toInt) (h2 : a.toInt * b.toInt < 2147483648) : (a * b).toInt = a.toInt * b.toInt := by
  rw [Int32.toInt_mul]
  exact Int.bmod_eq_of_le (by omega) (by omega)
theorem sv_sum_toInt {f : Nat → Int32} : ∀ {n : Nat}, n ≤ 4 → (∀ k, k < n → -300 < (f k).toInt ∧ (f k).toInt < 300) → (sv_sum f n).toInt = sv_isum (fun k => (f k).toInt) n := by
  intro n
  induction n with
  | zero => intro _ _; rfl
  | succ n ih =>
    intro h4 h
    have h1 := ih (by omega) (fun k hk => h k (by omega))
    have h2 := sv_isum_bd (f := fun k => (f k).toInt) (n := n) (fun k hk => h k (by omega))
    have h3 := h n (by omega)
    simp only [sv_sum, sv_isum]
    rw [sv_toInt_add (by rw [h1]; omega) (by rw [h1]; omega), h1]
/-- small steps: each axis's part of a place is small, and no number wraps -/
theorem sv_small {a : sv_A} {sz : Nat} (hsz : sz ≤ 300) (h0 : 0 < a.it) (h3 : a.it ≤ 3000) (hin : sv_in a sz) {k x : Nat} (hk : k < a.ax) (hx : x < a.ex k) : (-300 < (nI x * a.sp k).toInt ∧ (nI x * a.sp k).toInt < 300) ∧ (0 < x → (nI x * a.sp k).toInt = (x : Int) * (a.sp k).toInt ∧ -300 < (a.sp k).toInt ∧ (a.sp k).toInt < 300) := by
  have hZ : ∀ t, t < a.ax → 0 < a.ex t := sv_pr_pos h0
  have key : ∀ x, x < a.ex k → vp_in (a.sa + nI x * a.sp k) sz := by
    intro x hx
    have := sv_all (E := a.ex) (p := a.sp) (n := a.ax) (Q := fun z => vp_in (a.sa + z) sz) hin (fun l => if l = k then x else 0) (fun l hl => by show (if l = k then x else 0) < a.ex l; split; rename_i e; rw [e]; exact hx; exact hZ l hl)
    have e : sv_sm a.sp (fun l => if l = k then x else 0) a.ax = nI x * a.sp k := by
      rw [sv_sm_sum]
      have h1 := sv_sum_one (f := fun _ => (0 : Int32)) (f2 := fun l => nI (if l = k then x else 0) * a.sp l) hk (fun l hl hne => by show nI (if l = k then x else 0) * a.sp l = 0; rw [if_neg hne, nI_0, Int32.zero_mul])
      have h2 : ∀ n, sv_sum (fun _ => (0 : Int32)) n = 0 := by
        intro n
        induction n with
        | zero => rfl
        | succ n ih => show sv_sum (fun _ => (0 : Int32)) n + 0 = 0; rw [ih]; rfl
      simp only [if_true] at h1
      rw [h2, Int32.add_zero, Int32.zero_add] at h1
      exact h1
    rw [e] at this
    exact this
  have pl : ∀ x, x < a.ex k → 0 ≤ (a.sa + nI x * a.sp k).toInt ∧ (a.sa + nI x * a.sp k).toInt < 300 := by
    intro x hx
    obtain ⟨p, hp, e⟩ := vp_in_of (key x hx) (by omega)
    rw [e, nI_toInt (by omega)]
    omega
  have hs := pl 0 (hZ k hk)
  rw [nI_0, Int32.zero_mul, Int32.add_zero] at hs
  have d : ∀ x, x < a.ex k → -300 < (nI x * a.sp k).toInt ∧ (nI x * a.sp k).toInt < 300 := by
    intro x hx
    have h1 := pl x hx
    have e : nI x * a.sp k = (a.sa + nI x * a.sp k) - a.sa := by grind
    rw [e, sv_toInt_sub (by omega) (by omega)]
    omega
  refine ⟨d x hx, fun hx0 => ?_⟩
  have h1 := d 1 (by omega)
  rw [show nI 1 = 1 from rfl, Int32.one_mul] at h1
  have hle : a.ex k ≤ 3000 := by
    have h9 : a.it = sv_pr (sv_rem a.ex k) (a.ax - 1) * a.ex k := sv_pr_rem hk
    have : 0 < sv_pr (sv_rem a.ex k) (a.ax - 1) := Nat.pos_of_ne_zero (fun q => by rw [q, Nat.zero_mul] at h9; omega)
    have := Nat.le_mul_of_pos_left (a.ex k) this
    omega
  have hxt : (nI x).toInt = (x : Int) := nI_toInt (by omega)
  have b1 : (x : Int) * (a.sp k).toInt ≤ 3000 * 300 := by
    rcases (show (a.sp k).toInt < 0 ∨ 0 ≤ (a.sp k).toInt by omega) with q | q
    · have : (x : Int) * (a.sp k).toInt ≤ 0 := Int.mul_nonpos_of_nonneg_of_nonpos (by omega) (by omega)
      omega
    · exact Int.mul_le_mul (by omega) (by omega) q (by omega)
  have b2 : -(3000 * 300) ≤ (x : Int) * (a.sp k).toInt := by
    rcases (show (a.sp k).toInt < 0 ∨ 0 ≤ (a.sp k).toInt by omega) with q | q
    · have : (x : Int) * (-(a.sp k).toInt) ≤ 3000 * 300 := Int.mul_le_mul (by omega) (by omega) (by omega) (by omega)
      rw [Int.mul_neg] at this
      omega
    · have : 0 ≤ (x : Int) * (a.sp k).toInt := Int.mul_nonneg (by omega) q
      omega
  exact ⟨by rw [sv_toInt_mul (by rw [hxt]; omega) (by rw [hxt]; omega), hxt], h1⟩
theorem sv_start {a : sv_A} {sz : Nat} (hsz : sz ≤ 300) (h0 : 0 < a.it) (hin : sv_in a sz) : 0 ≤ a.sa.toInt ∧ a.sa.toInt < 300 := by
  have h1 := hin 0 h0
  have e : a.pl 0 = a.sa := by
    show a.sa + sv_pl a.ex a.sp a.ax 0 = a.sa
    rw [sv_pl_sm, sv_sm_congr (p := a.sp) (x := fun _ => 0) (fun _ _ => rfl) (fun k hk => ?_)]
    · have : ∀ n, sv_sm a.sp (fun _ => 0) n = 0 := by
        intro n
        induction n with
        | zero => rfl
        | succ n ih => simp only [sv_sm]; rw [ih, nI_0, Int32.zero_mul]; rfl
      rw [this, Int32.add_zero]
    · have : ∀ n, sv_ix a.ex n k 0 = 0 := by
        intro n
        induction n with
        | zero => rfl
        | succ n ih => simp only [sv_ix]; split; exact Nat.zero_mod _; rw [Nat.zero_div]; exact ih
      exact this _
  rw [e] at h1
  obtain ⟨p, hp, e2⟩ := vp_in_of h1 (by omega)
  rw [e2, nI_toInt (by omega)]
  omega
theorem sv_ends {a : sv_A} {sz : Nat} (hsz : sz ≤ 300) (h0 : 0 < a.it) (h3 : a.it ≤ 3000) (h4 : a.ax ≤ 4) (hin : sv_in a sz) :
    ((∃ t, t < a.it ∧ a.lo = a.pl t) ∧ ∀ t, t < a.it → a.lo ≤ a.pl t) ∧ ((∃ t, t < a.it ∧ a.hi = a.pl t) ∧ ∀ t, t < a.it → a.pl t ≤ a.hi) := by
  have hZ : ∀ t, t < a.ax → 0 < a.ex t := sv_pr_pos h0
  have hs := sv_start hsz h0 hin
  have em : ∀ k, k < a.ax → nI (a.ex k) - 1 = nI (a.ex k - 1) := fun k hk => nI_m1N (hZ k hk)
  have att : ∀ (c : Nat → Prop) [∀ k, Decidable (c k)], ∃ t, t < a.it ∧ a.pl t = a.sa + sv_sum (fun k => if c k then (nI (a.ex k) - 1) * a.sp k else 0) a.ax := by
    intro c _
    obtain ⟨i, h1, h2⟩ := sv_ix_ex (E := a.ex) (n := a.ax) (fun k => if c k then a.ex k - 1 else 0) (fun k hk => by have := hZ k hk; show (if c k then a.ex k - 1 else 0) < a.ex k; split <;> omega)
    refine ⟨i, h1, ?_⟩
    show a.sa + sv_pl a.ex a.sp a.ax i = _
    rw [sv_pl_sm, sv_sm_congr (p := a.sp) (x := fun k => if c k then a.ex k - 1 else 0) (fun _ _ => rfl) h2, sv_sm_sum]
    congr 1
    refine sv_sum_congr (fun k hk => ?_)
    show nI (if c k then a.ex k - 1 else 0) * a.sp k = if c k then (nI (a.ex k) - 1) * a.sp k else 0
    by_cases e : c k
    · rw [if_pos e, if_pos e, em k hk]
    · rw [if_neg e, if_neg e, nI_0, Int32.zero_mul]
  have plt : ∀ t, t < a.it → (a.pl t).toInt = a.sa.toInt + sv_isum (fun k => (nI (sv_ix a.ex a.ax k t) * a.sp k).toInt) a.ax := by
    intro t ht
    have hx := sv_ix_lt (E := a.ex) (n := a.ax) (i := t) ht
    have b := sv_sum_toInt (f := fun k => nI (sv_ix a.ex a.ax k t) * a.sp k) h4 (fun k hk => (sv_small hsz h0 h3 hin hk (hx k hk)).1)
    have bd := sv_isum_bd (f := fun k => (nI (sv_ix a.ex a.ax k t) * a.sp k).toInt) (n := a.ax) (fun k hk => (sv_small hsz h0 h3 hin hk (hx k hk)).1)
    show (a.sa + sv_pl a.ex a.sp a.ax t).toInt = _
    rw [sv_pl_sm, sv_sm_sum, sv_toInt_add (by rw [b]; omega) (by rw [b]; omega), b]
  have edge : ∀ (c : Nat → Prop) [∀ k, Decidable (c k)], (a.sa + sv_sum (fun k => if c k then (nI (a.ex k) - 1) * a.sp k else 0) a.ax).toInt = a.sa.toInt + sv_isum (fun k => (if c k then (nI (a.ex k) - 1) * a.sp k else 0 : Int32).toInt) a.ax := by
    intro c _
    have sm : ∀ k, k < a.ax → -300 < (if c k then (nI (a.ex k) - 1) * a.sp k else 0 : Int32).toInt ∧ (if c k then (nI (a.ex k) - 1) * a.sp k else 0 : Int32).toInt < 300 := by
      intro k hk
      by_cases e : c k
      · rw [if_pos e, em k hk]
        exact (sv_small hsz h0 h3 hin hk (by have := hZ k hk; omega)).1
      · rw [if_neg e]
        exact ⟨by decide, by decide⟩
    have b := sv_sum_toInt h4 sm
    have bd := sv_isum_bd sm
    rw [sv_toInt_add (by rw [b]; omega) (by rw [b]; omega), b]
  have term : ∀ k, k < a.ax → ∀ x, x < a.ex k → (if (nI (a.ex k) - 1) * a.sp k < 0 then (nI (a.ex k) - 1) * a.sp k else 0 : Int32).toInt ≤ (nI x * a.sp k).toInt ∧ (nI x * a.sp k).toInt ≤ (if 0 < (nI (a.ex k) - 1) * a.sp k then (nI (a.ex k) - 1) * a.sp k else 0 : Int32).toInt := by
    intro k hk x hx
    rw [em k hk]
    have z0 : (0 : Int32).toInt = 0 := rfl
    by_cases e1 : a.ex k = 1
    · rw [show x = 0 by omega, e1, nI_0, Int32.zero_mul]
      exact ⟨by split <;> simp, by split <;> simp⟩
    · have hmx := sv_small hsz h0 h3 hin hk (x := a.ex k - 1) (by omega)
      have hm := hmx.2 (by have := hZ k hk; omega)
      have hxx := sv_small hsz h0 h3 hin hk hx
      have hv : (nI x * a.sp k).toInt = (x : Int) * (a.sp k).toInt := by
        rcases Nat.eq_zero_or_pos x with q | q
        · rw [q, nI_0, Int32.zero_mul]; simp
        · exact (hxx.2 q).1
      have hpos : (0 : Int) < ((a.ex k - 1 : Nat) : Int) := by have := hZ k hk; omega
      rcases (show (a.sp k).toInt < 0 ∨ (a.sp k).toInt = 0 ∨ 0 < (a.sp k).toInt by omega) with q | q | q
      · have n1 : ((a.ex k - 1 : Nat) : Int) * (a.sp k).toInt < 0 := Int.mul_neg_of_pos_of_neg hpos q
        have l1 : nI (a.ex k - 1) * a.sp k < 0 := Int32.lt_iff_toInt_lt.mpr (by rw [hm.1]; exact n1)
        have l2 : ¬ 0 < nI (a.ex k - 1) * a.sp k := fun z => by have := Int32.lt_iff_toInt_lt.mp z; rw [hm.1] at this; have e0 : (0 : Int32).toInt = 0 := rfl; omega
        rw [if_pos l1, if_neg l2, hm.1, hv]
        refine ⟨Int.mul_le_mul_of_nonpos_right (by omega) (by omega), ?_⟩
        have : (x : Int) * (a.sp k).toInt ≤ 0 := Int.mul_nonpos_of_nonneg_of_nonpos (by omega) (by omega)
        exact this
      · have l1 : ¬ nI (a.ex k - 1) * a.sp k < 0 := fun z => by have := Int32.lt_iff_toInt_lt.mp z; rw [hm.1, q, Int.mul_zero] at this; exact absurd this (by decide)
        have l2 : ¬ 0 < nI (a.ex k - 1) * a.sp k := fun z => by have := Int32.lt_iff_toInt_lt.mp z; rw [hm.1, q, Int.mul_zero] at this; exact absurd this (by decide)
        rw [if_neg l1, if_neg l2, hv, q, Int.mul_zero]
        exact ⟨Int.le_refl _, Int.le_refl _⟩
      · have n1 : 0 < ((a.ex k - 1 : Nat) : Int) * (a.sp k).toInt := Int.mul_pos hpos q
        have l1 : ¬ nI (a.ex k - 1) * a.sp k < 0 := fun z => by have := Int32.lt_iff_toInt_lt.mp z; rw [hm.1] at this; have e0 : (0 : Int32).toInt = 0 := rfl; omega
        have l2 : 0 < nI (a.ex k - 1) * a.sp k := Int32.lt_iff_toInt_lt.mpr (by rw [hm.1]; exact n1)
        rw [if_neg l1, if_pos l2, hm.1, hv]
        refine ⟨?_, Int.mul_le_mul_of_nonneg_right (by omega) (by omega)⟩
        have : 0 ≤ (x : Int) * (a.sp k).toInt := Int.mul_nonneg (by omega) (by omega)
        exact this
  have hlo : a.lo = a.sa + sv_sum (fun k => if (nI (a.ex k) - 1) * a.sp k < 0 then (nI (a.ex k) - 1) * a.sp k else 0) a.ax := if_neg (by omega)
  have hhi : a.hi = a.sa + sv_sum (fun k => if 0 < (nI (a.ex k) - 1) * a.sp k then (nI (a.ex k) - 1) * a.sp k else 0) a.ax := if_neg (by omega)
  refine ⟨⟨?_, fun t ht => ?_⟩, ?_, fun t ht => ?_⟩
  · obtain ⟨t, h1, h2⟩ := att (fun k => (nI (a.ex k) - 1) * a.sp k < 0)
    exact ⟨t, h1, by rw [hlo, h2]⟩
  · rw [hlo]
    apply Int32.le_iff_toInt_le.mpr
    rw [edge (fun k => (nI (a.ex k) - 1) * a.sp k < 0), plt t ht]
    have := sv_isum_le (f := fun k => (if (nI (a.ex k) - 1) * a.sp k < 0 then (nI (a.ex k) - 1) * a.sp k else 0 : Int32).toInt) (f2 := fun k => (nI (sv_ix a.ex a.ax k t) * a.sp k).toInt) (n := a.ax) (fun k hk => (term k hk _ (sv_ix_lt ht k hk)).1)
    omega
  · obtain ⟨t, h1, h2⟩ := att (fun k => 0 < (nI (a.ex k) - 1) * a.sp k)
    exact ⟨t, h1, by rw [hhi, h2]⟩
  · rw [hhi]
    apply Int32.le_iff_toInt_le.mpr
    rw [edge (fun k => 0 < (nI (a.ex k) - 1) * a.sp k), plt t ht]
    have := sv_isum_le (f := fun k => (nI (sv_ix a.ex a.ax k t) * a.sp k).toInt) (f2 := fun k => (if 0 < (nI (a.ex k) - 1) * a.sp k then (nI (a.ex k) - 1) * a.sp k else 0 : Int32).toInt) (n := a.ax) (fun k hk => (term k hk _ (sv_ix_lt ht k hk)).2)
    omega
theorem sv_in_pos {a : sv_A} {sz : Nat} (hin : sv_in a sz) (t : Nat) (ht : t < a.it) : 0 ≤ a.pl t := Int32.not_lt.mp (fun q => hin t ht (Or.inl q))
theorem sv_mn_lo {a : sv_A} {sz : Nat} (hsz : sz ≤ 300) (h3 : a.it ≤ 3000) (h4 : a.ax ≤ 4) (hin : sv_in a sz) : sv_mn a.pl a.it = a.lo := by
  rcases Nat.eq_zero_or_pos a.it with h0 | h0
  · rw [h0]; exact (if_pos h0).symm
  · obtain ⟨⟨t1, h1, h2⟩, h5⟩ := sv_mn_is (G := a.pl) h0 (sv_in_pos hin)
    obtain ⟨⟨⟨t2, g1, g2⟩, g3⟩, -⟩ := sv_ends hsz h0 h3 h4 hin
    exact Int32.le_antisymm (by rw [g2]; exact h5 t2 g1) (by rw [h2]; exact g3 t1 h1)
theorem sv_mx_hi {a : sv_A} {sz : Nat} (hsz : sz ≤ 300) (h3 : a.it ≤ 3000) (h4 : a.ax ≤ 4) (hin : sv_in a sz) : sv_mx a.pl a.it = a.hi := by
  rcases Nat.eq_zero_or_pos a.it with h0 | h0
  · rw [h0]; exact (if_pos h0).symm
  · obtain ⟨⟨t1, h1, h2⟩, h5⟩ := sv_mx_is (G := a.pl) h0 (sv_in_pos hin)
    obtain ⟨-, ⟨t2, g1, g2⟩, g3⟩ := sv_ends hsz h0 h3 h4 hin
    exact Int32.le_antisymm (by rw [h2]; exact g3 t1 h1) (by rw [g2]; exact h5 t2 g1)
