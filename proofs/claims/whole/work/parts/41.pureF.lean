/-! items by their indices; rows of their own -/
def sv_mr (E x : Nat → Nat) : Nat → Nat
  | 0 => 0
  | n + 1 => sv_mr E x n * E n + x n
theorem sv_mr_congr {E E2 x x2 : Nat → Nat} : ∀ {n : Nat}, (∀ k, k < n → E2 k = E k) → (∀ k, k < n → x2 k = x k) → sv_mr E2 x2 n = sv_mr E x n := by
  intro n
  induction n with
  | zero => intro _ _; rfl
  | succ n ih => intro h h2; simp only [sv_mr]; rw [h n (by omega), h2 n (by omega), ih (fun k hk => h k (by omega)) (fun k hk => h2 k (by omega))]
theorem sv_mr_lt {E x : Nat → Nat} : ∀ {n : Nat}, (∀ k, k < n → x k < E k) → sv_mr E x n < sv_pr E n := by
  intro n
  induction n with
  | zero => intro _; exact Nat.one_pos
  | succ n ih =>
    intro h
    have h1 := ih (fun k hk => h k (by omega))
    have h2 := h n (by omega)
    show sv_mr E x n * E n + x n < sv_pr E n * E n
    have := Nat.mul_le_mul_right (E n) (show sv_mr E x n + 1 ≤ sv_pr E n from h1)
    rw [Nat.add_mul, Nat.one_mul] at this
    omega
theorem sv_ix_mr {E x : Nat → Nat} : ∀ {n : Nat}, (∀ k, k < n → x k < E k) → ∀ k, k < n → sv_ix E n k (sv_mr E x n) = x k := by
  intro n
  induction n with
  | zero => intro _ k hk; omega
  | succ n ih =>
    intro h k hk
    have hn := h n (by omega)
    simp only [sv_ix, sv_mr]
    have hd : (sv_mr E x n * E n + x n) / E n = sv_mr E x n := by rw [Nat.mul_comm, Nat.mul_add_div (by omega), Nat.div_eq_of_lt hn, Nat.add_zero]
    have hm : (sv_mr E x n * E n + x n) % E n = x n := by rw [Nat.mul_comm, Nat.mul_add_mod]; exact Nat.mod_eq_of_lt hn
    split
    · rename_i e
      rw [hm, e]
    · rw [hd]
      exact ih (fun k hk => h k (by omega)) k (by omega)
theorem sv_mr_ix {E : Nat → Nat} : ∀ {n i : Nat}, i < sv_pr E n → sv_mr E (fun k => sv_ix E n k i) n = i := by
  intro n
  induction n with
  | zero => intro i hi; have hi : i < 1 := hi; show 0 = i; omega
  | succ n ih =>
    intro i hi
    have hi : i < sv_pr E n * E n := hi
    simp only [sv_mr, sv_ix]
    have h1 : sv_mr E (fun k => if k = n then i % E n else sv_ix E n k (i / E n)) n = i / E n := by
      rw [sv_mr_congr (E := E) (x := fun k => sv_ix E n k (i / E n)) (fun _ _ => rfl) (fun k hk => if_neg (by omega))]
      exact ih (Nat.div_lt_of_lt_mul (by rw [Nat.mul_comm]; exact hi))
    rw [h1]
    simp only [if_true]
    exact Nat.div_add_mod' i (E n)
theorem sv_sm_mr (E : Nat → Nat) (x : Nat → Nat) : ∀ (n c : Nat), sv_sm (fun l => nI (c * sv_dp E n (n - 1 - l))) x n = nI (c * sv_mr E x n) := by
  intro n
  induction n with
  | zero => intro c; rfl
  | succ n ih =>
    intro c
    simp only [sv_sm, sv_mr]
    have h1 : sv_sm (fun l => nI (c * sv_dp E (n + 1) (n + 1 - 1 - l))) x n = sv_sm (fun l => nI (c * E n * sv_dp E n (n - 1 - l))) x n := by
      refine sv_sm_congr (fun l hl => ?_) (fun _ _ => rfl)
      show nI (c * sv_dp E (n + 1) (n + 1 - 1 - l)) = nI (c * E n * sv_dp E n (n - 1 - l))
      rw [show n + 1 - 1 - l = (n - 1 - l) + 1 by omega, show sv_dp E (n + 1) (n - 1 - l + 1) = E n * sv_dp E n (n - 1 - l) from rfl, Nat.mul_assoc]
    rw [h1, ih (c * E n), show n + 1 - 1 - n = 0 by omega, sv_dp_0, Nat.mul_one, pk_mul, nI_add]
    congr 1
    rw [Nat.mul_add, Nat.mul_comm (x n) c, Nat.mul_assoc, Nat.mul_comm (E n), Nat.add_comm]
theorem sv_sm_rs (E : Nat → Nat) (x : Nat → Nat) (n : Nat) : sv_sm (sv_rs E n) x n = nI (sv_mr E x n) := by
  have := sv_sm_mr E x n 1
  rw [Nat.one_mul] at this
  rw [← this]
  exact sv_sm_congr (fun l hl => by show nI _ = nI _; rw [Nat.one_mul]) (fun _ _ => rfl)
theorem sv_rs_pl {E : Nat → Nat} {n i : Nat} (hi : i < sv_pr E n) : sv_pl E (sv_rs E n) n i = nI i := by
  rw [sv_pl_sm, sv_sm_rs, sv_mr_ix hi]
theorem sv_in_row {st n : Nat} {E : Nat → Nat} (h : sv_pr E n ≤ 300) : sv_in (st, 0, n, E, sv_rs E n) (sv_pr E n) := by
  intro i hi
  have hi : i < sv_pr E n := hi
  show vp_in (0 + sv_pl E (sv_rs E n) n i) _
  rw [sv_rs_pl hi, Int32.zero_add]
  exact vp_in_nI hi (by omega)
theorem sv_bk_dp {fe : Nat → Int32} {E : Nat → Nat} {n : Nat} (hE : ∀ k, k < n → fe k = nI (E k)) : ∀ c, c ≤ n → sv_bk fe n c = nI (sv_dp E n c) := by
  intro c
  induction c with
  | zero => intro _; rw [sv_dp_0]; rfl
  | succ c ih => intro h; rw [sv_dp_s E c n (by omega)]; show sv_bk fe n c * fe (n - 1 - c) = _; rw [ih (by omega), hE _ (by omega), pk_mul]
/-- the item's number without the axis k, by its indices -/
theorem sv_wo_lo (E : Nat → Nat) (k : Nat) : ∀ {n i : Nat}, n ≤ k → sv_wo E k n i = sv_mr E (fun l => sv_ix E n l i) n := by
  intro n
  induction n with
  | zero => intro i _; rfl
  | succ n ih =>
    intro i h
    simp only [sv_wo, sv_mr, sv_ix]
    rw [if_neg (by omega), ih (by omega)]
    simp only [if_true]
    congr 2
    exact sv_mr_congr (fun _ _ => rfl) (fun l hl => (if_neg (by omega)).symm)
theorem sv_wo_mr (E : Nat → Nat) (k : Nat) : ∀ {n i : Nat}, k < n → sv_wo E k n i = sv_mr (sv_rem E k) (sv_rem (fun l => sv_ix E n l i) k) (n - 1) := by
  intro n
  induction n with
  | zero => intro i h; omega
  | succ n ih =>
    intro i h
    simp only [sv_wo]
    by_cases e : n = k
    · rw [if_pos e, sv_wo_lo E k (by omega), Nat.add_sub_cancel]
      refine sv_mr_congr (fun l hl => ?_) (fun l hl => ?_)
      · simp only [sv_rem]; rw [if_pos (by omega)]
      · simp only [sv_rem, sv_ix]; rw [if_pos (by omega), if_neg (by omega)]
    · rw [if_neg e, ih (by omega), Nat.add_sub_cancel]
      obtain ⟨m, rfl⟩ : ∃ m, n = m + 1 := ⟨n - 1, by omega⟩
      rw [Nat.add_sub_cancel]
      simp only [sv_mr]
      have h1 : sv_rem E k m = E (m + 1) := by simp only [sv_rem]; rw [if_neg (by omega)]
      have h2 : sv_rem (fun l => sv_ix E (m + 1 + 1) l i) k m = i % E (m + 1) := by
        simp only [sv_rem]
        rw [if_neg (by omega)]
        simp only [sv_ix, if_true]
      rw [h1, h2]
      congr 2
      refine sv_mr_congr (fun _ _ => rfl) (fun l hl => ?_)
      simp only [sv_rem]
      split
      · show sv_ix E (m + 1) l _ = sv_ix E (m + 1 + 1) l i
        rw [show sv_ix E (m + 1 + 1) l i = if l = m + 1 then i % E (m + 1) else sv_ix E (m + 1) l (i / E (m + 1)) from rfl, if_neg (by omega)]
      · show sv_ix E (m + 1) (l + 1) _ = sv_ix E (m + 1 + 1) (l + 1) i
        rw [show sv_ix E (m + 1 + 1) (l + 1) i = if l + 1 = m + 1 then i % E (m + 1) else sv_ix E (m + 1) (l + 1) (i / E (m + 1)) from rfl, if_neg (by omega)]
theorem sv_wo_pl {E : Nat → Nat} {k n i : Nat} (hk : k < n) : sv_pl E (sv_ins (sv_rs (sv_rem E k) (n - 1)) k 0) n i = nI (sv_wo E k n i) := by
  rw [sv_pl_sm, sv_wo_mr E k hk, ← sv_sm_rs]
  have := sv_sm_ins (sv_rs (sv_rem E k) (n - 1)) (sv_rem (fun l => sv_ix E n l i) k) 0 (sv_ix E n k i) (n := n - 1) (k := k) (by omega)
  rw [sv_ins_rem (fun l => sv_ix E n l i) k, Int32.mul_zero, Int32.add_zero, show n - 1 + 1 = n by omega] at this
  exact this
theorem sv_wo_lt {E : Nat → Nat} {k n i : Nat} (hk : k < n) (hi : i < sv_pr E n) : sv_wo E k n i < sv_pr (sv_rem E k) (n - 1) := by
  rw [sv_wo_mr E k hk]
  refine sv_mr_lt (fun l hl => ?_)
  have := sv_ix_lt hi
  simp only [sv_rem]
  split
  · exact this l (by omega)
  · exact this (l + 1) (by omega)
theorem sv_pr_ins (E : Nat → Nat) (e : Nat) : ∀ {n k : Nat}, k ≤ n → sv_pr (sv_ins E k e) (n + 1) = sv_pr E n * e := by
  intro n
  induction n with
  | zero =>
    intro k hk
    obtain rfl : k = 0 := by omega
    simp [sv_pr, sv_ins]
  | succ n ih =>
    intro k hk
    by_cases h : k = n + 1
    · subst h
      have h1 : sv_pr (sv_ins E (n + 1) e) (n + 1) = sv_pr E (n + 1) := sv_pr_congr (fun l hl => by simp only [sv_ins]; rw [if_pos hl])
      rw [show sv_pr (sv_ins E (n + 1) e) (n + 1 + 1) = sv_pr (sv_ins E (n + 1) e) (n + 1) * sv_ins E (n + 1) e (n + 1) from rfl, h1]
      simp [sv_ins]
    · rw [show sv_pr (sv_ins E k e) (n + 1 + 1) = sv_pr (sv_ins E k e) (n + 1) * sv_ins E k e (n + 1) from rfl, ih (by omega)]
      have h2 : sv_ins E k e (n + 1) = E n := by
        simp only [sv_ins]
        rw [if_neg (by omega), if_neg (by omega)]
        rfl
      rw [h2]
      show sv_pr E n * e * E n = sv_pr E n * E n * e
      rw [Nat.mul_assoc, Nat.mul_assoc, Nat.mul_comm e]
theorem sv_pr_rem {E : Nat → Nat} {n k : Nat} (hk : k < n) : sv_pr E n = sv_pr (sv_rem E k) (n - 1) * E k := by
  have := sv_pr_ins (sv_rem E k) (E k) (n := n - 1) (k := k) (by omega)
  rw [sv_ins_rem, show n - 1 + 1 = n by omega] at this
  exact this
theorem sv_pr_mono {E E2 : Nat → Nat} : ∀ {n : Nat}, (∀ k, k < n → E2 k ≤ E k) → sv_pr E2 n ≤ sv_pr E n := by
  intro n
  induction n with
  | zero => intro _; exact Nat.le_refl _
  | succ n ih => intro h; exact Nat.mul_le_mul (ih (fun k hk => h k (by omega))) (h n (by omega))
/-- numbers put into a row in order -/
theorem sv_wr_row {ln : Int32} {G : Nat → Int32} {nu : Nat → Int64} {N : Nat} (hN : N < 2 ^ 31) : ∀ n, n ≤ N → (∀ i, i < N → G i = nI i) → (sv_wr ln G nu (fun _ => 0) n).1 = fun i => if i < n then sv_low ln (nu i) else 0 := by
  intro n
  induction n with
  | zero => intro _ _; funext i; simp [sv_wr]
  | succ n ih =>
    intro hn h
    show vp_updL (sv_wr ln G nu (fun _ => 0) n).1 (G n).toNatClampNeg (sv_low ln (nu n)) = _
    rw [ih (by omega) h, h n (by omega), nI_clamp (by omega)]
    funext i
    by_cases e : i = n
    · subst e
      rw [pk_uLs, if_pos (by omega)]
    · rw [pk_uLn e]
      exact sv_ifc (by omega)
theorem sv_fo_congr {t : Int32} {A A2 : Nat → Nat} {f f2 r : Nat → Int64} : ∀ {n : Nat}, (∀ i, i < n → A2 i = A i) → (∀ i, i < n → f2 i = f i) → sv_fo t A2 f2 r n = sv_fo t A f r n := by
  intro n
  induction n with
  | zero => intro _ _; rfl
  | succ n ih => intro h h2; simp only [sv_fo]; rw [h n (by omega), h2 n (by omega), ih (fun k hk => h k (by omega)) (fun k hk => h2 k (by omega))]
theorem sv_cnt_lo {k : Nat} (hk : k < 2 ^ 31) : ∀ i, i ≤ k → sv_cnt (nI k) i = i := by
  intro i
  induction i with
  | zero => intro _; rfl
  | succ i ih => intro h; simp only [sv_cnt]; rw [if_neg (fun q => by have := (nI_eq (by omega) hk).mp q; omega), ih (by omega)]
theorem sv_cnt_gt {k : Nat} (hk : k < 2 ^ 31) : ∀ i, k < i → i < 2 ^ 31 → sv_cnt (nI k) i = i - 1 := by
  intro i
  induction i with
  | zero => intro h; omega
  | succ i ih =>
    intro h h2
    simp only [sv_cnt]
    by_cases e : i = k
    · subst e
      rw [if_pos rfl, sv_cnt_lo hk i (Nat.le_refl i)]
      omega
    · rw [if_neg (fun q => e ((nI_eq (by omega) hk).mp q)), ih (by omega) (by omega)]
      omega
theorem sv_cnt_none : ∀ i, i < 2 ^ 31 → sv_cnt (-1) i = i := by
  intro i
  induction i with
  | zero => intro _; rfl
  | succ i ih => intro h; simp only [sv_cnt]; rw [if_neg (sv_neg1 (by omega)), ih (by omega)]
theorem sv_prs_rem {E : Nat → Nat} {k : Nat} (hk : k < 2 ^ 31) : ∀ {n : Nat}, n < 2 ^ 31 → (n ≤ k → sv_prs E (nI k) n = sv_pr E n) ∧ (k < n → sv_prs E (nI k) n = sv_pr (sv_rem E k) (n - 1)) := by
  intro n
  induction n with
  | zero => intro _; exact ⟨fun _ => rfl, fun h => by omega⟩
  | succ n ih =>
    intro h
    obtain ⟨h1, h2⟩ := ih (by omega)
    refine ⟨fun q => ?_, fun q => ?_⟩
    · simp only [sv_prs, sv_pr]
      rw [if_neg (fun z => by have := (nI_eq (by omega) hk).mp z; omega), h1 (by omega)]
    · simp only [sv_prs]
      by_cases e : n = k
      · subst e
        rw [if_pos rfl, h1 (Nat.le_refl n), Nat.add_sub_cancel]
        exact (sv_pr_congr (fun l hl => by simp only [sv_rem]; rw [if_pos hl])).symm
      · rw [if_neg (fun z => e ((nI_eq (by omega) hk).mp z)), h2 (by omega), Nat.add_sub_cancel]
        obtain ⟨m, rfl⟩ : ∃ m, n = m + 1 := ⟨n - 1, by omega⟩
        rw [Nat.add_sub_cancel]
        show _ = sv_pr (sv_rem E k) m * sv_rem E k m
        congr 1
        simp only [sv_rem]
        rw [if_neg (by omega)]
