/-! places of all items, laid out axis by axis from the last one -/
def sv_pt (E : Nat → Nat) (p : Nat → Int32) : Nat → Nat → Nat → Int32
  | _, 0, _ => 0
  | 0, _ + 1, _ => 0
  | n + 1, j + 1, i => nI (i % E n) * p n + sv_pt E p n j (i / E n)
def sv_dp (E : Nat → Nat) : Nat → Nat → Nat
  | _, 0 => 1
  | 0, _ + 1 => 1
  | n + 1, j + 1 => E n * sv_dp E n j
theorem sv_pt_all (E : Nat → Nat) (p : Nat → Int32) : ∀ n i, sv_pt E p n n i = sv_pl E p n i := by
  intro n
  induction n with
  | zero => intro i; rfl
  | succ n ih => intro i; show nI (i % E n) * p n + sv_pt E p n n (i / E n) = nI (i % E n) * p n + sv_pl E p n (i / E n); rw [ih]
theorem sv_dp_all (E : Nat → Nat) : ∀ n, sv_dp E n n = sv_pr E n := by
  intro n
  induction n with
  | zero => rfl
  | succ n ih => show E n * sv_dp E n n = sv_pr E n * E n; rw [ih, Nat.mul_comm]
theorem sv_dp_s (E : Nat → Nat) : ∀ j n, j < n → sv_dp E n (j + 1) = sv_dp E n j * E (n - 1 - j) := by
  intro j
  induction j with
  | zero =>
    intro n h
    obtain ⟨n, rfl⟩ : ∃ q, n = q + 1 := ⟨n - 1, by omega⟩
    have h0 : ∀ m, sv_dp E m 0 = 1 := fun m => by cases m <;> rfl
    show E n * sv_dp E n 0 = sv_dp E (n + 1) 0 * E (n + 1 - 1 - 0)
    rw [h0, h0, Nat.mul_one, Nat.one_mul]
    rfl
  | succ j ih =>
    intro n h
    obtain ⟨n, rfl⟩ : ∃ q, n = q + 1 := ⟨n - 1, by omega⟩
    show E n * sv_dp E n (j + 1) = E n * sv_dp E n j * E (n + 1 - 1 - (j + 1))
    rw [ih n (by omega), Nat.mul_assoc, show n + 1 - 1 - (j + 1) = n - 1 - j by omega]
theorem sv_dp_pos (E : Nat → Nat) {n : Nat} (hE : ∀ k, k < n → 0 < E k) : ∀ j, j ≤ n → 0 < sv_dp E n j := by
  intro j
  induction j with
  | zero => intro _; cases n <;> exact Nat.one_pos
  | succ j ih => intro h; rw [sv_dp_s E j n (by omega)]; exact Nat.mul_pos (ih (by omega)) (hE _ (by omega))
theorem sv_dp_le (E : Nat → Nat) {n : Nat} (hE : ∀ k, k < n → 0 < E k) : ∀ j, j ≤ n → sv_dp E n j ≤ sv_pr E n := by
  intro j hj
  rw [← sv_dp_all E n]
  obtain ⟨c, hc⟩ : ∃ c, n = j + c := ⟨n - j, by omega⟩
  have key : ∀ c, j + c ≤ n → sv_dp E n j ≤ sv_dp E n (j + c) := by
    intro c
    induction c with
    | zero => intro _; exact Nat.le_refl _
    | succ c ih =>
      intro h
      refine Nat.le_trans (ih (by omega)) ?_
      show sv_dp E n (j + c) ≤ sv_dp E n ((j + c) + 1)
      rw [sv_dp_s E (j + c) n (by omega)]
      exact Nat.le_mul_of_pos_right _ (hE _ (by omega))
  have h := key (n - j) (by omega)
  rwa [show j + (n - j) = n by omega] at h
theorem sv_pt_0 (E : Nat → Nat) (p : Nat → Int32) (n i : Nat) : sv_pt E p n 0 i = 0 := by cases n <;> rfl
theorem sv_dp_0 (E : Nat → Nat) (n : Nat) : sv_dp E n 0 = 1 := by cases n <;> rfl
theorem sv_pt_lo (E : Nat → Nat) (p : Nat → Int32) : ∀ j n i, j < n → i < sv_dp E n j → sv_pt E p n (j + 1) i = sv_pt E p n j i := by
  intro j
  induction j with
  | zero =>
    intro n i h hi
    rw [sv_dp_0] at hi
    obtain rfl : i = 0 := by omega
    obtain ⟨n, rfl⟩ : ∃ q, n = q + 1 := ⟨n - 1, by omega⟩
    show nI (0 % E n) * p n + sv_pt E p n 0 (0 / E n) = sv_pt E p (n + 1) 0 0
    rw [sv_pt_0, sv_pt_0, Nat.zero_mod, nI_0, Int32.zero_mul, Int32.zero_add]
  | succ j ih =>
    intro n i h hi
    obtain ⟨n, rfl⟩ : ∃ q, n = q + 1 := ⟨n - 1, by omega⟩
    have hi : i < E n * sv_dp E n j := hi
    show nI (i % E n) * p n + sv_pt E p n (j + 1) (i / E n) = nI (i % E n) * p n + sv_pt E p n j (i / E n)
    rw [ih n (i / E n) (by omega) (Nat.div_lt_of_lt_mul hi)]
theorem sv_pt_up (E : Nat → Nat) (p : Nat → Int32) : ∀ j n i, j < n → (∀ k, k < n → 0 < E k) → i + sv_dp E n j < sv_dp E n (j + 1) → sv_pt E p n (j + 1) (i + sv_dp E n j) = sv_pt E p n (j + 1) i + p (n - 1 - j) := by
  intro j
  induction j with
  | zero =>
    intro n i h hE hi
    obtain ⟨n, rfl⟩ : ∃ q, n = q + 1 := ⟨n - 1, by omega⟩
    rw [sv_dp_0] at hi ⊢
    have hi : i + 1 < E n * sv_dp E n 0 := hi
    rw [sv_dp_0, Nat.mul_one] at hi
    show nI ((i + 1) % E n) * p n + sv_pt E p n 0 _ = nI (i % E n) * p n + sv_pt E p n 0 _ + p (n + 1 - 1 - 0)
    rw [sv_pt_0, sv_pt_0, Nat.mod_eq_of_lt hi, Nat.mod_eq_of_lt (by omega), nI_succ, Int32.add_zero, Int32.add_zero, Int32.add_mul, Int32.one_mul]
    rfl
  | succ j ih =>
    intro n i h hE hi
    obtain ⟨n, rfl⟩ : ∃ q, n = q + 1 := ⟨n - 1, by omega⟩
    have hpos := hE n (by omega)
    have hd : sv_dp E (n + 1) (j + 1) = E n * sv_dp E n j := rfl
    have hi : i + E n * sv_dp E n j < E n * sv_dp E n (j + 1) := hi
    rw [hd]
    show nI ((i + E n * sv_dp E n j) % E n) * p n + sv_pt E p n (j + 1) ((i + E n * sv_dp E n j) / E n) = nI (i % E n) * p n + sv_pt E p n (j + 1) (i / E n) + p (n + 1 - 1 - (j + 1))
    rw [Nat.add_mul_mod_self_left, Nat.add_mul_div_left _ _ hpos]
    have hlt : i / E n + sv_dp E n j < sv_dp E n (j + 1) := by
      have h1 : (i + E n * sv_dp E n j) / E n < sv_dp E n (j + 1) := Nat.div_lt_of_lt_mul hi
      rwa [Nat.add_mul_div_left _ _ hpos] at h1
    rw [ih n (i / E n) (by omega) (fun k hk => hE k (by omega)) hlt, ← Int32.add_assoc, show n + 1 - 1 - (j + 1) = n - 1 - j by omega]
/-- a view's steps along the axes of one that it goes to -/
def sv_sh (l : Nat) (fs : Nat → Int32) : Nat → Int32 := fun k => if k < l then 0 else fs (k - l)
theorem sv_sh_0 (fs : Nat → Int32) : sv_sh 0 fs = fs := by funext k; simp [sv_sh]
/-- only the cell a has changed -/
def sv_f1 (S S1 : am_S) (a : Nat) : Prop := S1.2 = S.2 ∧ ∀ q : Nat, q ≠ a → S1.1 q = S.1 q
theorem sv_f1.rf {S : am_S} {a : Nat} : sv_f1 S S a := ⟨rfl, fun _ _ => rfl⟩
theorem sv_f1.u {S S1 : am_S} {a : Nat} {e : va_E} (h : sv_f1 S S1 a) : sv_f1 S (am_up S1.1 a e, S1.2) a := ⟨h.1, fun q hq => (am_up_n hq).trans (h.2 q hq)⟩
theorem sv_pr_pos {E : Nat → Nat} : ∀ {n : Nat}, 0 < sv_pr E n → ∀ k, k < n → 0 < E k := by
  intro n
  induction n with
  | zero => intro _ k hk; omega
  | succ n ih =>
    intro h k hk
    have h : 0 < sv_pr E n * E n := h
    have h1 : 0 < sv_pr E n := Nat.pos_of_mul_pos_right h
    have h2 : 0 < E n := Nat.pos_of_mul_pos_left h
    rcases Nat.lt_or_ge k n with q | q
    · exact ih h1 k q
    · obtain rfl : k = n := by omega
      exact h2
