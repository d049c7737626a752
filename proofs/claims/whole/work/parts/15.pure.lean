/-! numbers of views: products of extents, places; and rows that name the top of the stack -/
section AmTop
variable {g : am_G} {d : Nat} {y : am_I} {pc : Nat} {L : List (Option Value)} {st : List Value} {S : am_S} {P : am_O → am_S → Prop}
theorem am_tl {a b : Int64} (h : a = b) (k : am_W g d y (pc, L, .long b :: st) S P) : am_W g d y (pc, L, .long a :: st) S P := by rw [h]; exact k
theorem am_ti {a b : Int32} (h : a = b) (k : am_W g d y (pc, L, .int b :: st) S P) : am_W g d y (pc, L, .int a :: st) S P := by rw [h]; exact k
end AmTop
/-- the product of the first n extents, but for the axis b -/
def sv_prs (E : Nat → Nat) (b : Int32) : Nat → Nat
  | 0 => 1
  | n + 1 => if nI n = b then sv_prs E b n else sv_prs E b n * E n
def sv_pr (E : Nat → Nat) : Nat → Nat
  | 0 => 1
  | n + 1 => sv_pr E n * E n
/-- where the item i lies beyond the start: the last axis's index goes first -/
def sv_pl (E : Nat → Nat) (p : Nat → Int32) : Nat → Nat → Int32
  | 0, _ => 0
  | n + 1, i => nI (i % E n) * p n + sv_pl E p n (i / E n)
/-- the index of the item i along the axis k -/
def sv_ix (E : Nat → Nat) : Nat → Nat → Nat → Nat
  | 0, _, _ => 0
  | n + 1, k, i => if k = n then i % E n else sv_ix E n k (i / E n)
/-- extents that an int holds -/
abbrev sv_ok (E : Nat → Nat) (n : Nat) : Prop := ∀ k, k < n → E k < 2 ^ 31
theorem sv_neg1 {n : Nat} (h : n < 2 ^ 31) : ¬ nI n = -1 := by
  intro q
  have h1 := nI_toInt h
  rw [q] at h1
  have h2 : (-1 : Int32).toInt = -1 := by decide
  omega
theorem sv_prs_none (E : Nat → Nat) : ∀ n, n < 2 ^ 31 → sv_prs E (-1) n = sv_pr E n := by
  intro n
  induction n with
  | zero => intro _; rfl
  | succ n ih => intro h; simp only [sv_prs, sv_pr]; rw [if_neg (sv_neg1 (by omega)), ih (by omega)]
theorem sv_min_step {a e : Nat} (he : e < 2 ^ 31) : (if (2147483647 : Int64) < lN (min a 2147483647) * (nI e).toInt64 then (2147483647 : Int64) else lN (min a 2147483647) * (nI e).toInt64) = lN (min (a * e) 2147483647) := by
  have hm : min a 2147483647 ≤ 2147483647 := Nat.min_le_right _ _
  have h1 : min a 2147483647 * e < 2 ^ 63 := by
    have : min a 2147483647 * e ≤ 2147483647 * 2147483647 := Nat.mul_le_mul hm (by omega)
    omega
  rw [nI_l he, lN_mul]
  have h2 : (2147483647 : Int64) = lN 2147483647 := rfl
  rw [h2]
  by_cases hc : 2147483647 < min a 2147483647 * e
  · rw [if_pos ((pk_lLT (by decide) h1).mpr hc)]
    congr 1
    have : 2147483647 ≤ a * e := Nat.le_trans (Nat.le_of_lt hc) (Nat.mul_le_mul_right e (Nat.min_le_left _ _))
    omega
  · rw [if_neg (fun q => hc ((pk_lLT (by decide) h1).mp q))]
    congr 1
    rcases Nat.le_total a 2147483647 with h3 | h3
    · rw [Nat.min_eq_left h3] at hc ⊢
      omega
    · rw [Nat.min_eq_right h3] at hc ⊢
      rcases Nat.eq_zero_or_pos e with h4 | h4
      · subst h4; simp
      · have h5 : e = 1 := by
          rcases Nat.lt_or_ge 1 e with h6 | h6
          · have := Nat.mul_le_mul_left 2147483647 h6
            omega
          · omega
        subst h5
        omega
