/-- fewer locals known -/
def am_le : List (Option Value) → List (Option Value) → Prop
  | [], _ => True
  | none :: a, _ :: b => am_le a b
  | none :: a, [] => am_le a []
  | some v :: a, some w :: b => v = w ∧ am_le a b
  | some _ :: _, none :: _ => False
  | some _ :: _, [] => False
theorem am_le_at : ∀ {A B : List (Option Value)}, am_le A B → ∀ (i : Nat) (v : Value), A[i]? = some (some v) → B[i]? = some (some v) := by
  intro A
  induction A with
  | nil => intro B _ i v h; simp at h
  | cons x a ih =>
    intro B h i v hi
    cases x with
    | none =>
      cases B with
      | nil =>
        cases i with
        | zero => simp at hi
        | succ i =>
          have := ih (B := []) h i v (by simpa using hi)
          simp at this
      | cons y b =>
        cases i with
        | zero => simp at hi
        | succ i => simpa using ih (B := b) h i v (by simpa using hi)
    | some w =>
      cases B with
      | nil => exact absurd h (by simp [am_le])
      | cons y b =>
        cases y with
        | none => exact absurd h (by simp [am_le])
        | some z =>
          obtain ⟨rfl, h2⟩ : w = z ∧ am_le a b := h
          cases i with
          | zero => simpa using hi
          | succ i => simpa using ih (B := b) h2 i v (by simpa using hi)
theorem am_drop {g : am_G} {d : Nat} {y : am_I} {pc : Nat} {L L' : List (Option Value)} {st : List Value} {S : am_S} {P : am_O → am_S → Prop} (h : am_le L' L) (k : am_W g d y (pc, L', st) S P) : am_W g d y (pc, L, st) S P := by
  intro p l e R s m args below meth c H locs cells slots ls hF hH hL
  exact k p l e R s m args below meth c H locs cells slots ls hF hH ⟨hL.1, fun i v hi => hL.2 i v (am_le_at h i v hi)⟩
/-- a counter that goes down: one less than m -/
def sv_dn (m : Nat) : Int32 := nI m - 1
theorem sv_dn_0 : sv_dn 0 < 0 := by decide
theorem sv_dn_s (m : Nat) : sv_dn (m + 1) = nI m := nI_pred m
theorem sv_dn_n {m : Nat} (h : m < 2 ^ 31) : ¬ sv_dn (m + 1) < 0 := by rw [sv_dn_s]; exact nI_pos h
theorem sv_dn_d (m : Nat) : nI m + (-1) = sv_dn m := by
  show nI m + -1 = nI m - 1
  rw [Int32.sub_eq_add_neg]
theorem sv_dn_p {m : Nat} (hm : m < 2 ^ 31) (h : ¬ sv_dn m < 0) : ∃ q, m = q + 1 := by
  cases m with
  | zero => exact absurd sv_dn_0 h
  | succ q => exact ⟨q, rfl⟩
theorem sv_dn_z {m : Nat} (hm : m < 2 ^ 31) (h : sv_dn m < 0) : m = 0 := by
  cases m with
  | zero => rfl
  | succ q => exact absurd h (sv_dn_n (by omega))
theorem sv_dn_g {m : Nat} (hm : m < 2 ^ 31) (h : 0 ≤ sv_dn m) : ∃ q, m = q + 1 := sv_dn_p hm (Int32.not_lt.mpr h)
theorem sv_dn_gz {m : Nat} (hm : m < 2 ^ 31) (h : ¬ 0 ≤ sv_dn m) : m = 0 := sv_dn_z hm (Int32.not_le.mp h)
theorem sv_pl_1 (F : Nat → Nat) (p : Nat → Int32) {m r : Nat} (h : F m = 1) : sv_pl F p (m + 1) r = sv_pl F p m r := by
  show nI (r % F m) * p m + sv_pl F p m (r / F m) = _
  rw [h, Nat.mod_one, Nat.div_one, nI_0, Int32.zero_mul, Int32.zero_add]
