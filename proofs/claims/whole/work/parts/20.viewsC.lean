/-- a sum of ints -/
def sv_sum (f : Nat → Int32) : Nat → Int32
  | 0 => 0
  | n + 1 => sv_sum f n + f n
set_option maxHeartbeats 4000000 in
set_option maxRecDepth 100000 in
/-- the loop of placeOf -/
theorem c_placeOf_l {g : am_G} {d : Nat} {S : am_S} {v st : Nat} {sa : Int32} {n : Nat} {it : Int32} {ex sp : Nat} {fe fs : Nat → Int32} (hV : sv_V S.1 v st sa n it ex sp fe fs) (F : Nat → Nat) (hF : ∀ k, k < n → fe k = nI (F k)) (hO : sv_ok F n) (hZ : ∀ k, k < n → 0 < F k) {i0 X : Int32} {P : am_O → am_S → Prop} (hP : P (.inl (some (.int X))) S) : ∀ (m : Nat), m ≤ n → ∀ (pl : Int32) (r : Nat), pl + sv_pl F fs m r = X → r < 2 ^ 31 → am_W g d mm_V_placeOf (15, [some (.ref v), some (.int i0), some (.int pl), some (.int (nI r)), some (.int (sv_dn m)), none], []) S P := by
  obtain ⟨hv, he, hs, hne, hn4⟩ := id hV
  intro m
  induction m with
  | zero =>
    intro hm pl r hX hr
    refine am_iload d_V_placeOf_15 rfl ?_
    refine am_iflt (tgt := 61) d_V_placeOf_17 (by decide) (fun hc => ?_) (fun hc => ?_)
    · have h9 : pl = X := by rw [← hX]; show pl = pl + 0; rw [Int32.add_zero]
      refine am_iloadn d_V_placeOf_61 rfl ?_
      rw [h9]
      exact am_iret d_V_placeOf_62 rfl hP
    · exact absurd sv_dn_0 hc
  | succ m ih =>
    intro hm pl r hX hr
    refine am_iload d_V_placeOf_15 rfl ?_
    refine am_iflt (tgt := 61) d_V_placeOf_17 (by decide) (fun hc => ?_) (fun hc => ?_)
    · exact absurd hc (sv_dn_n (by omega))
    · rw [sv_dn_s m]
      refine am_aloadn d_V_placeOf_20 rfl ?_
      refine am_get d_V_placeOf_21 fl_V_9 hv rfl ?_
      refine am_iload d_V_placeOf_24 rfl ?_
      refine am_ialdN (t := 0) (k := m) d_V_placeOf_26 rfl he (by omega) (by omega) ?_
      refine am_ti (b := nI (F m)) (hF m (by omega)) ?_
      refine am_istore (L' := [some (.ref v), some (.int i0), some (.int pl), some (.int (nI r)), some (.int (nI m)), some (.int (nI (F m)))]) d_V_placeOf_27 (by decide) rfl rfl ?_
      refine am_iload d_V_placeOf_29 rfl ?_
      refine am_iconst 1 d_V_placeOf_31 (by decide) ?_
      refine am_icle (tgt := 55) d_V_placeOf_32 (by decide) (fun hq => ?_) (fun hq => ?_)
      · have h1 : F m ≤ 1 := (nI_leI (hO m (by omega)) (by decide)).mp hq
        have h2 := hZ m (by omega)
        have hF1 : F m = 1 := by omega
        refine am_iinc (v := sv_dn m) (L' := [some (.ref v), some (.int i0), some (.int pl), some (.int (nI r)), some (.int (sv_dn m)), some (.int (nI (F m)))]) d_V_placeOf_55 rfl (sv_dn_d m) (by decide) rfl rfl ?_
        refine am_goto (tgt := 15) d_V_placeOf_58 (by decide) ?_
        refine am_drop (L' := [some (.ref v), some (.int i0), some (.int pl), some (.int (nI r)), some (.int (sv_dn m)), none]) (by simp [am_le]) ?_
        exact ih (by omega) pl r (by rw [← hX, sv_pl_1 F fs hF1]) hr
      · have hO9 := hO m (by omega)
        have hZ9 := hZ m (by omega)
        refine am_iloadn d_V_placeOf_35 rfl ?_
        refine am_iloadn d_V_placeOf_36 rfl ?_
        refine am_iload d_V_placeOf_37 rfl ?_
        refine am_irem d_V_placeOf_39 (nI_ne0 hZ9 hO9) ?_
        refine am_ti (b := nI (r % F m)) (pk_rem hr hZ9 hO9) ?_
        refine am_aloadn d_V_placeOf_40 rfl ?_
        refine am_get d_V_placeOf_41 fl_V_15 hv rfl ?_
        refine am_iload d_V_placeOf_44 rfl ?_
        refine am_ialdN (t := 0) (k := m) d_V_placeOf_46 rfl hs (by omega) (by omega) ?_
        refine am_imul d_V_placeOf_47 ?_
        refine am_iadd d_V_placeOf_48 ?_
        refine am_istoren (L' := [some (.ref v), some (.int i0), some (.int (pl + ((nI (r % F m)) * (fs m)))), some (.int (nI r)), some (.int (nI m)), some (.int (nI (F m)))]) d_V_placeOf_49 (by decide) rfl rfl ?_
        refine am_iloadn d_V_placeOf_50 rfl ?_
        refine am_iload d_V_placeOf_51 rfl ?_
        refine am_idiv d_V_placeOf_53 (nI_ne0 hZ9 hO9) ?_
        refine am_ti (b := nI (r / F m)) (pk_div hr hZ9 hO9) ?_
        refine am_istoren (L' := [some (.ref v), some (.int i0), some (.int (pl + ((nI (r % F m)) * (fs m)))), some (.int (nI (r / F m))), some (.int (nI m)), some (.int (nI (F m)))]) d_V_placeOf_54 (by decide) rfl rfl ?_
        refine am_iinc (v := sv_dn m) (L' := [some (.ref v), some (.int i0), some (.int (pl + ((nI (r % F m)) * (fs m)))), some (.int (nI (r / F m))), some (.int (sv_dn m)), some (.int (nI (F m)))]) d_V_placeOf_55 rfl (sv_dn_d m) (by decide) rfl rfl ?_
        refine am_goto (tgt := 15) d_V_placeOf_58 (by decide) ?_
        refine am_drop (L' := [some (.ref v), some (.int i0), some (.int (pl + ((nI (r % F m)) * (fs m)))), some (.int (nI (r / F m))), some (.int (sv_dn m)), none]) (by simp [am_le]) ?_
        exact ih (by omega) _ (r / F m) (by rw [← hX]; show _ = pl + (nI (r % F m) * fs m + sv_pl F fs m (r / F m)); rw [Int32.add_assoc]) (Nat.lt_of_le_of_lt (Nat.div_le_self r (F m)) hr)
set_option maxHeartbeats 4000000 in
set_option maxRecDepth 100000 in
/-- placeOf -/
theorem c_placeOf {g : am_G} {d : Nat} {S : am_S} {v st : Nat} {sa : Int32} {n : Nat} {it : Int32} {ex sp : Nat} {fe fs : Nat → Int32} (hV : sv_V S.1 v st sa n it ex sp fe fs) (F : Nat → Nat) (hF : ∀ k, k < n → fe k = nI (F k)) (hO : sv_ok F n) (hZ : ∀ k, k < n → 0 < F k) {i : Nat} (hi : i < 2 ^ 31) {P : am_O → am_S → Prop} (hP : P (.inl (some (.int (sa + sv_pl F fs n i)))) S) : am_W g d mm_V_placeOf (0, am_ent [.ref v, .int (nI i)] 6, []) S (P) := by
  obtain ⟨hv, he, hs, hne, hn4⟩ := id hV
  show am_W g d mm_V_placeOf (0, [some (.ref v), some (.int (nI i)), none, none, none, none], []) S _
  refine am_aloadn d_V_placeOf_0 rfl ?_
  refine am_get d_V_placeOf_1 fl_V_22 hv rfl ?_
  refine am_istoren (L' := [some (.ref v), some (.int (nI i)), some (.int sa), none, none, none]) d_V_placeOf_4 (by decide) rfl rfl ?_
  refine am_iloadn d_V_placeOf_5 rfl ?_
  refine am_istoren (L' := [some (.ref v), some (.int (nI i)), some (.int sa), some (.int (nI i)), none, none]) d_V_placeOf_6 (by decide) rfl rfl ?_
  refine am_aloadn d_V_placeOf_7 rfl ?_
  refine am_get d_V_placeOf_8 fl_V_26 hv rfl ?_
  refine am_iconst 1 d_V_placeOf_11 (by decide) ?_
  refine am_isub d_V_placeOf_12 ?_
  show am_W _ _ _ (_, _, [.int (sv_dn n)]) _ _
  refine am_istore (L' := [some (.ref v), some (.int (nI i)), some (.int sa), some (.int (nI i)), some (.int (sv_dn n)), none]) d_V_placeOf_13 (by decide) rfl rfl ?_
  exact c_placeOf_l hV F hF hO hZ hP n (Nat.le_refl n) sa i rfl hi
set_option maxHeartbeats 4000000 in
set_option maxRecDepth 100000 in
/-- the loop -/
theorem c_least_l {g : am_G} {d : Nat} {S : am_S} {v st : Nat} {sa : Int32} {n : Nat} {it : Int32} {ex sp : Nat} {fe fs : Nat → Int32} (hV : sv_V S.1 v st sa n it ex sp fe fs) {P : am_O → am_S → Prop} (hP : P (.inl (some (.int (sa + sv_sum (fun k => (if (fe k - 1) * fs k < 0 then (fe k - 1) * fs k else 0)) n)))) S) : ∀ (m k : Nat), k + m = n → ∀ pl : Int32, pl = sa + sv_sum (fun k => (if (fe k - 1) * fs k < 0 then (fe k - 1) * fs k else 0)) k → am_W g d mm_V_leastPlace (16, [some (.ref v), some (.int pl), some (.int (nI k))], []) S P := by
  obtain ⟨hv, he, hs, hne, hn4⟩ := id hV
  intro m
  induction m using Nat.strongRecOn with
  | ind m ih =>
    intro k hk pl hX
    refine am_iloadn d_V_leastPlace_16 rfl ?_
    refine am_aloadn d_V_leastPlace_17 rfl ?_
    refine am_get d_V_leastPlace_18 fl_V_26 hv rfl ?_
    refine am_icge (tgt := 52) d_V_leastPlace_21 (by decide) (fun hc => ?_) (fun hc => ?_)
    · have hk0 : n ≤ k := (nI_leI (by omega) (by omega)).mp hc
      obtain rfl : k = n := by omega
      refine am_iloadn d_V_leastPlace_52 rfl ?_
      rw [hX]
      exact am_iret d_V_leastPlace_53 rfl hP
    · have hlt : k < n := Nat.lt_of_not_le (fun q => hc (nI_le q (by omega)))
      refine am_iloadn d_V_leastPlace_24 rfl ?_
      refine am_iconst 0 d_V_leastPlace_25 (by decide) ?_
      refine am_aloadn d_V_leastPlace_26 rfl ?_
      refine am_get d_V_leastPlace_27 fl_V_9 hv rfl ?_
      refine am_iloadn d_V_leastPlace_30 rfl ?_
      refine am_ialdN (t := 0) (k := k) d_V_leastPlace_31 rfl he (by omega) (by omega) ?_
      refine am_iconst 1 d_V_leastPlace_32 (by decide) ?_
      refine am_isub d_V_leastPlace_33 ?_
      refine am_aloadn d_V_leastPlace_34 rfl ?_
      refine am_get d_V_leastPlace_35 fl_V_15 hv rfl ?_
      refine am_iloadn d_V_leastPlace_38 rfl ?_
      refine am_ialdN (t := 0) (k := k) d_V_leastPlace_39 rfl hs (by omega) (by omega) ?_
      refine am_imul d_V_leastPlace_40 ?_
      refine am_mmin d_V_leastPlace_41 (am_in 489 (by decide +kernel) rfl) (Nat.le_of_ble_eq_true rfl) ?_
      refine am_ti (b := (fun k => (if (fe k - 1) * fs k < 0 then (fe k - 1) * fs k else 0)) k) rfl ?_
      refine am_iadd d_V_leastPlace_44 ?_
      refine am_istoren (L' := [some (.ref v), some (.int (pl + ((fun k => (if (fe k - 1) * fs k < 0 then (fe k - 1) * fs k else 0)) k))), some (.int (nI k))]) d_V_leastPlace_45 (by decide) rfl rfl ?_
      refine am_iinc (v := nI (k + 1)) (L' := [some (.ref v), some (.int (pl + ((fun k => (if (fe k - 1) * fs k < 0 then (fe k - 1) * fs k else 0)) k))), some (.int (nI (k + 1)))]) d_V_leastPlace_46 rfl (nI_1 k) (by decide) rfl rfl ?_
      refine am_goto (tgt := 16) d_V_leastPlace_49 (by decide) ?_
      exact ih (m - 1) (by omega) (k + 1) (by omega) _ (by rw [hX, Int32.add_assoc]; rfl)
set_option maxHeartbeats 4000000 in
set_option maxRecDepth 100000 in
/-- V_leastPlace -/
theorem c_least {g : am_G} {d : Nat} {S : am_S} {v st : Nat} {sa : Int32} {n : Nat} {it : Int32} {ex sp : Nat} {fe fs : Nat → Int32} (hV : sv_V S.1 v st sa n it ex sp fe fs) {P : am_O → am_S → Prop} (h0 : it = 0 → P (.inl (some (.int (-1)))) S) (hP : ¬ it = 0 → P (.inl (some (.int (sa + sv_sum (fun k => (if (fe k - 1) * fs k < 0 then (fe k - 1) * fs k else 0)) n)))) S) : am_W g d mm_V_leastPlace (0, am_ent [.ref v] 3, []) S (P) := by
  obtain ⟨hv, he, hs, hne, hn4⟩ := id hV
  show am_W g d mm_V_leastPlace (0, [some (.ref v), none, none], []) S _
  refine am_aloadn d_V_leastPlace_0 rfl ?_
  refine am_get d_V_leastPlace_1 fl_V_29 hv rfl ?_
  refine am_ifne (tgt := 9) d_V_leastPlace_4 (by decide) (fun hc => ?_) (fun hc => ?_)
  · refine am_aloadn d_V_leastPlace_9 rfl ?_
    refine am_get d_V_leastPlace_10 fl_V_22 hv rfl ?_
    refine am_istoren (L' := [some (.ref v), some (.int sa), none]) d_V_leastPlace_13 (by decide) rfl rfl ?_
    refine am_iconst 0 d_V_leastPlace_14 (by decide) ?_
    refine am_istoren (L' := [some (.ref v), some (.int sa), some (.int 0)]) d_V_leastPlace_15 (by decide) rfl rfl ?_
    exact c_least_l hV (hP hc) n 0 (by omega) sa (by show sa = sa + 0; rw [Int32.add_zero])
  · refine am_iconst (-1) d_V_leastPlace_7 (by decide) ?_
    exact am_iret d_V_leastPlace_8 rfl (h0 hc)
set_option maxHeartbeats 4000000 in
set_option maxRecDepth 100000 in
/-- the loop -/
theorem c_greatest_l {g : am_G} {d : Nat} {S : am_S} {v st : Nat} {sa : Int32} {n : Nat} {it : Int32} {ex sp : Nat} {fe fs : Nat → Int32} (hV : sv_V S.1 v st sa n it ex sp fe fs) {P : am_O → am_S → Prop} (hP : P (.inl (some (.int (sa + sv_sum (fun k => (if 0 < (fe k - 1) * fs k then (fe k - 1) * fs k else 0)) n)))) S) : ∀ (m k : Nat), k + m = n → ∀ pl : Int32, pl = sa + sv_sum (fun k => (if 0 < (fe k - 1) * fs k then (fe k - 1) * fs k else 0)) k → am_W g d mm_V_greatestPlace (16, [some (.ref v), some (.int pl), some (.int (nI k))], []) S P := by
  obtain ⟨hv, he, hs, hne, hn4⟩ := id hV
  intro m
  induction m using Nat.strongRecOn with
  | ind m ih =>
    intro k hk pl hX
    refine am_iloadn d_V_greatestPlace_16 rfl ?_
    refine am_aloadn d_V_greatestPlace_17 rfl ?_
    refine am_get d_V_greatestPlace_18 fl_V_26 hv rfl ?_
    refine am_icge (tgt := 52) d_V_greatestPlace_21 (by decide) (fun hc => ?_) (fun hc => ?_)
    · have hk0 : n ≤ k := (nI_leI (by omega) (by omega)).mp hc
      obtain rfl : k = n := by omega
      refine am_iloadn d_V_greatestPlace_52 rfl ?_
      rw [hX]
      exact am_iret d_V_greatestPlace_53 rfl hP
    · have hlt : k < n := Nat.lt_of_not_le (fun q => hc (nI_le q (by omega)))
      refine am_iloadn d_V_greatestPlace_24 rfl ?_
      refine am_iconst 0 d_V_greatestPlace_25 (by decide) ?_
      refine am_aloadn d_V_greatestPlace_26 rfl ?_
      refine am_get d_V_greatestPlace_27 fl_V_9 hv rfl ?_
      refine am_iloadn d_V_greatestPlace_30 rfl ?_
      refine am_ialdN (t := 0) (k := k) d_V_greatestPlace_31 rfl he (by omega) (by omega) ?_
      refine am_iconst 1 d_V_greatestPlace_32 (by decide) ?_
      refine am_isub d_V_greatestPlace_33 ?_
      refine am_aloadn d_V_greatestPlace_34 rfl ?_
      refine am_get d_V_greatestPlace_35 fl_V_15 hv rfl ?_
      refine am_iloadn d_V_greatestPlace_38 rfl ?_
      refine am_ialdN (t := 0) (k := k) d_V_greatestPlace_39 rfl hs (by omega) (by omega) ?_
      refine am_imul d_V_greatestPlace_40 ?_
      refine am_mmax d_V_greatestPlace_41 (am_in 494 (by decide +kernel) rfl) (Nat.le_of_ble_eq_true rfl) ?_
      refine am_ti (b := (fun k => (if 0 < (fe k - 1) * fs k then (fe k - 1) * fs k else 0)) k) rfl ?_
      refine am_iadd d_V_greatestPlace_44 ?_
      refine am_istoren (L' := [some (.ref v), some (.int (pl + ((fun k => (if 0 < (fe k - 1) * fs k then (fe k - 1) * fs k else 0)) k))), some (.int (nI k))]) d_V_greatestPlace_45 (by decide) rfl rfl ?_
      refine am_iinc (v := nI (k + 1)) (L' := [some (.ref v), some (.int (pl + ((fun k => (if 0 < (fe k - 1) * fs k then (fe k - 1) * fs k else 0)) k))), some (.int (nI (k + 1)))]) d_V_greatestPlace_46 rfl (nI_1 k) (by decide) rfl rfl ?_
      refine am_goto (tgt := 16) d_V_greatestPlace_49 (by decide) ?_
      exact ih (m - 1) (by omega) (k + 1) (by omega) _ (by rw [hX, Int32.add_assoc]; rfl)
set_option maxHeartbeats 4000000 in
set_option maxRecDepth 100000 in
/-- V_greatestPlace -/
theorem c_greatest {g : am_G} {d : Nat} {S : am_S} {v st : Nat} {sa : Int32} {n : Nat} {it : Int32} {ex sp : Nat} {fe fs : Nat → Int32} (hV : sv_V S.1 v st sa n it ex sp fe fs) {P : am_O → am_S → Prop} (h0 : it = 0 → P (.inl (some (.int (-1)))) S) (hP : ¬ it = 0 → P (.inl (some (.int (sa + sv_sum (fun k => (if 0 < (fe k - 1) * fs k then (fe k - 1) * fs k else 0)) n)))) S) : am_W g d mm_V_greatestPlace (0, am_ent [.ref v] 3, []) S (P) := by
  obtain ⟨hv, he, hs, hne, hn4⟩ := id hV
  show am_W g d mm_V_greatestPlace (0, [some (.ref v), none, none], []) S _
  refine am_aloadn d_V_greatestPlace_0 rfl ?_
  refine am_get d_V_greatestPlace_1 fl_V_29 hv rfl ?_
  refine am_ifne (tgt := 9) d_V_greatestPlace_4 (by decide) (fun hc => ?_) (fun hc => ?_)
  · refine am_aloadn d_V_greatestPlace_9 rfl ?_
    refine am_get d_V_greatestPlace_10 fl_V_22 hv rfl ?_
    refine am_istoren (L' := [some (.ref v), some (.int sa), none]) d_V_greatestPlace_13 (by decide) rfl rfl ?_
    refine am_iconst 0 d_V_greatestPlace_14 (by decide) ?_
    refine am_istoren (L' := [some (.ref v), some (.int sa), some (.int 0)]) d_V_greatestPlace_15 (by decide) rfl rfl ?_
    exact c_greatest_l hV (hP hc) n 0 (by omega) sa (by show sa = sa + 0; rw [Int32.add_zero])
  · refine am_iconst (-1) d_V_greatestPlace_7 (by decide) ?_
    exact am_iret d_V_greatestPlace_8 rfl (h0 hc)
