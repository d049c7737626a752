set_option maxHeartbeats 4000000 in
set_option maxRecDepth 100000 in
/-- the loop of isFixed -/
theorem c_isFixed_l {g : am_G} {d : Nat} {S : am_S} {v st : Nat} {sa : Int32} {n : Nat} {it : Int32} {ex sp : Nat} {fe fs : Nat → Int32} (hV : sv_V S.1 v st sa n it ex sp fe fs) {P : am_O → am_S → Prop} (h1 : sv_fx fe fs n → P (.inl (some (.int 1))) S) (h0 : ¬ sv_fx fe fs n → P (.inl (some (.int 0))) S) : ∀ (m k : Nat), k + m = n → (∀ j, j < k → ¬ (fs j = 0 ∧ 2 ≤ fe j)) → am_W g d mm_V_isFixed (2, [some (.ref v), some (.int (nI k))], []) S P := by
  obtain ⟨hv, he, hs, hne, hn4⟩ := id hV
  intro m
  induction m using Nat.strongRecOn with
  | ind m ih =>
    intro k hk
    intro hb
    refine am_iloadn d_V_isFixed_2 rfl ?_
    refine am_aloadn d_V_isFixed_3 rfl ?_
    refine am_get d_V_isFixed_4 fl_V_26 hv rfl ?_
    refine am_icge (tgt := 37) d_V_isFixed_7 (by decide) (fun hc => ?_) (fun hc => ?_)
    · have hk0 : n ≤ k := (nI_leI (by omega) (by omega)).mp hc
      refine am_iconst 0 d_V_isFixed_37 (by decide) ?_
      exact am_zret d_V_isFixed_38 rfl rfl (h0 (fun ⟨j, h1, h2, h3⟩ => hb j (by omega) ⟨h2, h3⟩))
    · have hlt : k < n := Nat.lt_of_not_le (fun q => hc (nI_le q (by omega)))
      refine am_aloadn d_V_isFixed_10 rfl ?_
      refine am_get d_V_isFixed_11 fl_V_15 hv rfl ?_
      refine am_iloadn d_V_isFixed_14 rfl ?_
      refine am_ialdN (t := 0) (k := k) d_V_isFixed_15 rfl hs (by omega) (by omega) ?_
      refine am_ifne (tgt := 31) d_V_isFixed_16 (by decide) (fun hq => ?_) (fun hq => ?_)
      · refine am_iinc (v := nI (k + 1)) (L' := [some (.ref v), some (.int (nI (k + 1)))]) d_V_isFixed_31 rfl (nI_1 k) (by decide) rfl rfl ?_
        refine am_goto (tgt := 2) d_V_isFixed_34 (by decide) ?_
        refine ih (m - 1) (by omega) (k + 1) (by omega) (fun j hj hx => ?_)
        rcases Nat.lt_or_ge j k with h | h
        · exact hb j h hx
        · obtain rfl : j = k := by omega
          exact hq hx.1
      · refine am_aloadn d_V_isFixed_19 rfl ?_
        refine am_get d_V_isFixed_20 fl_V_9 hv rfl ?_
        refine am_iloadn d_V_isFixed_23 rfl ?_
        refine am_ialdN (t := 0) (k := k) d_V_isFixed_24 rfl he (by omega) (by omega) ?_
        refine am_iconst 2 d_V_isFixed_25 (by decide) ?_
        refine am_iclt (tgt := 31) d_V_isFixed_26 (by decide) (fun hz => ?_) (fun hz => ?_)
        · refine am_iinc (v := nI (k + 1)) (L' := [some (.ref v), some (.int (nI (k + 1)))]) d_V_isFixed_31 rfl (nI_1 k) (by decide) rfl rfl ?_
          refine am_goto (tgt := 2) d_V_isFixed_34 (by decide) ?_
          refine ih (m - 1) (by omega) (k + 1) (by omega) (fun j hj hx => ?_)
          rcases Nat.lt_or_ge j k with h | h
          · exact hb j h hx
          · obtain rfl : j = k := by omega
            exact absurd hx.2 (Int32.not_le.mpr hz)
        · refine am_iconst 1 d_V_isFixed_29 (by decide) ?_
          exact am_zret d_V_isFixed_30 rfl rfl (h1 ⟨k, hlt, hq, Int32.not_lt.mp hz⟩)
set_option maxHeartbeats 4000000 in
set_option maxRecDepth 100000 in
/-- isFixed -/
theorem c_isFixed {g : am_G} {d : Nat} {S : am_S} {v st : Nat} {sa : Int32} {n : Nat} {it : Int32} {ex sp : Nat} {fe fs : Nat → Int32} (hV : sv_V S.1 v st sa n it ex sp fe fs) {P : am_O → am_S → Prop} (h1 : sv_fx fe fs n → P (.inl (some (.int 1))) S) (h0 : ¬ sv_fx fe fs n → P (.inl (some (.int 0))) S) : am_W g d mm_V_isFixed (0, am_ent [.ref v] 2, []) S (P) := by
  obtain ⟨hv, he, hs, hne, hn4⟩ := id hV
  show am_W g d mm_V_isFixed (0, [some (.ref v), none], []) S _
  refine am_iconst 0 d_V_isFixed_0 (by decide) ?_
  refine am_istoren (L' := [some (.ref v), some (.int 0)]) d_V_isFixed_1 (by decide) rfl rfl ?_
  exact c_isFixed_l hV h1 h0 n 0 (by omega) (fun j hj => absurd hj (Nat.not_lt_zero j))
set_option maxHeartbeats 4000000 in
set_option maxRecDepth 100000 in
/-- the loop of hasExtentsOf -/
theorem c_hasExt_l {g : am_G} {d : Nat} {S : am_S} {v st : Nat} {sa : Int32} {n : Nat} {it : Int32} {ex sp : Nat} {fe fs : Nat → Int32} (hV : sv_V S.1 v st sa n it ex sp fe fs) {w st2 : Nat} {sa2 : Int32} {n2 : Nat} {it2 : Int32} {ex2 sp2 : Nat} {fe2 fs2 : Nat → Int32} (hV2 : sv_V S.1 w st2 sa2 n2 it2 ex2 sp2 fe2 fs2) {P : am_O → am_S → Prop} (h1 : sv_he n fe n2 fe2 → P (.inl (some (.int 1))) S) (h0 : ¬ sv_he n fe n2 fe2 → P (.inl (some (.int 0))) S) (hnn : n = n2) : ∀ (m k : Nat), k + m = n → (∀ j, j < k → fe j = fe2 j) → am_W g d mm_V_hasExtentsOf (15, [some (.ref v), some (.ref w), some (.int (nI k))], []) S P := by
  obtain ⟨hv, he, hs, hne, hn4⟩ := id hV
  obtain ⟨hv2, he2, hs2, hne2, hn42⟩ := id hV2
  intro m
  induction m using Nat.strongRecOn with
  | ind m ih =>
    intro k hk
    intro hb
    refine am_iloadn d_V_hasExtentsOf_15 rfl ?_
    refine am_aloadn d_V_hasExtentsOf_16 rfl ?_
    refine am_get d_V_hasExtentsOf_17 fl_V_26 hv rfl ?_
    refine am_icge (tgt := 46) d_V_hasExtentsOf_20 (by decide) (fun hc => ?_) (fun hc => ?_)
    · have hk0 : n ≤ k := (nI_leI (by omega) (by omega)).mp hc
      refine am_iconst 1 d_V_hasExtentsOf_46 (by decide) ?_
      exact am_zret d_V_hasExtentsOf_47 rfl rfl (h1 ⟨hnn, fun j hj => hb j (by omega)⟩)
    · have hlt : k < n := Nat.lt_of_not_le (fun q => hc (nI_le q (by omega)))
      refine am_aloadn d_V_hasExtentsOf_23 rfl ?_
      refine am_get d_V_hasExtentsOf_24 fl_V_9 hv rfl ?_
      refine am_iloadn d_V_hasExtentsOf_27 rfl ?_
      refine am_ialdN (t := 0) (k := k) d_V_hasExtentsOf_28 rfl he (by omega) (by omega) ?_
      refine am_aloadn d_V_hasExtentsOf_29 rfl ?_
      refine am_get d_V_hasExtentsOf_30 fl_V_9 hv2 rfl ?_
      refine am_iloadn d_V_hasExtentsOf_33 rfl ?_
      refine am_ialdN (t := 0) (k := k) d_V_hasExtentsOf_34 rfl he2 (by omega) (by omega) ?_
      refine am_iceq (tgt := 40) d_V_hasExtentsOf_35 (by decide) (fun hq => ?_) (fun hq => ?_)
      · refine am_iinc (v := nI (k + 1)) (L' := [some (.ref v), some (.ref w), some (.int (nI (k + 1)))]) d_V_hasExtentsOf_40 rfl (nI_1 k) (by decide) rfl rfl ?_
        refine am_goto (tgt := 15) d_V_hasExtentsOf_43 (by decide) ?_
        refine ih (m - 1) (by omega) (k + 1) (by omega) (fun j hj => ?_)
        rcases Nat.lt_or_ge j k with h | h
        · exact hb j h
        · obtain rfl : j = k := by omega
          exact hq
      · refine am_iconst 0 d_V_hasExtentsOf_38 (by decide) ?_
        exact am_zret d_V_hasExtentsOf_39 rfl rfl (h0 (fun hx => hq (hx.2 k hlt)))
set_option maxHeartbeats 4000000 in
set_option maxRecDepth 100000 in
/-- hasExtentsOf -/
theorem c_hasExt {g : am_G} {d : Nat} {S : am_S} {v st : Nat} {sa : Int32} {n : Nat} {it : Int32} {ex sp : Nat} {fe fs : Nat → Int32} (hV : sv_V S.1 v st sa n it ex sp fe fs) {w st2 : Nat} {sa2 : Int32} {n2 : Nat} {it2 : Int32} {ex2 sp2 : Nat} {fe2 fs2 : Nat → Int32} (hV2 : sv_V S.1 w st2 sa2 n2 it2 ex2 sp2 fe2 fs2) {P : am_O → am_S → Prop} (h1 : sv_he n fe n2 fe2 → P (.inl (some (.int 1))) S) (h0 : ¬ sv_he n fe n2 fe2 → P (.inl (some (.int 0))) S) : am_W g d mm_V_hasExtentsOf (0, am_ent [.ref v, .ref w] 3, []) S (P) := by
  obtain ⟨hv, he, hs, hne, hn4⟩ := id hV
  obtain ⟨hv2, he2, hs2, hne2, hn42⟩ := id hV2
  show am_W g d mm_V_hasExtentsOf (0, [some (.ref v), some (.ref w), none], []) S _
  refine am_aloadn d_V_hasExtentsOf_0 rfl ?_
  refine am_get d_V_hasExtentsOf_1 fl_V_26 hv rfl ?_
  refine am_aloadn d_V_hasExtentsOf_4 rfl ?_
  refine am_get d_V_hasExtentsOf_5 fl_V_26 hv2 rfl ?_
  refine am_iceq (tgt := 13) d_V_hasExtentsOf_8 (by decide) (fun hc => ?_) (fun hc => ?_)
  · have hnn : n = n2 := (nI_eq (by omega) (by omega)).mp hc
    refine am_iconst 0 d_V_hasExtentsOf_13 (by decide) ?_
    refine am_istoren (L' := [some (.ref v), some (.ref w), some (.int 0)]) d_V_hasExtentsOf_14 (by decide) rfl rfl ?_
    exact c_hasExt_l hV hV2 h1 h0 hnn n 0 (by omega) (fun j hj => absurd hj (Nat.not_lt_zero j))
  · refine am_iconst 0 d_V_hasExtentsOf_11 (by decide) ?_
    exact am_zret d_V_hasExtentsOf_12 rfl rfl (h0 (fun hx => hc (by rw [hx.1])))
set_option maxHeartbeats 4000000 in
set_option maxRecDepth 100000 in
/-- the loop of goesTo -/
theorem c_goesTo_l {g : am_G} {d : Nat} {S : am_S} {v st : Nat} {sa : Int32} {n : Nat} {it : Int32} {ex sp : Nat} {fe fs : Nat → Int32} (hV : sv_V S.1 v st sa n it ex sp fe fs) {w st2 : Nat} {sa2 : Int32} {n2 : Nat} {it2 : Int32} {ex2 sp2 : Nat} {fe2 fs2 : Nat → Int32} (hV2 : sv_V S.1 w st2 sa2 n2 it2 ex2 sp2 fe2 fs2) {P : am_O → am_S → Prop} (h1 : sv_go n fe n2 fe2 → P (.inl (some (.int 1))) S) (h0 : ¬ sv_go n fe n2 fe2 → P (.inl (some (.int 0))) S) (hnn : n ≤ n2) : ∀ (m k : Nat), k + m = n → (∀ j, j < k → fe j = 1 ∨ fe j = fe2 (j + (n2 - n))) → am_W g d mm_V_goesTo (18, [some (.ref v), some (.ref w), some (.int (nI (n2 - n))), some (.int (nI k))], []) S P := by
  obtain ⟨hv, he, hs, hne, hn4⟩ := id hV
  obtain ⟨hv2, he2, hs2, hne2, hn42⟩ := id hV2
  intro m
  induction m using Nat.strongRecOn with
  | ind m ih =>
    intro k hk
    intro hb
    refine am_iloadn d_V_goesTo_18 rfl ?_
    refine am_aloadn d_V_goesTo_19 rfl ?_
    refine am_get d_V_goesTo_20 fl_V_26 hv rfl ?_
    refine am_icge (tgt := 61) d_V_goesTo_23 (by decide) (fun hc => ?_) (fun hc => ?_)
    · have hk0 : n ≤ k := (nI_leI (by omega) (by omega)).mp hc
      refine am_iconst 1 d_V_goesTo_61 (by decide) ?_
      exact am_zret d_V_goesTo_62 rfl rfl (h1 ⟨hnn, fun j hj => hb j (by omega)⟩)
    · have hlt : k < n := Nat.lt_of_not_le (fun q => hc (nI_le q (by omega)))
      refine am_aloadn d_V_goesTo_26 rfl ?_
      refine am_get d_V_goesTo_27 fl_V_9 hv rfl ?_
      refine am_iloadn d_V_goesTo_30 rfl ?_
      refine am_ialdN (t := 0) (k := k) d_V_goesTo_31 rfl he (by omega) (by omega) ?_
      refine am_iconst 1 d_V_goesTo_32 (by decide) ?_
      refine am_iceq (tgt := 55) d_V_goesTo_33 (by decide) (fun hq => ?_) (fun hq => ?_)
      · refine am_iinc (v := nI (k + 1)) (L' := [some (.ref v), some (.ref w), some (.int (nI (n2 - n))), some (.int (nI (k + 1)))]) d_V_goesTo_55 rfl (nI_1 k) (by decide) rfl rfl ?_
        refine am_goto (tgt := 18) d_V_goesTo_58 (by decide) ?_
        refine ih (m - 1) (by omega) (k + 1) (by omega) (fun j hj => ?_)
        rcases Nat.lt_or_ge j k with h | h
        · exact hb j h
        · obtain rfl : j = k := by omega
          exact Or.inl hq
      · refine am_aloadn d_V_goesTo_36 rfl ?_
        refine am_get d_V_goesTo_37 fl_V_9 hv rfl ?_
        refine am_iloadn d_V_goesTo_40 rfl ?_
        refine am_ialdN (t := 0) (k := k) d_V_goesTo_41 rfl he (by omega) (by omega) ?_
        refine am_aloadn d_V_goesTo_42 rfl ?_
        refine am_get d_V_goesTo_43 fl_V_9 hv2 rfl ?_
        refine am_iloadn d_V_goesTo_46 rfl ?_
        refine am_iloadn d_V_goesTo_47 rfl ?_
        refine am_iadd d_V_goesTo_48 ?_
        refine am_ti (b := nI (k + (n2 - n))) (nI_add k (n2 - n)) ?_
        refine am_ialdN (t := 0) (k := k + (n2 - n)) d_V_goesTo_49 rfl he2 (by omega) (by omega) ?_
        refine am_iceq (tgt := 55) d_V_goesTo_50 (by decide) (fun hz => ?_) (fun hz => ?_)
        · refine am_iinc (v := nI (k + 1)) (L' := [some (.ref v), some (.ref w), some (.int (nI (n2 - n))), some (.int (nI (k + 1)))]) d_V_goesTo_55 rfl (nI_1 k) (by decide) rfl rfl ?_
          refine am_goto (tgt := 18) d_V_goesTo_58 (by decide) ?_
          refine ih (m - 1) (by omega) (k + 1) (by omega) (fun j hj => ?_)
          rcases Nat.lt_or_ge j k with h | h
          · exact hb j h
          · obtain rfl : j = k := by omega
            exact Or.inr hz
        · refine am_iconst 0 d_V_goesTo_53 (by decide) ?_
          exact am_zret d_V_goesTo_54 rfl rfl (h0 (fun hx => (hx.2 k hlt).elim hq hz))
set_option maxHeartbeats 4000000 in
set_option maxRecDepth 100000 in
/-- goesTo -/
theorem c_goesTo {g : am_G} {d : Nat} {S : am_S} {v st : Nat} {sa : Int32} {n : Nat} {it : Int32} {ex sp : Nat} {fe fs : Nat → Int32} (hV : sv_V S.1 v st sa n it ex sp fe fs) {w st2 : Nat} {sa2 : Int32} {n2 : Nat} {it2 : Int32} {ex2 sp2 : Nat} {fe2 fs2 : Nat → Int32} (hV2 : sv_V S.1 w st2 sa2 n2 it2 ex2 sp2 fe2 fs2) {P : am_O → am_S → Prop} (h1 : sv_go n fe n2 fe2 → P (.inl (some (.int 1))) S) (h0 : ¬ sv_go n fe n2 fe2 → P (.inl (some (.int 0))) S) : am_W g d mm_V_goesTo (0, am_ent [.ref v, .ref w] 4, []) S (P) := by
  obtain ⟨hv, he, hs, hne, hn4⟩ := id hV
  obtain ⟨hv2, he2, hs2, hne2, hn42⟩ := id hV2
  show am_W g d mm_V_goesTo (0, [some (.ref v), some (.ref w), none, none], []) S _
  refine am_aloadn d_V_goesTo_0 rfl ?_
  refine am_get d_V_goesTo_1 fl_V_26 hv2 rfl ?_
  refine am_aloadn d_V_goesTo_4 rfl ?_
  refine am_get d_V_goesTo_5 fl_V_26 hv rfl ?_
  refine am_isub d_V_goesTo_8 ?_
  refine am_istoren (L' := [some (.ref v), some (.ref w), some (.int ((nI n2) - (nI n))), none]) d_V_goesTo_9 (by decide) rfl rfl ?_
  refine am_iloadn d_V_goesTo_10 rfl ?_
  refine am_ifge (tgt := 16) d_V_goesTo_11 (by decide) (fun hc => ?_) (fun hc => ?_)
  · have hnn : n ≤ n2 := Nat.le_of_not_lt (fun q => absurd (pk_sneg (by omega) q) (Int32.not_lt.mpr hc))
    have h9 : nI n2 - nI n = nI (n2 - n) := pk_sub hnn
    rw [h9]
    refine am_iconst 0 d_V_goesTo_16 (by decide) ?_
    refine am_istoren (L' := [some (.ref v), some (.ref w), some (.int (nI (n2 - n))), some (.int 0)]) d_V_goesTo_17 (by decide) rfl rfl ?_
    exact c_goesTo_l hV hV2 h1 h0 hnn n 0 (by omega) (fun j hj => absurd hj (Nat.not_lt_zero j))
  · have hnn : n2 < n := Nat.lt_of_not_le (fun q => by rw [pk_sub q] at hc; exact hc (nI_pos' (by omega)))
    refine am_iconst 0 d_V_goesTo_14 (by decide) ?_
    exact am_zret d_V_goesTo_15 rfl rfl (h0 (fun hx => absurd hx.1 (by omega)))
