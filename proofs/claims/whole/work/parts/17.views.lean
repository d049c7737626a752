set_option maxHeartbeats 4000000 in
set_option maxRecDepth 100000 in
/-- the loop of itemsBut -/
theorem c_itemsBut_l {g : am_G} {d : Nat} {S : am_S} {v st : Nat} {sa : Int32} {n : Nat} {it : Int32} {ex sp : Nat} {fe fs : Nat → Int32} (hV : sv_V S.1 v st sa n it ex sp fe fs) (F : Nat → Nat) (hF : ∀ k, k < n → fe k = nI (F k)) (hO : sv_ok F n) (b : Int32) {P : am_O → am_S → Prop} (hP : P (.inl (some (.int (nI (min (sv_prs F b n) 2147483647))))) S) : ∀ (m k : Nat), k + m = n → am_W g d mm_V_itemsBut (5, [some (.ref v), some (.int b), some (.long (lN (min (sv_prs F b k) 2147483647))), none, some (.int (nI k))], []) S P := by
  obtain ⟨hv, he, hs, hne, hn4⟩ := id hV
  intro m
  induction m using Nat.strongRecOn with
  | ind m ih =>
    intro k hk
    refine am_iload d_V_itemsBut_5 rfl ?_
    refine am_aloadn d_V_itemsBut_7 rfl ?_
    refine am_get d_V_itemsBut_8 fl_V_26 hv rfl ?_
    refine am_icge (tgt := 43) d_V_itemsBut_11 (by decide) (fun hc => ?_) (fun hc => ?_)
    · have hk0 : n ≤ k := (nI_leI (by omega) (by omega)).mp hc
      obtain rfl : k = n := by omega
      refine am_lloadn d_V_itemsBut_43 rfl ?_
      refine am_l2i d_V_itemsBut_44 ?_
      refine am_ti (b := nI (min (sv_prs F b k) 2147483647)) (lN_i _) ?_
      exact am_iret d_V_itemsBut_45 rfl hP
    · have hlt : k < n := Nat.lt_of_not_le (fun q => hc (nI_le q (by omega)))
      obtain ⟨m, rfl⟩ : ∃ q, m = q + 1 := ⟨m - 1, by omega⟩
      refine am_iload d_V_itemsBut_14 rfl ?_
      refine am_iloadn d_V_itemsBut_16 rfl ?_
      refine am_iceq (tgt := 37) d_V_itemsBut_17 (by decide) (fun hq => ?_) (fun hq => ?_)
      · have h9 : sv_prs F b (k + 1) = sv_prs F b k := by show (if nI k = b then _ else _) = _; rw [if_pos hq]
        refine am_iinc (v := nI (k + 1)) (L' := [some (.ref v), some (.int b), some (.long (lN (min (sv_prs F b k) 2147483647))), none, some (.int (nI (k + 1)))]) d_V_itemsBut_37 rfl (nI_1 k) (by decide) rfl rfl ?_
        refine am_goto (tgt := 5) d_V_itemsBut_40 (by decide) ?_
        rw [← h9]
        exact ih m (by omega) (k + 1) (by omega)
      · have h9 : sv_prs F b (k + 1) = sv_prs F b k * F k := by show (if nI k = b then _ else _) = _; rw [if_neg hq]
        refine am_lloadn d_V_itemsBut_20 rfl ?_
        refine am_aloadn d_V_itemsBut_21 rfl ?_
        refine am_get d_V_itemsBut_22 fl_V_9 hv rfl ?_
        refine am_iload d_V_itemsBut_25 rfl ?_
        refine am_ialdN (t := 0) (k := k) d_V_itemsBut_27 rfl he (by omega) (by omega) ?_
        refine am_ti (b := nI (F k)) (hF k hlt) ?_
        refine am_i2l d_V_itemsBut_28 ?_
        refine am_lmul d_V_itemsBut_29 ?_
        refine am_ldc2 2147483647 d_V_itemsBut_30 (am_in 222 (by decide +kernel) rfl) ?_
        refine am_mmin_long d_V_itemsBut_33 (am_in 223 (by decide +kernel) rfl) (Nat.le_of_ble_eq_true rfl) ?_
        refine am_tl (b := lN (min (sv_prs F b (k + 1)) 2147483647)) (by rw [h9]; exact sv_min_step (hO k hlt)) ?_
        refine am_lstoren (L' := [some (.ref v), some (.int b), some (.long (lN (min (sv_prs F b (k + 1)) 2147483647))), none, some (.int (nI k))]) d_V_itemsBut_36 (by decide) rfl rfl ?_
        refine am_iinc (v := nI (k + 1)) (L' := [some (.ref v), some (.int b), some (.long (lN (min (sv_prs F b (k + 1)) 2147483647))), none, some (.int (nI (k + 1)))]) d_V_itemsBut_37 rfl (nI_1 k) (by decide) rfl rfl ?_
        refine am_goto (tgt := 5) d_V_itemsBut_40 (by decide) ?_
        exact ih m (by omega) (k + 1) (by omega)
set_option maxHeartbeats 4000000 in
set_option maxRecDepth 100000 in
/-- itemsBut: the product, at most the greatest int -/
theorem c_itemsBut {g : am_G} {d : Nat} {S : am_S} {v st : Nat} {sa : Int32} {n : Nat} {it : Int32} {ex sp : Nat} {fe fs : Nat → Int32} (hV : sv_V S.1 v st sa n it ex sp fe fs) (F : Nat → Nat) (hF : ∀ k, k < n → fe k = nI (F k)) (hO : sv_ok F n) (b : Int32) {P : am_O → am_S → Prop} (hP : P (.inl (some (.int (nI (min (sv_prs F b n) 2147483647))))) S) : am_W g d mm_V_itemsBut (0, am_ent [.ref v, .int b] 5, []) S (P) := by
  obtain ⟨hv, he, hs, hne, hn4⟩ := id hV
  show am_W g d mm_V_itemsBut (0, [some (.ref v), some (.int b), none, none, none], []) S _
  refine am_lconst 1 d_V_itemsBut_0 (by decide) ?_
  refine am_lstoren (L' := [some (.ref v), some (.int b), some (.long 1), none, none]) d_V_itemsBut_1 (by decide) rfl rfl ?_
  refine am_iconst 0 d_V_itemsBut_2 (by decide) ?_
  refine am_istore (L' := [some (.ref v), some (.int b), some (.long 1), none, some (.int 0)]) d_V_itemsBut_3 (by decide) rfl rfl ?_
  exact c_itemsBut_l hV F hF hO b hP n 0 (by omega)
