/-- what a lane keeps -/
def sv_low (ln : Int32) (x : Int64) : Int64 := if ln = 0 then x.toInt32.toInt8.toInt32.toInt64 else if ln = 1 then x.toInt32.toInt16.toInt32.toInt64 else if ln = 2 then x.toInt32.toInt64 else x
/-- the product of the last c extents, as an int -/
def sv_bk (fe : Nat → Int32) (n : Nat) : Nat → Int32
  | 0 => 1
  | c + 1 => sv_bk fe n c * fe (n - 1 - c)
theorem sv_bk_s (fe : Nat → Int32) {n m : Nat} (h : m < n) : sv_bk fe n (n - (m + 1)) * fe m = sv_bk fe n (n - m) := by
  rw [show n - m = (n - (m + 1)) + 1 by omega]
  show _ = sv_bk fe n (n - (m + 1)) * fe (n - 1 - (n - (m + 1)))
  rw [show n - 1 - (n - (m + 1)) = m by omega]
/-- how many axes ahead of k are not b -/
def sv_cnt (b : Int32) : Nat → Nat
  | 0 => 0
  | k + 1 => if nI k = b then sv_cnt b k else sv_cnt b k + 1
theorem sv_cnt_le (b : Int32) : ∀ k, sv_cnt b k ≤ k := by
  intro k
  induction k with
  | zero => exact Nat.le_refl 0
  | succ k ih => simp only [sv_cnt]; split <;> omega
theorem sv_cnt_mono (b : Int32) : ∀ {i k : Nat}, i ≤ k → sv_cnt b i ≤ sv_cnt b k := by
  intro i k h
  induction k with
  | zero => obtain rfl : i = 0 := by omega
            exact Nat.le_refl _
  | succ k ih =>
    rcases Nat.lt_or_ge i (k + 1) with q | q
    · have := ih (by omega)
      simp only [sv_cnt]; split <;> omega
    · obtain rfl : i = k + 1 := by omega
      exact Nat.le_refl _
theorem sv_cnt_lt (b : Int32) {i k : Nat} (hb : ¬ nI i = b) (h : i < k) : sv_cnt b i < sv_cnt b k := by
  have h1 : sv_cnt b (i + 1) = sv_cnt b i + 1 := by show (if nI i = b then _ else _) = _; rw [if_neg hb]
  have h2 : sv_cnt b (i + 1) ≤ sv_cnt b k := sv_cnt_mono b h
  omega
set_option maxHeartbeats 4000000 in
set_option maxRecDepth 100000 in
/-- lowestBits -/
theorem c_low {g : am_G} {d : Nat} {S : am_S} {s rw : Nat} {num ln vo : Int32} (hs : S.1 s = some (.inr (0, [.int num, .int ln, .ref rw, .int vo]))) (x : Int64) {P : am_O → am_S → Prop} (hP : P (.inl (some (.long (sv_low ln x)))) S) : am_W g d mm_S_lowestBits (0, am_ent [.ref s, .long x] 3, []) S (P) := by
  show am_W g d mm_S_lowestBits (0, [some (.ref s), some (.long x), none], []) S _
  refine am_aloadn d_S_lowestBits_0 rfl ?_
  refine am_get d_S_lowestBits_1 fl_S_15 hs rfl ?_
  by_cases hk0 : ln = 0
  · rw [hk0]
    refine am_tabIn (off := 28) (tgt := 32) d_S_lowestBits_4 (by decide) (by decide) (by decide) (by decide) ?_
    refine am_lloadn d_S_lowestBits_32 rfl ?_
    refine am_l2i d_S_lowestBits_33 ?_
    refine am_i2b d_S_lowestBits_34 ?_
    refine am_i2l d_S_lowestBits_35 ?_
    rw [hk0] at hP
    exact am_lret d_S_lowestBits_36 rfl (by simpa [sv_low] using hP)
  · by_cases hk1 : ln = 1
    · rw [hk1]
      refine am_tabIn (off := 33) (tgt := 37) d_S_lowestBits_4 (by decide) (by decide) (by decide) (by decide) ?_
      refine am_lloadn d_S_lowestBits_37 rfl ?_
      refine am_l2i d_S_lowestBits_38 ?_
      refine am_i2s d_S_lowestBits_39 ?_
      refine am_i2l d_S_lowestBits_40 ?_
      rw [hk1] at hP
      exact am_lret d_S_lowestBits_41 rfl (by simpa [sv_low] using hP)
    · by_cases hk2 : ln = 2
      · rw [hk2]
        refine am_tabIn (off := 38) (tgt := 42) d_S_lowestBits_4 (by decide) (by decide) (by decide) (by decide) ?_
        refine am_lloadn d_S_lowestBits_42 rfl ?_
        refine am_l2i d_S_lowestBits_43 ?_
        refine am_i2l d_S_lowestBits_44 ?_
        rw [hk2] at hP
        exact am_lret d_S_lowestBits_45 rfl (by simpa [sv_low] using hP)
      · refine am_tabOut (tgt := 46) d_S_lowestBits_4 (by have w0 := lv_neT hk0 (a := 0) (by decide); have w1 := lv_neT hk1 (a := 1) (by decide); have w2 := lv_neT hk2 (a := 2) (by decide); omega) (by decide) ?_
        refine am_lloadn d_S_lowestBits_46 rfl ?_
        exact am_lret d_S_lowestBits_47 rfl (by simpa [sv_low, hk0, hk1, hk2] using hP)
set_option maxHeartbeats 4000000 in
set_option maxRecDepth 100000 in
/-- Store(number, lane, n) -/
theorem c_Sinit {g : am_G} {d : Nat} {S : am_S} {s N : Nat} {num ln : Int32} (hs : S.1 s = some (.inr (0, [.int 0, .int 0, .null, .int 0]))) (hsl : s < S.2.1) (hN : N ≤ 100000) (hr1 : S.2.1 + 1 ≤ g.2.2.2.1) (hr2 : S.2.2 + N ≤ g.2.2.2.2.1) {P : am_O → am_S → Prop} (hP : ∀ S1 : am_S, S1.1 s = some (.inr (0, [.int num, .int ln, .ref S.2.1, .int 0])) → S1.1 S.2.1 = some (.inl (1, N, .inr (.inl (fun _ => 0)))) → S1.2 = (S.2.1 + 1, S.2.2 + N) → (∀ q : Nat, q ≠ s → q < S.2.1 → S1.1 q = S.1 q) → P (.inl none) S1) : am_W g d mm_S_init (0, am_ent [.ref s, .int num, .int ln, .int (nI N)] 4, []) S (P) := by
  have hfr0 : ∀ q : Nat, q ≠ s → q < S.2.1 → S.1 q = S.1 q := fun _ _ _ => rfl
  show am_W g d mm_S_init (0, [some (.ref s), some (.int num), some (.int ln), some (.int (nI N))], []) S _
  refine am_aloadn d_S_init_0 rfl ?_
  refine am_obj d_S_init_1 (am_in 154 (by decide +kernel) rfl) (am_in 18 (by decide +kernel) rfl) (am_in 19 (by decide +kernel) rfl) (Nat.le_of_ble_eq_true rfl) ?_
  refine am_aloadn d_S_init_4 rfl ?_
  refine am_iloadn d_S_init_5 rfl ?_
  refine am_putF d_S_init_6 fp_S_9 rfl hs rfl rfl (Nat.le_of_ble_eq_true rfl) ?_
  obtain ⟨S_1, eS_1⟩ : ∃ z : am_S, z = (am_up S.1 s (.inr (0, [.int num, .int 0, .null, .int 0])), S.2) := ⟨_, rfl⟩
  change am_W _ _ _ _ (am_up S.1 s (.inr (0, [.int num, .int 0, .null, .int 0])), S.2) _
  rw [← eS_1]
  have hf_2 : ∀ q : Nat, q ≠ s → q < S.2.1 → S_1.1 q = S.1 q := by rw [eS_1]; exact fun q h1 h2 => (am_up_n (by omega)).trans (hfr0 q h1 h2)
  have h_3 : S_1.1 s = some (.inr (0, [.int num, .int 0, .null, .int 0])) := by rw [eS_1]; exact am_up_s
  have hnS_1 : S_1.2.1 = S.2.1 := by rw [eS_1]
  have hzS_1 : S_1.2.2 = S.2.2 := by rw [eS_1]
  refine am_aloadn d_S_init_9 rfl ?_
  refine am_iloadn d_S_init_10 rfl ?_
  refine am_putF d_S_init_11 fp_S_15 rfl h_3 rfl rfl (Nat.le_of_ble_eq_true rfl) ?_
  obtain ⟨S_4, eS_4⟩ : ∃ z : am_S, z = (am_up S_1.1 s (.inr (0, [.int num, .int ln, .null, .int 0])), S_1.2) := ⟨_, rfl⟩
  change am_W _ _ _ _ (am_up S_1.1 s (.inr (0, [.int num, .int ln, .null, .int 0])), S_1.2) _
  rw [← eS_4]
  have hf_5 : ∀ q : Nat, q ≠ s → q < S.2.1 → S_4.1 q = S.1 q := by rw [eS_4]; exact fun q h1 h2 => (am_up_n (by omega)).trans (hf_2 q h1 h2)
  have h_6 : S_4.1 s = some (.inr (0, [.int num, .int ln, .null, .int 0])) := by rw [eS_4]; exact am_up_s
  have hnS_4 : S_4.2.1 = S_1.2.1 := by rw [eS_4]
  have hzS_4 : S_4.2.2 = S_1.2.2 := by rw [eS_4]
  refine am_aloadn d_S_init_14 rfl ?_
  refine am_iloadn d_S_init_15 rfl ?_
  obtain ⟨a_7, ea_7⟩ : ∃ z : Nat, z = S_4.2.1 := ⟨_, rfl⟩
  refine am_newL (N := N) d_S_init_16 (by omega) (by omega) (by omega) ?_
  change am_W _ _ _ (_, _, .ref S_4.2.1 :: _) (am_up S_4.1 S_4.2.1 (.inl (1, N, .inr (.inl (fun _ => 0)))), S_4.2.1 + 1, S_4.2.2 + N) _
  rw [← ea_7]
  obtain ⟨S_8, eS_8⟩ : ∃ z : am_S, z = (am_up S_4.1 a_7 (.inl (1, N, .inr (.inl (fun _ => 0)))), a_7 + 1, S_4.2.2 + N) := ⟨_, rfl⟩
  rw [← eS_8]
  have h_9 : S_8.1 s = some (.inr (0, [.int num, .int ln, .null, .int 0])) := by rw [eS_8]; exact (am_up_n (by omega)).trans h_6
  have hf_10 : ∀ q : Nat, q ≠ s → q < S.2.1 → S_8.1 q = S.1 q := by rw [eS_8]; exact fun q h1 h2 => (am_up_n (by omega)).trans (hf_5 q h1 h2)
  have h_11 : S_8.1 a_7 = some (.inl (1, N, .inr (.inl (fun _ => 0)))) := by rw [eS_8]; exact am_up_s
  have hna_7 : S_8.2.1 = a_7 + 1 := by rw [eS_8]
  have hza_7 : S_8.2.2 = S_4.2.2 + N := by rw [eS_8]
  refine am_putF d_S_init_18 fp_S_18 rfl h_9 rfl rfl (Nat.le_of_ble_eq_true rfl) ?_
  obtain ⟨S_12, eS_12⟩ : ∃ z : am_S, z = (am_up S_8.1 s (.inr (0, [.int num, .int ln, .ref a_7, .int 0])), S_8.2) := ⟨_, rfl⟩
  change am_W _ _ _ _ (am_up S_8.1 s (.inr (0, [.int num, .int ln, .ref a_7, .int 0])), S_8.2) _
  rw [← eS_12]
  have h_13 : S_12.1 a_7 = some (.inl (1, N, .inr (.inl (fun _ => 0)))) := by rw [eS_12]; exact (am_up_n (by omega)).trans h_11
  have hf_14 : ∀ q : Nat, q ≠ s → q < S.2.1 → S_12.1 q = S.1 q := by rw [eS_12]; exact fun q h1 h2 => (am_up_n (by omega)).trans (hf_10 q h1 h2)
  have h_15 : S_12.1 s = some (.inr (0, [.int num, .int ln, .ref a_7, .int 0])) := by rw [eS_12]; exact am_up_s
  have hnS_12 : S_12.2.1 = S_8.2.1 := by rw [eS_12]
  have hzS_12 : S_12.2.2 = S_8.2.2 := by rw [eS_12]
  refine am_aloadn d_S_init_21 rfl ?_
  refine am_iconst 0 d_S_init_22 (by decide) ?_
  refine am_put d_S_init_23 fp_S_22 h_15 rfl rfl (Nat.le_of_ble_eq_true rfl) ?_
  obtain ⟨S_16, eS_16⟩ : ∃ z : am_S, z = (am_up S_12.1 s (.inr (0, [.int num, .int ln, .ref a_7, .int 0])), S_12.2) := ⟨_, rfl⟩
  change am_W _ _ _ _ (am_up S_12.1 s (.inr (0, [.int num, .int ln, .ref a_7, .int 0])), S_12.2) _
  rw [← eS_16]
  have h_17 : S_16.1 a_7 = some (.inl (1, N, .inr (.inl (fun _ => 0)))) := by rw [eS_16]; exact (am_up_n (by omega)).trans h_13
  have hf_18 : ∀ q : Nat, q ≠ s → q < S.2.1 → S_16.1 q = S.1 q := by rw [eS_16]; exact fun q h1 h2 => (am_up_n (by omega)).trans (hf_14 q h1 h2)
  have h_19 : S_16.1 s = some (.inr (0, [.int num, .int ln, .ref a_7, .int 0])) := by rw [eS_16]; exact am_up_s
  have hnS_16 : S_16.2.1 = S_12.2.1 := by rw [eS_16]
  have hzS_16 : S_16.2.2 = S_12.2.2 := by rw [eS_16]
  have hrw : a_7 = S.2.1 := by omega
  have hfin : S_16.2 = (S.2.1 + 1, S.2.2 + N) := Prod.ext (by show S_16.2.1 = S.2.1 + 1; omega) (by show S_16.2.2 = S.2.2 + N; omega)
  refine am_vret d_S_init_26 rfl (hP S_16 ?_ ?_ hfin hf_18)
  · rw [← hrw]; exact h_19
  · rw [← hrw]; exact h_17
set_option maxHeartbeats 4000000 in
set_option maxRecDepth 100000 in
/-- addUnlessNone -/
theorem c_addUnless {g : am_G} {d : Nat} {S : am_S} {v st : Nat} {sa : Int32} {n : Nat} {it : Int32} {ex sp : Nat} {fe fs : Nat → Int32} (hV : sv_V S.1 v st sa n it ex sp fe fs) (xe : Int32) (hn3 : ¬ xe = -1 → n < 4) {P : am_O → am_S → Prop} (h0 : xe = -1 → P (.inl none) S) (hP : ¬ xe = -1 → ∀ (S1 : am_S) (fe1 fs1 : Nat → Int32), sv_V S1.1 v st sa (n + 1) it ex sp fe1 fs1 → sv_fr S S1 v ex sp → (∀ i, i < n + 1 → fe1 i = sv_ins fe n xe i ∧ fs1 i = sv_ins fs n 0 i) → P (.inl none) S1) : am_W g (d + 1) mm_V_addUnlessNone (0, am_ent [.ref v, .int xe] 2, []) S (P) := by
  obtain ⟨hv, he, hs, hne, hn4⟩ := id hV
  show am_W g (d + 1) mm_V_addUnlessNone (0, [some (.ref v), some (.int xe)], []) S _
  refine am_iloadn d_V_addUnlessNone_0 rfl ?_
  refine am_iconst (-1) d_V_addUnlessNone_1 (by decide) ?_
  refine am_iceq (tgt := 15) d_V_addUnlessNone_2 (by decide) (fun hc => ?_) (fun hc => ?_)
  · exact am_vret d_V_addUnlessNone_15 rfl (h0 hc)
  · refine am_aloadn d_V_addUnlessNone_5 rfl ?_
    refine am_aloadn d_V_addUnlessNone_6 rfl ?_
    refine am_get d_V_addUnlessNone_7 fl_V_26 hv rfl ?_
    refine am_iloadn d_V_addUnlessNone_10 rfl ?_
    refine am_iconst 0 d_V_addUnlessNone_11 (by decide) ?_
    refine am_callV [.int (nI n), .int xe, .int 0] [] d_V_addUnlessNone_12 cV_V_35 hv rfl rfl (Nat.le_of_ble_eq_true rfl) (Nat.le_of_ble_eq_true rfl) (c_insert hV (j := n) xe 0 (hn3 hc) (Nat.le_refl n) (P := fun o S1 => o = .inl none ∧ P (.inl none) S1) (fun S1 fe1 fs1 q1 q2 q3 => ⟨rfl, hP hc S1 fe1 fs1 q1 q2 q3⟩)) ?_ ?_
    · intro r1 S1 hr1
      obtain ⟨hr2, hr3⟩ := hr1
      cases hr2
      exact am_vret d_V_addUnlessNone_15 rfl hr3
    · intro r1 S1 hr1
      cases hr1.1
set_option maxHeartbeats 4000000 in
set_option maxRecDepth 100000 in
/-- the loop of lieInOrder -/
theorem c_lie_l {g : am_G} {d : Nat} {S : am_S} {v st : Nat} {sa : Int32} {n : Nat} {it : Int32} {ex sp : Nat} {fe fs : Nat → Int32} {P : am_O → am_S → Prop} (hP : ∀ (S1 : am_S) (fs1 : Nat → Int32), sv_V S1.1 v st sa n it ex sp fe fs1 → sv_fr S S1 v ex sp → (∀ i, i < n → fs1 i = sv_bk fe n (n - 1 - i)) → P (.inl none) S1) : ∀ (m : Nat), m ≤ n → ∀ (S0 : am_S) (Fs : Nat → Int32), sv_V S0.1 v st sa n it ex sp fe Fs → sv_fr S S0 v ex sp → (∀ i, i < n → Fs i = if m ≤ i then sv_bk fe n (n - 1 - i) else fs i) → am_W g d mm_V_lieInOrder (9, [some (.ref v), some (.int (sv_bk fe n (n - m))), some (.int (sv_dn m))], []) S0 P := by
  intro m
  induction m with
  | zero =>
    intro hm S0 Fs hV hfr hI
    obtain ⟨hv, he, hs, hne, hn4⟩ := id hV
    refine am_iloadn d_V_lieInOrder_9 rfl ?_
    refine am_iflt (tgt := 35) d_V_lieInOrder_10 (by decide) (fun hc => ?_) (fun hc => ?_)
    · exact am_vret d_V_lieInOrder_35 rfl (hP S0 Fs hV hfr (fun i hi => (hI i hi).trans (if_pos (Nat.zero_le i))))
    · exact absurd sv_dn_0 hc
  | succ m ih =>
    intro hm S0 Fs hV hfr hI
    obtain ⟨hv, he, hs, hne, hn4⟩ := id hV
    refine am_iloadn d_V_lieInOrder_9 rfl ?_
    refine am_iflt (tgt := 35) d_V_lieInOrder_10 (by decide) (fun hc => ?_) (fun hc => ?_)
    · exact absurd hc (sv_dn_n (by omega))
    · rw [sv_dn_s m]
      refine am_aloadn d_V_lieInOrder_13 rfl ?_
      refine am_get d_V_lieInOrder_14 fl_V_15 hv rfl ?_
      refine am_iloadn d_V_lieInOrder_17 rfl ?_
      refine am_iloadn d_V_lieInOrder_18 rfl ?_
      refine am_iastN (t := 0) d_V_lieInOrder_19 rfl hs (by omega) (by omega) ?_
      obtain ⟨S_1, eS_1⟩ : ∃ z : am_S, z = (am_up S0.1 sp (.inl (0, 4, .inl (upd Fs m (sv_bk fe n (n - (m + 1)))))), S0.2) := ⟨_, rfl⟩
      change am_W _ _ _ _ (am_up S0.1 sp (.inl (0, 4, .inl (upd Fs m (sv_bk fe n (n - (m + 1)))))), S0.2) _
      rw [← eS_1]
      have h_2 : S_1.1 v = some (.inr (1, [.ref st, .int sa, .int (nI n), .int it, .ref ex, .ref sp])) := by rw [eS_1]; exact (am_up_n hV.ne.2).trans hv
      have h_3 : S_1.1 ex = some (.inl (0, 4, .inl fe)) := by rw [eS_1]; exact (am_up_n hne).trans he
      have hf_4 : sv_fr S S_1 v ex sp := by rw [eS_1]; exact hfr.u3
      have h_5 : S_1.1 sp = some (.inl (0, 4, .inl (upd Fs m (sv_bk fe n (n - (m + 1)))))) := by rw [eS_1]; exact am_up_s
      have hnS_1 : S_1.2.1 = S0.2.1 := by rw [eS_1]
      have hzS_1 : S_1.2.2 = S0.2.2 := by rw [eS_1]
      refine am_iloadn d_V_lieInOrder_20 rfl ?_
      refine am_aloadn d_V_lieInOrder_21 rfl ?_
      refine am_get d_V_lieInOrder_22 fl_V_9 h_2 rfl ?_
      refine am_iloadn d_V_lieInOrder_25 rfl ?_
      refine am_ialdN (t := 0) (k := m) d_V_lieInOrder_26 rfl h_3 (by omega) (by omega) ?_
      refine am_imul d_V_lieInOrder_27 ?_
      refine am_ti (b := sv_bk fe n (n - m)) (sv_bk_s fe (by omega)) ?_
      refine am_istoren (L' := [some (.ref v), some (.int (sv_bk fe n (n - m))), some (.int (nI m))]) d_V_lieInOrder_28 (by decide) rfl rfl ?_
      refine am_iinc (v := sv_dn m) (L' := [some (.ref v), some (.int (sv_bk fe n (n - m))), some (.int (sv_dn m))]) d_V_lieInOrder_29 rfl (sv_dn_d m) (by decide) rfl rfl ?_
      refine am_goto (tgt := 9) d_V_lieInOrder_32 (by decide) ?_
      refine ih (by omega) _ _ ⟨h_2, h_3, h_5, hne, hn4⟩ hf_4 (fun i hi => ?_)
      by_cases him : i = m
      · subst him
        rw [if_pos (Nat.le_refl i), show n - 1 - i = n - (i + 1) by omega]; exact pk_us
      · rw [show (upd Fs m (sv_bk fe n (n - (m + 1)))) i = Fs i from pk_un him, hI i hi]
        exact sv_ifc (by omega)
set_option maxHeartbeats 4000000 in
set_option maxRecDepth 100000 in
/-- lieInOrder -/
theorem c_lie {g : am_G} {d : Nat} {S : am_S} {v st : Nat} {sa : Int32} {n : Nat} {it : Int32} {ex sp : Nat} {fe fs : Nat → Int32} (hV : sv_V S.1 v st sa n it ex sp fe fs) {P : am_O → am_S → Prop} (hP : ∀ (S1 : am_S) (fs1 : Nat → Int32), sv_V S1.1 v st sa n it ex sp fe fs1 → sv_fr S S1 v ex sp → (∀ i, i < n → fs1 i = sv_bk fe n (n - 1 - i)) → P (.inl none) S1) : am_W g d mm_V_lieInOrder (0, am_ent [.ref v] 3, []) S (P) := by
  obtain ⟨hv, he, hs, hne, hn4⟩ := id hV
  show am_W g d mm_V_lieInOrder (0, [some (.ref v), none, none], []) S _
  refine am_iconst 1 d_V_lieInOrder_0 (by decide) ?_
  refine am_istoren (L' := [some (.ref v), some (.int 1), none]) d_V_lieInOrder_1 (by decide) rfl rfl ?_
  refine am_aloadn d_V_lieInOrder_2 rfl ?_
  refine am_get d_V_lieInOrder_3 fl_V_26 hv rfl ?_
  refine am_iconst 1 d_V_lieInOrder_6 (by decide) ?_
  refine am_isub d_V_lieInOrder_7 ?_
  refine am_ti (b := sv_dn n) rfl ?_
  refine am_istoren (L' := [some (.ref v), some (.int 1), some (.int (sv_dn n))]) d_V_lieInOrder_8 (by decide) rfl rfl ?_
  have h9 : (1 : Int32) = sv_bk fe n (n - n) := by rw [Nat.sub_self]; rfl
  rw [h9]
  exact c_lie_l hP n (Nat.le_refl n) S fs hV sv_fr.rf (fun i hi => by rw [if_neg (by omega)])
set_option maxHeartbeats 4000000 in
set_option maxRecDepth 100000 in
/-- the loop of addExtentsBut -/
theorem c_addExt_l {g : am_G} {d : Nat} {S : am_S} {v st : Nat} {sa : Int32} {it : Int32} {ex sp : Nat} {w st2 : Nat} {sa2 : Int32} {n2 : Nat} {it2 : Int32} {ex2 sp2 : Nat} {fe2 fs2 : Nat → Int32} (hV2 : sv_V S.1 w st2 sa2 n2 it2 ex2 sp2 fe2 fs2) (hd1 : w ≠ v ∧ w ≠ ex ∧ w ≠ sp) (hd2 : ex2 ≠ v ∧ ex2 ≠ ex ∧ ex2 ≠ sp) (b : Int32) {P : am_O → am_S → Prop} (hP : ∀ (S1 : am_S) (fe1 fs1 : Nat → Int32), sv_V S1.1 v st sa (sv_cnt b n2) it ex sp fe1 fs1 → sv_fr S S1 v ex sp → (∀ i, i < n2 → ¬ nI i = b → fe1 (sv_cnt b i) = fe2 i ∧ fs1 (sv_cnt b i) = 0) → P (.inl none) S1) : ∀ (m k : Nat), k + m = n2 → ∀ (S0 : am_S) (Fe Fs : Nat → Int32), sv_V S0.1 v st sa (sv_cnt b k) it ex sp Fe Fs → sv_fr S S0 v ex sp → (∀ i, i < k → ¬ nI i = b → Fe (sv_cnt b i) = fe2 i ∧ Fs (sv_cnt b i) = 0) → am_W g (d + 1) mm_V_addExtentsBut (2, [some (.ref v), some (.ref w), some (.int b), some (.int (nI k))], []) S0 P := by
  obtain ⟨hv20, he20, hs20, hne2, hn42⟩ := id hV2
  intro m
  induction m using Nat.strongRecOn with
  | ind m ih =>
    intro k hk S0 Fe Fs hV hfr hI
    obtain ⟨hv, he, hs, hne, hn4⟩ := id hV
    have hv2 := (hfr.2 w hd1.1 hd1.2.1 hd1.2.2).trans hv20
    have he2 := (hfr.2 ex2 hd2.1 hd2.2.1 hd2.2.2).trans he20
    refine am_iloadn d_V_addExtentsBut_2 rfl ?_
    refine am_aloadn d_V_addExtentsBut_3 rfl ?_
    refine am_get d_V_addExtentsBut_4 fl_V_26 hv2 rfl ?_
    refine am_icge (tgt := 36) d_V_addExtentsBut_7 (by decide) (fun hc => ?_) (fun hc => ?_)
    · have hk0 : n2 ≤ k := (nI_leI (by omega) (by omega)).mp hc
      obtain rfl : n2 = k := by omega
      exact am_vret d_V_addExtentsBut_36 rfl (hP S0 Fe Fs hV hfr hI)
    · have hlt : k < n2 := Nat.lt_of_not_le (fun q => hc (nI_le q (by omega)))
      refine am_iloadn d_V_addExtentsBut_10 rfl ?_
      refine am_iloadn d_V_addExtentsBut_11 rfl ?_
      refine am_iceq (tgt := 30) d_V_addExtentsBut_12 (by decide) (fun hq => ?_) (fun hq => ?_)
      · have h9 : sv_cnt b (k + 1) = sv_cnt b k := by show (if nI k = b then _ else _) = _; rw [if_pos hq]
        refine am_iinc (v := nI (k + 1)) (L' := [some (.ref v), some (.ref w), some (.int b), some (.int (nI (k + 1)))]) d_V_addExtentsBut_30 rfl (nI_1 k) (by decide) rfl rfl ?_
        refine am_goto (tgt := 2) d_V_addExtentsBut_33 (by decide) ?_
        refine ih (m - 1) (by omega) (k + 1) (by omega) S0 Fe Fs (by rw [h9]; exact hV) hfr (fun i hi hib => ?_)
        rcases Nat.lt_or_ge i k with h | h
        · exact hI i h hib
        · obtain rfl : i = k := by omega
          exact absurd hq hib
      · have h9 : sv_cnt b (k + 1) = sv_cnt b k + 1 := by show (if nI k = b then _ else _) = _; rw [if_neg hq]
        have hck : sv_cnt b k ≤ k := sv_cnt_le b k
        refine am_aloadn d_V_addExtentsBut_15 rfl ?_
        refine am_aloadn d_V_addExtentsBut_16 rfl ?_
        refine am_get d_V_addExtentsBut_17 fl_V_26 hv rfl ?_
        refine am_aloadn d_V_addExtentsBut_20 rfl ?_
        refine am_get d_V_addExtentsBut_21 fl_V_9 hv2 rfl ?_
        refine am_iloadn d_V_addExtentsBut_24 rfl ?_
        refine am_ialdN (t := 0) (k := k) d_V_addExtentsBut_25 rfl he2 (by omega) (by omega) ?_
        refine am_iconst 0 d_V_addExtentsBut_26 (by decide) ?_
        refine am_callV [.int (nI (sv_cnt b k)), .int (fe2 k), .int 0] [] d_V_addExtentsBut_27 cV_V_35 hv rfl rfl (Nat.le_of_ble_eq_true rfl) (Nat.le_of_ble_eq_true rfl) (c_insert hV (j := sv_cnt b k) (fe2 k) 0 (by omega) (Nat.le_refl _) (P := fun o S1 => o = .inl none ∧ ∃ fe1 fs1 : Nat → Int32, sv_V S1.1 v st sa (sv_cnt b k + 1) it ex sp fe1 fs1 ∧ sv_fr S0 S1 v ex sp ∧ ∀ i, i < sv_cnt b k + 1 → fe1 i = sv_ins Fe (sv_cnt b k) (fe2 k) i ∧ fs1 i = sv_ins Fs (sv_cnt b k) 0 i) (fun S1 fe1 fs1 q1 q2 q3 => ⟨rfl, fe1, fs1, q1, q2, q3⟩)) ?_ ?_
        · intro r1 S1 hr1
          obtain ⟨hr2, fe1, fs1, hW1, hf1, hI1⟩ := hr1
          cases hr2
          show am_W g (d + 1) mm_V_addExtentsBut (30, [some (.ref v), some (.ref w), some (.int b), some (.int (nI k))], []) S1 _
          refine am_iinc (v := nI (k + 1)) (L' := [some (.ref v), some (.ref w), some (.int b), some (.int (nI (k + 1)))]) d_V_addExtentsBut_30 rfl (nI_1 k) (by decide) rfl rfl ?_
          refine am_goto (tgt := 2) d_V_addExtentsBut_33 (by decide) ?_
          refine ih (m - 1) (by omega) (k + 1) (by omega) S1 fe1 fs1 (by rw [h9]; exact hW1) (hfr.tr hf1) (fun i hi hib => ?_)
          have hil : sv_cnt b i < sv_cnt b k + 1 := Nat.lt_succ_of_le (sv_cnt_mono b (by omega))
          obtain ⟨h5, h6⟩ := hI1 _ hil
          rw [h5, h6]
          simp only [sv_ins]
          rcases Nat.lt_or_ge i k with h | h
          · have h10 : sv_cnt b i < sv_cnt b k := sv_cnt_lt b hib h
            rw [if_pos h10, if_pos h10]; exact hI i h hib
          · obtain rfl : i = k := by omega
            simp
        · intro r1 S1 hr1
          cases hr1.1
set_option maxHeartbeats 4000000 in
set_option maxRecDepth 100000 in
/-- addExtentsBut -/
theorem c_addExt {g : am_G} {d : Nat} {S : am_S} {v st : Nat} {sa : Int32} {it : Int32} {ex sp : Nat} {fe fs : Nat → Int32} (hV : sv_V S.1 v st sa 0 it ex sp fe fs) {w st2 : Nat} {sa2 : Int32} {n2 : Nat} {it2 : Int32} {ex2 sp2 : Nat} {fe2 fs2 : Nat → Int32} (hV2 : sv_V S.1 w st2 sa2 n2 it2 ex2 sp2 fe2 fs2) (hd1 : w ≠ v ∧ w ≠ ex ∧ w ≠ sp) (hd2 : ex2 ≠ v ∧ ex2 ≠ ex ∧ ex2 ≠ sp) (b : Int32) {P : am_O → am_S → Prop} (hP : ∀ (S1 : am_S) (fe1 fs1 : Nat → Int32), sv_V S1.1 v st sa (sv_cnt b n2) it ex sp fe1 fs1 → sv_fr S S1 v ex sp → (∀ i, i < n2 → ¬ nI i = b → fe1 (sv_cnt b i) = fe2 i ∧ fs1 (sv_cnt b i) = 0) → P (.inl none) S1) : am_W g (d + 1) mm_V_addExtentsBut (0, am_ent [.ref v, .ref w, .int b] 4, []) S (P) := by
  show am_W g (d + 1) mm_V_addExtentsBut (0, [some (.ref v), some (.ref w), some (.int b), none], []) S _
  refine am_iconst 0 d_V_addExtentsBut_0 (by decide) ?_
  refine am_istoren (L' := [some (.ref v), some (.ref w), some (.int b), some (.int 0)]) d_V_addExtentsBut_1 (by decide) rfl rfl ?_
  exact c_addExt_l hV2 hd1 hd2 b hP n2 0 (by omega) S fe fs hV sv_fr.rf (fun i hi => absurd hi (Nat.not_lt_zero i))
