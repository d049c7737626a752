/-! the reference: shape -/
theorem am_cutS {g : am_G} {d : Nat} {y : am_I} {F F0 : am_F} {S : am_S} {P : am_O → am_S → Prop} (Q : am_S → Prop) (k : ∀ S1, Q S1 → am_W g d y F S1 P) (h : (∀ S1, Q S1 → am_W g d y F S1 P) → am_W g d y F0 S P) : am_W g d y F0 S P := h k
def sv_ad2 (p : Nat × (Nat → Nat)) (x : Int32) : Nat × (Nat → Nat) := if x < 0 then p else (p.1 + 1, sv_ins p.2 p.1 x.toNatClampNeg)
theorem sv_ad2_eq {p : Nat × (Nat → Nat)} {x : Int32} (h : ¬ x < -1) : sv_ad2 p x = sv_ad p x := by
  unfold sv_ad2 sv_ad
  by_cases e : x = -1
  · rw [if_pos (by rw [e]; decide), if_pos e]
  · rw [if_neg (sv_not_lt h e), if_neg e]
theorem sv_ad2_le {p : Nat × (Nat → Nat)} {x : Int32} : (sv_ad2 p x).1 ≤ p.1 + 1 := by
  unfold sv_ad2
  split
  · exact Nat.le_succ _
  · exact Nat.le_refl _
theorem sv_pl_0 {a : sv_A} : a.pl 0 = a.sa := by
  show a.sa + sv_pl a.ex a.sp a.ax 0 = a.sa
  have : ∀ n, sv_pl a.ex a.sp n 0 = 0 := by
    intro n
    induction n with
    | zero => rfl
    | succ n ih => simp only [sv_pl]; rw [Nat.zero_mod, Nat.zero_div, ih, nI_0, Int32.zero_mul]; rfl
  rw [this, Int32.add_zero]
/-- the same in 64 bits -/
def sv_plL (E : Nat → Nat) (p : Nat → Int64) : Nat → Nat → Int64
  | 0, _ => 0
  | n + 1, i => lN (i % E n) * p n + sv_plL E p n (i / E n)
theorem sv_plL_congr {E : Nat → Nat} {p p2 : Nat → Int64} : ∀ {n i : Nat}, (∀ k, k < n → p2 k = p k) → sv_plL E p2 n i = sv_plL E p n i := by
  intro n
  induction n with
  | zero => intro i _; rfl
  | succ n ih => intro i h; simp only [sv_plL]; rw [h n (by omega), ih (fun k hk => h k (by omega))]
theorem sv_plL_eq {E : Nat → Nat} {p : Nat → Int32} : ∀ {n i : Nat}, n ≤ 4 → i ≤ 3000 → (∀ k, k < n → -300 < (p k).toInt ∧ (p k).toInt < 300) → (sv_plL E (fun k => (p k).toInt64) n i).toInt = (sv_pl E p n i).toInt ∧ -(900000 * (n : Int)) ≤ (sv_pl E p n i).toInt ∧ (sv_pl E p n i).toInt ≤ 900000 * (n : Int) := by
  intro n
  induction n with
  | zero => intro i _ _ _; refine ⟨rfl, ?_, ?_⟩ <;> (show _ ≤ _; simp [sv_pl])
  | succ n ih =>
    intro i hn hi h
    have hsz : Int64.size = 18446744073709551616 := rfl
    have h1 := ih (i := i / E n) (by omega) (Nat.le_trans (Nat.div_le_self i _) hi) (fun k hk => h k (by omega))
    have h2 := h n (by omega)
    have hm : i % E n ≤ 3000 := Nat.le_trans (Nat.mod_le i _) hi
    simp only [sv_plL, sv_pl]
    generalize i % E n = r at hm ⊢
    have rI : (nI r).toInt = (r : Int) := nI_toInt (by omega)
    have rL : (lN r).toInt = (r : Int) := lN_toInt (by omega)
    have b1 : (r : Int) * (p n).toInt ≤ 900000 := by
      rcases (show (p n).toInt < 0 ∨ 0 ≤ (p n).toInt by omega) with q | q
      · have : (r : Int) * (p n).toInt ≤ 0 := Int.mul_nonpos_of_nonneg_of_nonpos (by omega) (by omega)
        omega
      · have : (r : Int) * (p n).toInt ≤ 3000 * 300 := Int.mul_le_mul (by omega) (by omega) q (by omega)
        omega
    have b2 : -900000 ≤ (r : Int) * (p n).toInt := by
      rcases (show (p n).toInt < 0 ∨ 0 ≤ (p n).toInt by omega) with q | q
      · have : (r : Int) * (-(p n).toInt) ≤ 3000 * 300 := Int.mul_le_mul (by omega) (by omega) (by omega) (by omega)
        rw [Int.mul_neg] at this
        omega
      · have : 0 ≤ (r : Int) * (p n).toInt := Int.mul_nonneg (by omega) q
        omega
    have c1 : (nI r * p n).toInt = (r : Int) * (p n).toInt := by rw [sv_toInt_mul (by rw [rI]; omega) (by rw [rI]; omega), rI]
    have c2 : (lN r * (p n).toInt64).toInt = (r : Int) * (p n).toInt := by
      rw [Int64.toInt_mul, rL, Int32.toInt_toInt64]
      exact Int.bmod_eq_of_le (by omega) (by omega)
    have d1 : (nI r * p n + sv_pl E p n (i / E n)).toInt = (r : Int) * (p n).toInt + (sv_pl E p n (i / E n)).toInt := by rw [sv_toInt_add (by rw [c1]; omega) (by rw [c1]; omega), c1]
    have d2 : (lN r * (p n).toInt64 + sv_plL E (fun k => (p k).toInt64) n (i / E n)).toInt = (r : Int) * (p n).toInt + (sv_pl E p n (i / E n)).toInt := by
      rw [Int64.toInt_add, c2, h1.1]
      exact Int.bmod_eq_of_le (by omega) (by omega)
    rw [d1, d2]
    exact ⟨rfl, by omega, by omega⟩
/-- the steps that shape guesses are small; the test in 64 bits tells what one in 32 bits tells -/
theorem sv_gs_small {a : sv_A} {n sz : Nat} {E : Nat → Nat} (hsz : sz ≤ 300) (hin : sv_in a sz) (hpr : sv_pr E n = a.it) (h0 : 0 < a.it) : ∀ k, k < n → -300 < (sv_gs a n E k).toInt ∧ (sv_gs a n E k).toInt < 300 := by
  intro k hk
  have hZ : ∀ k, k < n → 0 < E k := sv_pr_pos (by rw [hpr]; exact h0)
  unfold sv_gs
  split
  · exact ⟨by decide, by decide⟩
  · rename_i h2
    have hlt : sv_dp E n (n - 1 - k) < a.it := by
      have h1 := sv_dp_s E (n - 1 - k) n (by omega)
      rw [show n - 1 - (n - 1 - k) = k by omega] at h1
      have h3 := sv_dp_le E hZ (n - 1 - k + 1) (by omega)
      have h4 := sv_dp_pos E hZ (n - 1 - k) (by omega)
      have h5 := Nat.mul_le_mul_left (sv_dp E n (n - 1 - k)) (show 2 ≤ E k by omega)
      omega
    have pb : ∀ t, t < a.it → 0 ≤ (a.pl t).toInt ∧ (a.pl t).toInt < 300 := by
      intro t ht
      obtain ⟨p, hp, e⟩ := vp_in_of (hin t ht) (by omega)
      rw [e, nI_toInt (by omega)]
      omega
    have q1 := pb _ hlt
    have q2 := pb 0 h0
    rw [sv_toInt_sub (by omega) (by omega)]
    omega
theorem sv_gs_iff {a : sv_A} {n sz : Nat} {E : Nat → Nat} (hn : n ≤ 4) (hsz : sz ≤ 300) (hin : sv_in a sz) (hpr : sv_pr E n = a.it) (h3 : a.it ≤ 3000) {i : Nat} (hi : i < a.it) : ((a.pl 0).toInt64 + sv_plL E (fun k => (sv_gs a n E k).toInt64) n i = (a.pl i).toInt64) ↔ a.sa + sv_pl E (sv_gs a n E) n i = a.pl i := by
  have hsz2 : Int64.size = 18446744073709551616 := rfl
  have e := sv_plL_eq (E := E) (p := sv_gs a n E) (n := n) (i := i) hn (by omega) (sv_gs_small hsz hin hpr (by omega))
  have hs := sv_start hsz (by omega) hin
  rw [sv_pl_0]
  have c1 : (a.sa.toInt64 + sv_plL E (fun k => (sv_gs a n E k).toInt64) n i).toInt = a.sa.toInt + (sv_pl E (sv_gs a n E) n i).toInt := by
    rw [Int64.toInt_add, e.1, Int32.toInt_toInt64]
    exact Int.bmod_eq_of_le (by omega) (by omega)
  have c2 : (a.sa + sv_pl E (sv_gs a n E) n i).toInt = a.sa.toInt + (sv_pl E (sv_gs a n E) n i).toInt := sv_toInt_add (by omega) (by omega)
  rw [← Int64.toInt_inj, ← Int32.toInt_inj, c1, c2, Int32.toInt_toInt64]
set_option maxHeartbeats 4000000 in
set_option maxRecDepth 100000 in
/-- M_tells -/
theorem m_tells {g : am_G} {d : Nat} {S : am_S} {T : sv_T} {th : Int32} {na : Nat} {ne nw rd : Nat → Int64} {mt : Nat → Int32} (hM : sv_N g S.1 T th na ne nw rd mt) {x y z : Int32} {P : am_O → am_S → Prop} (hP : ∀ (S1 : am_S) (ne1 nw1 : Nat → Int64), sv_N g S1.1 T th (sv_ad2 (sv_ad2 (sv_ad2 (0, fun _ => 0) x) y) z).1 ne1 nw1 rd mt → sv_MF g S S1 → (∀ t, t < (sv_ad2 (sv_ad2 (sv_ad2 (0, fun _ => 0) x) y) z).1 → ne1 t = lN ((sv_ad2 (sv_ad2 (sv_ad2 (0, fun _ => 0) x) y) z).2 t) ∧ nw1 t = 0) → P (.inl (some (.int (sv_if (¬ x < -1 ∧ ¬ y < -1 ∧ ¬ z < -1) 1 0)))) S1) : am_W g (d + 1) mm_M_tells (0, am_ent [.ref (g.2.2.1 + 6), .int x, .int y, .int z] 4, []) S (P) := by
  obtain ⟨fl, fz, fN, fS, fa, fx, fe, fs, ⟨m0, m1, m2, m3, m4, m5, m6, m7, m8, m9, m10, m11, m12⟩, ⟨t1, t2, t3⟩, hw⟩ := id hM
  have h80 := hw.2.1
  have h12 := hw.1
  show am_W g (d + 1) mm_M_tells (0, [some (.ref (g.2.2.1 + 6)), some (.int x), some (.int y), some (.int z)], []) S _
  refine am_aloadn d_M_tells_0 rfl ?_
  refine am_iconst 0 d_M_tells_1 (by decide) ?_
  show am_W _ _ _ (_, _, [.int (nI 0), _]) _ _
  refine am_put d_M_tells_2 fp_M_59 m0 rfl rfl (Nat.le_of_ble_eq_true rfl) ?_
  obtain ⟨S_1, eS_1⟩ : ∃ z : am_S, z = (am_up S.1 (g.2.2.1 + 6) (.inr (3, [.int th, .int (nI T.ns), .ref (g.2.2.1 + 7), .ref (g.2.2.1 + 8), .ref (g.2.2.1 + 9), .int (nI T.nv), .ref (g.2.2.1 + 10), .ref (g.2.2.1 + 11), .ref (g.2.2.1 + 12), .ref (g.2.2.1 + 13), .ref (g.2.2.1 + 14), .ref (g.2.2.1 + 15), .ref (g.2.2.1 + 16), .int (nI 0), .ref (g.2.2.1 + 17), .ref (g.2.2.1 + 18)])), S.2) := ⟨_, rfl⟩
  change am_W _ _ _ _ (am_up S.1 (g.2.2.1 + 6) (.inr (3, [.int th, .int (nI T.ns), .ref (g.2.2.1 + 7), .ref (g.2.2.1 + 8), .ref (g.2.2.1 + 9), .int (nI T.nv), .ref (g.2.2.1 + 10), .ref (g.2.2.1 + 11), .ref (g.2.2.1 + 12), .ref (g.2.2.1 + 13), .ref (g.2.2.1 + 14), .ref (g.2.2.1 + 15), .ref (g.2.2.1 + 16), .int (nI 0), .ref (g.2.2.1 + 17), .ref (g.2.2.1 + 18)])), S.2) _
  rw [← eS_1]
  have h_2 : S_1.1 (g.2.2.1 + 7) = some (.inl (0, 12, .inl fl)) := by rw [eS_1]; exact (am_up_n (by omega)).trans m1
  have h_3 : S_1.1 (g.2.2.1 + 8) = some (.inl (0, 12, .inl fz)) := by rw [eS_1]; exact (am_up_n (by omega)).trans m2
  have h_4 : S_1.1 (g.2.2.1 + 9) = some (.inl (1, 3600, .inr (.inl fN))) := by rw [eS_1]; exact (am_up_n (by omega)).trans m3
  have h_5 : S_1.1 (g.2.2.1 + 10) = some (.inl (0, 80, .inl fS)) := by rw [eS_1]; exact (am_up_n (by omega)).trans m4
  have h_6 : S_1.1 (g.2.2.1 + 11) = some (.inl (0, 80, .inl fa)) := by rw [eS_1]; exact (am_up_n (by omega)).trans m5
  have h_7 : S_1.1 (g.2.2.1 + 12) = some (.inl (0, 80, .inl fx)) := by rw [eS_1]; exact (am_up_n (by omega)).trans m6
  have h_8 : S_1.1 (g.2.2.1 + 13) = some (.inl (0, 320, .inl fe)) := by rw [eS_1]; exact (am_up_n (by omega)).trans m7
  have h_9 : S_1.1 (g.2.2.1 + 14) = some (.inl (0, 320, .inl fs)) := by rw [eS_1]; exact (am_up_n (by omega)).trans m8
  have h_10 : S_1.1 (g.2.2.1 + 15) = some (.inl (1, 5, .inr (.inl ne))) := by rw [eS_1]; exact (am_up_n (by omega)).trans m9
  have h_11 : S_1.1 (g.2.2.1 + 16) = some (.inl (1, 5, .inr (.inl nw))) := by rw [eS_1]; exact (am_up_n (by omega)).trans m10
  have h_12 : S_1.1 (g.2.2.1 + 17) = some (.inl (1, 3000, .inr (.inl rd))) := by rw [eS_1]; exact (am_up_n (by omega)).trans m11
  have h_13 : S_1.1 (g.2.2.1 + 18) = some (.inl (2, 300, .inl mt)) := by rw [eS_1]; exact (am_up_n (by omega)).trans m12
  have hf_14 : sv_MF g S S_1 := by rw [eS_1]; exact sv_MF.rf.u (by omega) (by omega)
  have h_15 : S_1.1 (g.2.2.1 + 6) = some (.inr (3, [.int th, .int (nI T.ns), .ref (g.2.2.1 + 7), .ref (g.2.2.1 + 8), .ref (g.2.2.1 + 9), .int (nI T.nv), .ref (g.2.2.1 + 10), .ref (g.2.2.1 + 11), .ref (g.2.2.1 + 12), .ref (g.2.2.1 + 13), .ref (g.2.2.1 + 14), .ref (g.2.2.1 + 15), .ref (g.2.2.1 + 16), .int (nI 0), .ref (g.2.2.1 + 17), .ref (g.2.2.1 + 18)])) := by rw [eS_1]; exact am_up_s
  have hnS_1 : S_1.2.1 = S.2.1 := by rw [eS_1]
  have hzS_1 : S_1.2.2 = S.2.2 := by rw [eS_1]
  have hN0 : sv_N g S_1.1 T th 0 ne nw rd mt := ⟨fl, fz, fN, fS, fa, fx, fe, fs, ⟨h_15, h_2, h_3, h_4, h_5, h_6, h_7, h_8, h_9, h_10, h_11, h_12, h_13⟩, ⟨t1, t2, t3⟩, hw⟩
  have hf0 : sv_MF g S S_1 := hf_14
  have hI0 : ∀ t, t < 0 → ne t = lN 0 ∧ nw t = 0 := fun t ht => absurd ht (Nat.not_lt_zero t)
  obtain ⟨p1, hp1⟩ : ∃ pp : Nat × (Nat → Nat), pp = sv_ad2 ((0, fun _ => 0) : Nat × (Nat → Nat)) x := ⟨_, rfl⟩
  have hle1 : p1.1 ≤ 1 := by have h9 := sv_ad2_le (p := ((0, fun _ => 0) : Nat × (Nat → Nat))) (x := x); rw [← hp1] at h9; exact h9
  refine am_cutS (F := (16, [some (.ref (g.2.2.1 + 6)), some (.int x), some (.int y), some (.int z)], [])) (fun S1 => ∃ ne1 nw1 : Nat → Int64, sv_N g S1.1 T th p1.1 ne1 nw1 rd mt ∧ sv_MF g S S1 ∧ ∀ t, t < p1.1 → ne1 t = lN (p1.2 t) ∧ nw1 t = 0) (fun S1 hQ1 => ?_) (fun key => ?_)
  · skip
    obtain ⟨ne1, nw1, hN1, hf1, hI1⟩ := hQ1
    obtain ⟨flq1, fzq1, fNq1, fSq1, faq1, fxq1, feq1, fsq1, ⟨m0q1, m1q1, m2q1, m3q1, m4q1, m5q1, m6q1, m7q1, m8q1, m9q1, m10q1, m11q1, m12q1⟩, ⟨t1q1, t2q1, t3q1⟩, hwq1⟩ := id hN1
    obtain ⟨p2, hp2⟩ : ∃ pp : Nat × (Nat → Nat), pp = sv_ad2 p1 y := ⟨_, rfl⟩
    have hle2 : p2.1 ≤ 2 := by have h9 := sv_ad2_le (p := p1) (x := y); rw [← hp2] at h9; omega
    refine am_cutS (F := (27, [some (.ref (g.2.2.1 + 6)), some (.int x), some (.int y), some (.int z)], [])) (fun S1 => ∃ ne1 nw1 : Nat → Int64, sv_N g S1.1 T th p2.1 ne1 nw1 rd mt ∧ sv_MF g S S1 ∧ ∀ t, t < p2.1 → ne1 t = lN (p2.2 t) ∧ nw1 t = 0) (fun S2 hQ2 => ?_) (fun key => ?_)
    · skip
      obtain ⟨ne2, nw2, hN2, hf2, hI2⟩ := hQ2
      obtain ⟨flq2, fzq2, fNq2, fSq2, faq2, fxq2, feq2, fsq2, ⟨m0q2, m1q2, m2q2, m3q2, m4q2, m5q2, m6q2, m7q2, m8q2, m9q2, m10q2, m11q2, m12q2⟩, ⟨t1q2, t2q2, t3q2⟩, hwq2⟩ := id hN2
      obtain ⟨p3, hp3⟩ : ∃ pp : Nat × (Nat → Nat), pp = sv_ad2 p2 z := ⟨_, rfl⟩
      have hle3 : p3.1 ≤ 3 := by have h9 := sv_ad2_le (p := p2) (x := z); rw [← hp3] at h9; omega
      refine am_cutS (F := (38, [some (.ref (g.2.2.1 + 6)), some (.int x), some (.int y), some (.int z)], [])) (fun S1 => ∃ ne1 nw1 : Nat → Int64, sv_N g S1.1 T th p3.1 ne1 nw1 rd mt ∧ sv_MF g S S1 ∧ ∀ t, t < p3.1 → ne1 t = lN (p3.2 t) ∧ nw1 t = 0) (fun S3 hQ3 => ?_) (fun key => ?_)
      · skip
        obtain ⟨ne3, nw3, hN3, hf3, hI3⟩ := hQ3
        obtain ⟨flq3, fzq3, fNq3, fSq3, faq3, fxq3, feq3, fsq3, ⟨m0q3, m1q3, m2q3, m3q3, m4q3, m5q3, m6q3, m7q3, m8q3, m9q3, m10q3, m11q3, m12q3⟩, ⟨t1q3, t2q3, t3q3⟩, hwq3⟩ := id hN3
        refine am_cut (F := (58, [some (.ref (g.2.2.1 + 6)), some (.int x), some (.int y), some (.int z)], [.int (sv_if (¬ x < -1 ∧ ¬ y < -1 ∧ ¬ z < -1) 1 0)])) ?_ (fun key => ?_)
        · skip
          have hpe : p3 = sv_ad2 (sv_ad2 (sv_ad2 (0, fun _ => 0) x) y) z := by rw [hp3, hp2, hp1]
          rw [hpe] at hN3 hI3
          exact am_zret d_M_tells_58 rfl sv_bo_n (hP S3 ne3 nw3 hN3 hf3 hI3)
        · refine am_iloadn d_M_tells_38 rfl ?_
          refine am_iconst (-1) d_M_tells_39 (by decide) ?_
          refine am_iclt (tgt := 57) d_M_tells_40 (by decide) (fun hb_16 => ?_) (fun hb_16 => ?_)
          · refine am_iconst 0 d_M_tells_57 (by decide) ?_
            rw [sv_if_n (c := ¬ x < -1 ∧ ¬ y < -1 ∧ ¬ z < -1) (fun q => q.1 hb_16)] at key
            exact key
          · refine am_iloadn d_M_tells_43 rfl ?_
            refine am_iconst (-1) d_M_tells_44 (by decide) ?_
            refine am_iclt (tgt := 57) d_M_tells_45 (by decide) (fun hb_17 => ?_) (fun hb_17 => ?_)
            · refine am_iconst 0 d_M_tells_57 (by decide) ?_
              rw [sv_if_n (c := ¬ x < -1 ∧ ¬ y < -1 ∧ ¬ z < -1) (fun q => q.2.1 hb_17)] at key
              exact key
            · refine am_iloadn d_M_tells_48 rfl ?_
              refine am_iconst (-1) d_M_tells_49 (by decide) ?_
              refine am_iclt (tgt := 57) d_M_tells_50 (by decide) (fun hb_18 => ?_) (fun hb_18 => ?_)
              · refine am_iconst 0 d_M_tells_57 (by decide) ?_
                rw [sv_if_n (c := ¬ x < -1 ∧ ¬ y < -1 ∧ ¬ z < -1) (fun q => q.2.2 hb_18)] at key
                exact key
              · refine am_iconst 1 d_M_tells_53 (by decide) ?_
                refine am_goto (tgt := 58) d_M_tells_54 (by decide) ?_
                rw [sv_if_y (c := ¬ x < -1 ∧ ¬ y < -1 ∧ ¬ z < -1) ⟨hb_16, hb_17, hb_18⟩] at key
                exact key
      · refine am_iloadn d_M_tells_27 rfl ?_
        refine am_iflt (tgt := 38) d_M_tells_28 (by decide) (fun hc => ?_) (fun hc => ?_)
        · exact key S2 (by rw [hp3, sv_ad2, if_pos hc]; exact ⟨ne2, nw2, hN2, hf2, hI2⟩)
        · obtain ⟨K, hK, hvK⟩ := nI_of hc
          refine am_aloadn d_M_tells_31 rfl ?_
          refine am_iloadn d_M_tells_32 rfl ?_
          refine am_i2l d_M_tells_33 ?_
          refine am_tl (b := lN K) (by rw [hvK]; exact nI_l hK) ?_
          refine am_lconst 0 d_M_tells_34 (by decide) ?_
          refine am_cpsV [.long (lN K), .long 0] [] d_M_tells_35 cV_M_94 rfl m0q2 rfl rfl (Nat.le_of_ble_eq_true rfl) (Nat.le_of_ble_eq_true rfl) (m_more hN2 (by omega) (fun S9 hN9 hf9 => ?_))
          show am_W g (d + 1) mm_M_tells (38, [some (.ref (g.2.2.1 + 6)), some (.int x), some (.int y), some (.int z)], []) S9 _
          refine key S9 ?_
          rw [hp3, sv_ad2, if_neg hc]
          refine ⟨_, _, hN9, (hf2).tr hf9, fun t ht => ?_⟩
          have ht : t < p2.1 + 1 := ht
          show vp_updL ne2 (p2.1) (lN K) t = lN (sv_ins p2.2 (p2.1) z.toNatClampNeg t) ∧ vp_updL nw2 (p2.1) 0 t = 0
          simp only [sv_ins]
          by_cases e : t = p2.1
          · rw [if_neg (by omega), if_pos e, e, pk_uLs, pk_uLs, hvK, nI_clamp hK]
            exact ⟨rfl, rfl⟩
          · rw [if_pos (by omega), pk_uLn e, pk_uLn e]
            exact hI2 t (by omega)
    · refine am_iloadn d_M_tells_16 rfl ?_
      refine am_iflt (tgt := 27) d_M_tells_17 (by decide) (fun hc => ?_) (fun hc => ?_)
      · exact key S1 (by rw [hp2, sv_ad2, if_pos hc]; exact ⟨ne1, nw1, hN1, hf1, hI1⟩)
      · obtain ⟨K, hK, hvK⟩ := nI_of hc
        refine am_aloadn d_M_tells_20 rfl ?_
        refine am_iloadn d_M_tells_21 rfl ?_
        refine am_i2l d_M_tells_22 ?_
        refine am_tl (b := lN K) (by rw [hvK]; exact nI_l hK) ?_
        refine am_lconst 0 d_M_tells_23 (by decide) ?_
        refine am_cpsV [.long (lN K), .long 0] [] d_M_tells_24 cV_M_94 rfl m0q1 rfl rfl (Nat.le_of_ble_eq_true rfl) (Nat.le_of_ble_eq_true rfl) (m_more hN1 (by omega) (fun S9 hN9 hf9 => ?_))
        show am_W g (d + 1) mm_M_tells (27, [some (.ref (g.2.2.1 + 6)), some (.int x), some (.int y), some (.int z)], []) S9 _
        refine key S9 ?_
        rw [hp2, sv_ad2, if_neg hc]
        refine ⟨_, _, hN9, (hf1).tr hf9, fun t ht => ?_⟩
        have ht : t < p1.1 + 1 := ht
        show vp_updL ne1 (p1.1) (lN K) t = lN (sv_ins p1.2 (p1.1) y.toNatClampNeg t) ∧ vp_updL nw1 (p1.1) 0 t = 0
        simp only [sv_ins]
        by_cases e : t = p1.1
        · rw [if_neg (by omega), if_pos e, e, pk_uLs, pk_uLs, hvK, nI_clamp hK]
          exact ⟨rfl, rfl⟩
        · rw [if_pos (by omega), pk_uLn e, pk_uLn e]
          exact hI1 t (by omega)
  · refine am_iloadn d_M_tells_5 rfl ?_
    refine am_iflt (tgt := 16) d_M_tells_6 (by decide) (fun hc => ?_) (fun hc => ?_)
    · exact key S_1 (by rw [hp1, sv_ad2, if_pos hc]; exact ⟨ne, nw, hN0, hf0, (fun t ht => absurd ht (Nat.not_lt_zero t))⟩)
    · obtain ⟨K, hK, hvK⟩ := nI_of hc
      refine am_aloadn d_M_tells_9 rfl ?_
      refine am_iloadn d_M_tells_10 rfl ?_
      refine am_i2l d_M_tells_11 ?_
      refine am_tl (b := lN K) (by rw [hvK]; exact nI_l hK) ?_
      refine am_lconst 0 d_M_tells_12 (by decide) ?_
      refine am_cpsV [.long (lN K), .long 0] [] d_M_tells_13 cV_M_94 rfl h_15 rfl rfl (Nat.le_of_ble_eq_true rfl) (Nat.le_of_ble_eq_true rfl) (m_more hN0 (by omega) (fun S9 hN9 hf9 => ?_))
      show am_W g (d + 1) mm_M_tells (16, [some (.ref (g.2.2.1 + 6)), some (.int x), some (.int y), some (.int z)], []) S9 _
      refine key S9 ?_
      rw [hp1, sv_ad2, if_neg hc]
      refine ⟨_, _, hN9, (hf0).tr hf9, fun t ht => ?_⟩
      have ht : t < 0 + 1 := ht
      show vp_updL ne (0) (lN K) t = lN (sv_ins (fun _ => 0) (0) x.toNatClampNeg t) ∧ vp_updL nw (0) 0 t = 0
      simp only [sv_ins]
      by_cases e : t = 0
      · rw [if_neg (by omega), if_pos e, e, pk_uLs, pk_uLs, hvK, nI_clamp hK]
        exact ⟨rfl, rfl⟩
      · rw [if_pos (by omega), pk_uLn e, pk_uLn e]
        exact absurd ht (by omega)
