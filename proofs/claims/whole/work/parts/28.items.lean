/-- only the cells a and b have changed -/
def sv_f2 (S S1 : am_S) (a b : Nat) : Prop := S1.2 = S.2 ∧ ∀ q : Nat, q ≠ a → q ≠ b → S1.1 q = S.1 q
theorem sv_f2.u2 {S S1 : am_S} {a b : Nat} {e : va_E} (h : sv_f2 S S1 a b) : sv_f2 S (am_up S1.1 b e, S1.2) a b := ⟨h.1, fun q h1 h2 => (am_up_n h2).trans (h.2 q h1 h2)⟩
/-- the numbers are put, in order: the row, and how many are other numbers -/
def sv_wr (ln : Int32) (G : Nat → Int32) (nu : Nat → Int64) (fr : Nat → Int64) : Nat → (Nat → Int64) × Nat
  | 0 => (fr, 0)
  | k + 1 => (vp_updL (sv_wr ln G nu fr k).1 (G k).toNatClampNeg (sv_low ln (nu k)), if (sv_wr ln G nu fr k).1 (G k).toNatClampNeg = sv_low ln (nu k) then (sv_wr ln G nu fr k).2 else (sv_wr ln G nu fr k).2 + 1)
theorem sv_wr_le (ln : Int32) (G : Nat → Int32) (nu : Nat → Int64) (fr : Nat → Int64) : ∀ k, (sv_wr ln G nu fr k).2 ≤ k := by
  intro k
  induction k with
  | zero => exact Nat.le_refl 0
  | succ k ih => simp only [sv_wr]; split <;> omega
theorem sv_cmp_self (x : Int64) : lg_cmp x x = 0 := by simp [lg_cmp]
theorem sv_cmp0 {x z : Int64} (h : lg_cmp x z = 0) : x = z := by
  unfold lg_cmp at h
  split at h
  · exact absurd h (by decide)
  · split at h
    · assumption
    · exact absurd h (by decide)
set_option maxHeartbeats 4000000 in
set_option maxRecDepth 100000 in
/-- readItems, the loop -/
theorem c_read_l {g : am_G} {d : Nat} {S : am_S} {x B1 B2 B3 B4 B5 : Nat} {ns nv : Int32} (hx0 : S.1 x = some (.inr (2, [.ref B1, .ref B2, .int ns, .int nv, .ref B3, .ref B4, .ref B5]))) {fp : Nat → Int32} (hp0 : S.1 B3 = some (.inl (0, 3000, .inl fp))) {fn : Nat → Int64} (hn0 : S.1 B4 = some (.inl (1, 3000, .inr (.inl fn)))) {v st : Nat} {sa : Int32} {n : Nat} {it : Int32} {ex sp : Nat} {fe fs : Nat → Int32} (hV : sv_V S.1 v st sa n it ex sp fe fs) {w st2 : Nat} {sa2 : Int32} {n2 : Nat} {ex2 sp2 : Nat} {fe2 fs2 : Nat → Int32} {N : Nat} (hV2 : sv_V S.1 w st2 sa2 n2 (nI N) ex2 sp2 fe2 fs2) {rw R : Nat} {num ln vo : Int32} {fr : Nat → Int64} (hst : S.1 st = some (.inr (0, [.int num, .int ln, .ref rw, .int vo]))) (hrw : S.1 rw = some (.inl (1, R, .inr (.inl fr)))) (hrB : rw ≠ B4) (hN3 : N ≤ 3000) {G : Nat → Int32} (hR : ∀ t, t < N → vp_in (G t) R) {P : am_O → am_S → Prop} (hP : ∀ (S1 : am_S) (Fp : Nat → Int32) (Fn : Nat → Int64), S1.1 B3 = some (.inl (0, 3000, .inl Fp)) → S1.1 B4 = some (.inl (1, 3000, .inr (.inl Fn))) → sv_f2 S S1 B3 B4 → (∀ t, t < N → Fp t = G t) → (∀ t, t < N → Fn t = fr (G t).toNatClampNeg) → P (.inl none) S1) : ∀ (c i : Nat), i + c = N → ∀ (S0 : am_S) (Fn : Nat → Int64) {Fp : Nat → Int32}, S0.1 B3 = some (.inl (0, 3000, .inl Fp)) → S0.1 B4 = some (.inl (1, 3000, .inr (.inl Fn))) → sv_f2 S S0 B3 B4 → (∀ t, t < N → Fp t = G t) → (∀ t, t < i → Fn t = fr (G t).toNatClampNeg) → am_W g (d + 1) mm_X_readItems (8, [some (.ref x), some (.ref v), some (.ref w), some (.int (nI i))], []) S0 P := by
  intro c
  induction c using Nat.strongRecOn with
  | ind c ih =>
    intro i hi S0 Fn Fp hp hn hfr hA hI
    have hx := (hfr.2 x (am_nd hx0 hp0 (by simp [am_kd])) (am_nd hx0 hn0 (by simp [am_kd]))).trans hx0
    have hv := (hfr.2 v (am_nd hV.1 hp0 (by simp [am_kd])) (am_nd hV.1 hn0 (by simp [am_kd]))).trans hV.1
    have hw := (hfr.2 w (am_nd hV2.1 hp0 (by simp [am_kd])) (am_nd hV2.1 hn0 (by simp [am_kd]))).trans hV2.1
    have hs0 := (hfr.2 st (am_nd hst hp0 (by simp [am_kd])) (am_nd hst hn0 (by simp [am_kd]))).trans hst
    have hr0 := (hfr.2 rw (am_nd hrw hp0 (by simp [am_kd])) hrB).trans hrw
    have hn42 := hV2.2.2.2.2
    refine am_iloadn d_X_readItems_8 rfl ?_
    refine am_aloadn d_X_readItems_9 rfl ?_
    refine am_get d_X_readItems_10 fl_X_139 hw rfl ?_
    refine am_icge (tgt := 42) d_X_readItems_13 (by decide) (fun hc => ?_) (fun hc => ?_)
    · have hk0 : N ≤ i := (nI_leI (by omega) (by omega)).mp hc
      exact am_vret d_X_readItems_42 rfl (hP S0 Fp Fn hp hn hfr hA (fun t ht => hI t (by omega)))
    · have hlt : i < N := Nat.lt_of_not_le (fun q => hc (nI_le q (by omega)))
      have hin : vp_in (G i) R := hR i hlt
      refine am_aloadn d_X_readItems_16 rfl ?_
      refine am_get d_X_readItems_17 fl_X_25 hx rfl ?_
      refine am_iloadn d_X_readItems_20 rfl ?_
      refine am_aloadn d_X_readItems_21 rfl ?_
      refine am_get d_X_readItems_22 fl_X_129 hv rfl ?_
      refine am_get d_X_readItems_25 fl_X_176 hs0 rfl ?_
      refine am_aloadn d_X_readItems_28 rfl ?_
      refine am_get d_X_readItems_29 fl_X_21 hx rfl ?_
      refine am_iloadn d_X_readItems_32 rfl ?_
      refine am_ialdN (t := 0) (k := i) d_X_readItems_33 rfl hp (by omega) (by omega) ?_
      refine am_ti (b := G i) (hA i hlt) ?_
      refine am_lald (t := 1) d_X_readItems_34 rfl hr0 hin ?_
      refine am_lastN (t := 1) d_X_readItems_35 rfl hn (by omega) (by omega) ?_
      obtain ⟨S_1, eS_1⟩ : ∃ z : am_S, z = (am_up S0.1 B4 (.inl (1, 3000, .inr (.inl (vp_updL Fn i (fr (G i).toNatClampNeg))))), S0.2) := ⟨_, rfl⟩
      change am_W _ _ _ _ (am_up S0.1 B4 (.inl (1, 3000, .inr (.inl (vp_updL Fn i (fr (G i).toNatClampNeg))))), S0.2) _
      rw [← eS_1]
      have h_2 : S_1.1 x = some (.inr (2, [.ref B1, .ref B2, .int ns, .int nv, .ref B3, .ref B4, .ref B5])) := by rw [eS_1]; exact (am_up_n (am_nd hx hn (by simp [am_kd]))).trans hx
      have h_3 : S_1.1 B3 = some (.inl (0, 3000, .inl Fp)) := by rw [eS_1]; exact (am_up_n (am_nd hp hn (by simp [am_kd]))).trans hp
      have h_4 : S_1.1 v = some (.inr (1, [.ref st, .int sa, .int (nI n), .int it, .ref ex, .ref sp])) := by rw [eS_1]; exact (am_up_n (am_nd hv hn (by simp [am_kd]))).trans hv
      have h_5 : S_1.1 w = some (.inr (1, [.ref st2, .int sa2, .int (nI n2), .int (nI N), .ref ex2, .ref sp2])) := by rw [eS_1]; exact (am_up_n (am_nd hw hn (by simp [am_kd]))).trans hw
      have h_6 : S_1.1 st = some (.inr (0, [.int num, .int ln, .ref rw, .int vo])) := by rw [eS_1]; exact (am_up_n (am_nd hs0 hn (by simp [am_kd]))).trans hs0
      have h_7 : S_1.1 rw = some (.inl (1, R, .inr (.inl fr))) := by rw [eS_1]; exact (am_up_n hrB).trans hr0
      have hf_8 : sv_f2 S S_1 B3 B4 := by rw [eS_1]; exact hfr.u2
      have h_9 : S_1.1 B4 = some (.inl (1, 3000, .inr (.inl (vp_updL Fn i (fr (G i).toNatClampNeg))))) := by rw [eS_1]; exact am_up_s
      have hnS_1 : S_1.2.1 = S0.2.1 := by rw [eS_1]
      have hzS_1 : S_1.2.2 = S0.2.2 := by rw [eS_1]
      refine am_iinc (v := nI (i + 1)) (L' := [some (.ref x), some (.ref v), some (.ref w), some (.int (nI (i + 1)))]) d_X_readItems_36 rfl (nI_1 i) (by decide) rfl rfl ?_
      refine am_goto (tgt := 8) d_X_readItems_39 (by decide) ?_
      refine ih (c - 1) (by omega) (i + 1) (by omega) _ _ h_3 h_9 hf_8 hA (fun t ht => ?_)
      by_cases hti : t = i
      · subst hti
        exact pk_uLs
      · rw [show (vp_updL Fn i (fr (G i).toNatClampNeg)) t = Fn t from pk_uLn hti]
        exact hI t (by omega)
set_option maxHeartbeats 4000000 in
set_option maxRecDepth 100000 in
/-- readItems -/
theorem c_read {g : am_G} {d : Nat} {S : am_S} {x B1 B2 B3 B4 B5 : Nat} {ns nv : Int32} (hx0 : S.1 x = some (.inr (2, [.ref B1, .ref B2, .int ns, .int nv, .ref B3, .ref B4, .ref B5]))) {fp : Nat → Int32} (hp0 : S.1 B3 = some (.inl (0, 3000, .inl fp))) {fn : Nat → Int64} (hn0 : S.1 B4 = some (.inl (1, 3000, .inr (.inl fn)))) {v st : Nat} {sa : Int32} {n : Nat} {it : Int32} {ex sp : Nat} {fe fs : Nat → Int32} (hV : sv_V S.1 v st sa n it ex sp fe fs) {w st2 : Nat} {sa2 : Int32} {n2 : Nat} {ex2 sp2 : Nat} {fe2 fs2 : Nat → Int32} {N : Nat} (hV2 : sv_V S.1 w st2 sa2 n2 (nI N) ex2 sp2 fe2 fs2) {rw R : Nat} {num ln vo : Int32} {fr : Nat → Int64} (hst : S.1 st = some (.inr (0, [.int num, .int ln, .ref rw, .int vo]))) (hrw : S.1 rw = some (.inl (1, R, .inr (.inl fr)))) (hrB : rw ≠ B4) (F : Nat → Nat) (hF : ∀ k, k < n2 → fe2 k = nI (F k)) (hO : sv_ok F n2) (hN : sv_pr F n2 = N) (hN3 : N ≤ 3000) (hnn : n ≤ n2) (hR : ∀ t, t < N → vp_in (sa + sv_pl F (sv_sh (n2 - n) fs) n2 t) R) {P : am_O → am_S → Prop} (hP : ∀ (S1 : am_S) (Fp : Nat → Int32) (Fn : Nat → Int64), S1.1 B3 = some (.inl (0, 3000, .inl Fp)) → S1.1 B4 = some (.inl (1, 3000, .inr (.inl Fn))) → sv_f2 S S1 B3 B4 → (∀ t, t < N → Fp t = sa + sv_pl F (sv_sh (n2 - n) fs) n2 t) → (∀ t, t < N → Fn t = fr (sa + sv_pl F (sv_sh (n2 - n) fs) n2 t).toNatClampNeg) → P (.inl none) S1) : am_W g (d + 1) mm_X_readItems (0, am_ent [.ref x, .ref v, .ref w] 4, []) S (P) := by
  show am_W g (d + 1) mm_X_readItems (0, [some (.ref x), some (.ref v), some (.ref w), none], []) S _
  refine am_aloadn d_X_readItems_0 rfl ?_
  refine am_aloadn d_X_readItems_1 rfl ?_
  refine am_aloadn d_X_readItems_2 rfl ?_
  refine am_callV [.ref v, .ref w] [] d_X_readItems_3 cV_X_144 hx0 rfl rfl (Nat.le_of_ble_eq_true rfl) (Nat.le_of_ble_eq_true rfl) (c_layOut hx0 hp0 hV hV2 F hF hO hN hN3 hnn (P := fun o S1 => o = .inl none ∧ ∃ Fp : Nat → Int32, S1.1 B3 = some (.inl (0, 3000, .inl Fp)) ∧ sv_f1 S S1 B3 ∧ ∀ i, i < N → Fp i = sa + sv_pl F (sv_sh (n2 - n) fs) n2 i) (fun S1 Fp q1 q2 q3 => ⟨rfl, Fp, q1, q2, q3⟩)) ?_ ?_
  · intro r1 S1 hr1
    obtain ⟨hr2, Fp, g1, g2, g3⟩ := hr1
    cases hr2
    show am_W g (d + 1) mm_X_readItems (6, [some (.ref x), some (.ref v), some (.ref w), none], []) S1 _
    refine am_iconst 0 d_X_readItems_6 (by decide) ?_
    refine am_istoren (L' := [some (.ref x), some (.ref v), some (.ref w), some (.int 0)]) d_X_readItems_7 (by decide) rfl rfl ?_
    exact c_read_l hx0 hp0 hn0 hV hV2 hst hrw hrB hN3 (G := fun i => sa + sv_pl F (sv_sh (n2 - n) fs) n2 i) hR hP N 0 (by omega) S1 fn g1 ((g2.2 B4 (am_nd hn0 hp0 (by simp [am_kd]))).trans hn0) ⟨g2.1, fun q h1 _ => g2.2 q h1⟩ g3 (fun t ht => absurd ht (Nat.not_lt_zero t))
  · intro r1 S1 hr1
    cases hr1.1
set_option maxHeartbeats 4000000 in
set_option maxRecDepth 100000 in
/-- writeItems, the loop -/
theorem c_write_l {g : am_G} {d : Nat} {S : am_S} {x B1 B2 B3 B4 B5 : Nat} {ns nv : Int32} (hx0 : S.1 x = some (.inr (2, [.ref B1, .ref B2, .int ns, .int nv, .ref B3, .ref B4, .ref B5]))) {fp : Nat → Int32} (hp0 : S.1 B3 = some (.inl (0, 3000, .inl fp))) {Fn : Nat → Int64} (hn0 : S.1 B4 = some (.inl (1, 3000, .inr (.inl Fn)))) {v st : Nat} {sa : Int32} {n : Nat} {ex sp : Nat} {fe fs : Nat → Int32} {N : Nat} (hV : sv_V S.1 v st sa n (nI N) ex sp fe fs) {rw R : Nat} {num ln vo : Int32} {fr : Nat → Int64} (hst : S.1 st = some (.inr (0, [.int num, .int ln, .ref rw, .int vo]))) (hrw : S.1 rw = some (.inl (1, R, .inr (.inl fr)))) (hrB : rw ≠ B4) (hRR : R < 2 ^ 31) (hN3 : N ≤ 3000) {G : Nat → Int32} (hR : ∀ t, t < N → vp_in (G t) R) {P : am_O → am_S → Prop} (hP : ∀ (S1 : am_S) (Fp : Nat → Int32), S1.1 B3 = some (.inl (0, 3000, .inl Fp)) → S1.1 rw = some (.inl (1, R, .inr (.inl (sv_wr ln G Fn fr N).1))) → sv_f2 S S1 B3 rw → (∀ t, t < N → Fp t = G t) → P (.inl (some (.int (nI (sv_wr ln G Fn fr N).2)))) S1) : ∀ (c i : Nat), i + c = N → ∀ (S0 : am_S) {Fp : Nat → Int32}, S0.1 B3 = some (.inl (0, 3000, .inl Fp)) → S0.1 B4 = some (.inl (1, 3000, .inr (.inl Fn))) → S0.1 rw = some (.inl (1, R, .inr (.inl (sv_wr ln G Fn fr i).1))) → sv_f2 S S0 B3 rw → (∀ t, t < N → Fp t = G t) → am_W g (d + 1) mm_X_writeItems (10, [some (.ref x), some (.ref v), some (.int (nI (sv_wr ln G Fn fr i).2)), some (.int (nI i)), none, none], []) S0 P := by
  intro c
  induction c using Nat.strongRecOn with
  | ind c ih =>
    intro i hi S0 Fp hp hn hr0 hfr hA
    have hx := (hfr.2 x (am_nd hx0 hp0 (by simp [am_kd])) (am_nd hx0 hrw (by simp [am_kd]))).trans hx0
    have hv := (hfr.2 v (am_nd hV.1 hp0 (by simp [am_kd])) (am_nd hV.1 hrw (by simp [am_kd]))).trans hV.1
    have hs0 := (hfr.2 st (am_nd hst hp0 (by simp [am_kd])) (am_nd hst hrw (by simp [am_kd]))).trans hst
    have hn4 := hV.2.2.2.2
    refine am_iloadn d_X_writeItems_10 rfl ?_
    refine am_aloadn d_X_writeItems_11 rfl ?_
    refine am_get d_X_writeItems_12 fl_X_139 hv rfl ?_
    refine am_icge (tgt := 78) d_X_writeItems_15 (by decide) (fun hc => ?_) (fun hc => ?_)
    · have hk0 : N ≤ i := (nI_leI (by omega) (by omega)).mp hc
      obtain rfl : N = i := by omega
      refine am_iloadn d_X_writeItems_78 rfl ?_
      exact am_iret d_X_writeItems_79 rfl (hP S0 Fp hp hr0 hfr hA)
    · have hlt : i < N := Nat.lt_of_not_le (fun q => hc (nI_le q (by omega)))
      have hin : vp_in (G i) R := hR i hlt
      have hle : (sv_wr ln G Fn fr i).2 ≤ i := sv_wr_le ln G Fn fr i
      refine am_aloadn d_X_writeItems_18 rfl ?_
      refine am_get d_X_writeItems_19 fl_X_129 hv rfl ?_
      refine am_aloadn d_X_writeItems_22 rfl ?_
      refine am_get d_X_writeItems_23 fl_X_25 hx rfl ?_
      refine am_iloadn d_X_writeItems_26 rfl ?_
      refine am_laldN (t := 1) (k := i) d_X_writeItems_27 rfl hn (by omega) (by omega) ?_
      refine am_callV [.long (Fn i)] [] d_X_writeItems_28 cV_X_186 hs0 rfl rfl (Nat.le_of_ble_eq_true rfl) (Nat.le_of_ble_eq_true rfl) (c_low hs0 (Fn i) (P := fun o S1 => o = .inl (some (.long (sv_low ln (Fn i)))) ∧ S1 = S0) ⟨rfl, rfl⟩) ?_ ?_
      · intro r_1 Sx_2 hx_3
        obtain ⟨hx_3a, hx_3b⟩ := hx_3
        cases hx_3a
        rw [hx_3b]
        show am_W g (d + 1) mm_X_writeItems (31, [some (.ref x), some (.ref v), some (.int (nI (sv_wr ln G Fn fr i).2)), some (.int (nI i)), none, none], [.long (sv_low ln (Fn i))]) S0 _
        refine am_lstore (L' := [some (.ref x), some (.ref v), some (.int (nI (sv_wr ln G Fn fr i).2)), some (.int (nI i)), some (.long (sv_low ln (Fn i))), none]) d_X_writeItems_31 (by decide) rfl rfl ?_
        refine am_aloadn d_X_writeItems_33 rfl ?_
        refine am_get d_X_writeItems_34 fl_X_129 hv rfl ?_
        refine am_get d_X_writeItems_37 fl_X_176 hs0 rfl ?_
        refine am_aloadn d_X_writeItems_40 rfl ?_
        refine am_get d_X_writeItems_41 fl_X_21 hx rfl ?_
        refine am_iloadn d_X_writeItems_44 rfl ?_
        refine am_ialdN (t := 0) (k := i) d_X_writeItems_45 rfl hp (by omega) (by omega) ?_
        refine am_ti (b := G i) (hA i hlt) ?_
        refine am_lald (t := 1) d_X_writeItems_46 rfl hr0 hin ?_
        refine am_lload d_X_writeItems_47 rfl ?_
        refine am_lcmp d_X_writeItems_49 ?_
        refine am_ifeq (tgt := 56) d_X_writeItems_50 (by decide) (fun hq => ?_) (fun hq => ?_)
        · have hq2 : (sv_wr ln G Fn fr i).1 (G i).toNatClampNeg = sv_low ln (Fn i) := sv_cmp0 hq
          refine am_aloadn d_X_writeItems_56 rfl ?_
          refine am_get d_X_writeItems_57 fl_X_129 hv rfl ?_
          refine am_get d_X_writeItems_60 fl_X_176 hs0 rfl ?_
          refine am_aloadn d_X_writeItems_63 rfl ?_
          refine am_get d_X_writeItems_64 fl_X_21 hx rfl ?_
          refine am_iloadn d_X_writeItems_67 rfl ?_
          refine am_ialdN (t := 0) (k := i) d_X_writeItems_68 rfl hp (by omega) (by omega) ?_
          refine am_ti (b := G i) (hA i hlt) ?_
          refine am_lload d_X_writeItems_69 rfl ?_
          refine am_last (t := 1) d_X_writeItems_71 rfl hr0 hin ?_
          obtain ⟨S_4, eS_4⟩ : ∃ z : am_S, z = (am_up S0.1 rw (.inl (1, R, .inr (.inl (vp_updL ((sv_wr ln G Fn fr i).1) (G i).toNatClampNeg (sv_low ln (Fn i)))))), S0.2) := ⟨_, rfl⟩
          change am_W _ _ _ _ (am_up S0.1 rw (.inl (1, R, .inr (.inl (vp_updL ((sv_wr ln G Fn fr i).1) (G i).toNatClampNeg (sv_low ln (Fn i)))))), S0.2) _
          rw [← eS_4]
          have h_5 : S_4.1 x = some (.inr (2, [.ref B1, .ref B2, .int ns, .int nv, .ref B3, .ref B4, .ref B5])) := by rw [eS_4]; exact (am_up_n (am_nd hx hr0 (by simp [am_kd]))).trans hx
          have h_6 : S_4.1 B3 = some (.inl (0, 3000, .inl Fp)) := by rw [eS_4]; exact (am_up_n (am_nd hp hr0 (by simp [am_kd]))).trans hp
          have h_7 : S_4.1 B4 = some (.inl (1, 3000, .inr (.inl Fn))) := by rw [eS_4]; exact (am_up_n hrB.symm).trans hn
          have h_8 : S_4.1 v = some (.inr (1, [.ref st, .int sa, .int (nI n), .int (nI N), .ref ex, .ref sp])) := by rw [eS_4]; exact (am_up_n (am_nd hv hr0 (by simp [am_kd]))).trans hv
          have h_9 : S_4.1 st = some (.inr (0, [.int num, .int ln, .ref rw, .int vo])) := by rw [eS_4]; exact (am_up_n (am_nd hs0 hr0 (by simp [am_kd]))).trans hs0
          have hf_10 : sv_f2 S S_4 B3 rw := by rw [eS_4]; exact hfr.u2
          have h_11 : S_4.1 rw = some (.inl (1, R, .inr (.inl (vp_updL ((sv_wr ln G Fn fr i).1) (G i).toNatClampNeg (sv_low ln (Fn i)))))) := by rw [eS_4]; exact am_up_s
          have hnS_4 : S_4.2.1 = S0.2.1 := by rw [eS_4]
          have hzS_4 : S_4.2.2 = S0.2.2 := by rw [eS_4]
          refine am_iinc (v := nI (i + 1)) (L' := [some (.ref x), some (.ref v), some (.int (nI (sv_wr ln G Fn fr i).2)), some (.int (nI (i + 1))), some (.long (sv_low ln (Fn i))), none]) d_X_writeItems_72 rfl (nI_1 i) (by decide) rfl rfl ?_
          refine am_goto (tgt := 10) d_X_writeItems_75 (by decide) ?_
          refine am_drop (L' := [some (.ref x), some (.ref v), some (.int (nI (sv_wr ln G Fn fr i).2)), some (.int (nI (i + 1))), none, none]) (by simp [am_le]) ?_
          have h9 : sv_wr ln G Fn fr (i + 1) = (vp_updL (sv_wr ln G Fn fr i).1 (G i).toNatClampNeg (sv_low ln (Fn i)), (sv_wr ln G Fn fr i).2) := by show (vp_updL (sv_wr ln G Fn fr i).1 (G i).toNatClampNeg (sv_low ln (Fn i)), if (sv_wr ln G Fn fr i).1 (G i).toNatClampNeg = sv_low ln (Fn i) then (sv_wr ln G Fn fr i).2 else (sv_wr ln G Fn fr i).2 + 1) = _; rw [if_pos hq2]
          have h10 : (sv_wr ln G Fn fr (i + 1)).2 = (sv_wr ln G Fn fr i).2 := by rw [h9]
          have h11 : (sv_wr ln G Fn fr (i + 1)).1 = vp_updL (sv_wr ln G Fn fr i).1 (G i).toNatClampNeg (sv_low ln (Fn i)) := by rw [h9]
          rw [← h10]
          exact ih (c - 1) (by omega) (i + 1) (by omega) _ h_6 h_7 (by rw [h11]; exact h_11) hf_10 hA
        · have hq2 : ¬ (sv_wr ln G Fn fr i).1 (G i).toNatClampNeg = sv_low ln (Fn i) := fun z => hq (by rw [z]; exact sv_cmp_self _)
          refine am_iinc (v := nI ((sv_wr ln G Fn fr i).2 + 1)) (L' := [some (.ref x), some (.ref v), some (.int (nI ((sv_wr ln G Fn fr i).2 + 1))), some (.int (nI i)), some (.long (sv_low ln (Fn i))), none]) d_X_writeItems_53 rfl (nI_1 _) (by decide) rfl rfl ?_
          refine am_aloadn d_X_writeItems_56 rfl ?_
          refine am_get d_X_writeItems_57 fl_X_129 hv rfl ?_
          refine am_get d_X_writeItems_60 fl_X_176 hs0 rfl ?_
          refine am_aloadn d_X_writeItems_63 rfl ?_
          refine am_get d_X_writeItems_64 fl_X_21 hx rfl ?_
          refine am_iloadn d_X_writeItems_67 rfl ?_
          refine am_ialdN (t := 0) (k := i) d_X_writeItems_68 rfl hp (by omega) (by omega) ?_
          refine am_ti (b := G i) (hA i hlt) ?_
          refine am_lload d_X_writeItems_69 rfl ?_
          refine am_last (t := 1) d_X_writeItems_71 rfl hr0 hin ?_
          obtain ⟨S_12, eS_12⟩ : ∃ z : am_S, z = (am_up S0.1 rw (.inl (1, R, .inr (.inl (vp_updL ((sv_wr ln G Fn fr i).1) (G i).toNatClampNeg (sv_low ln (Fn i)))))), S0.2) := ⟨_, rfl⟩
          change am_W _ _ _ _ (am_up S0.1 rw (.inl (1, R, .inr (.inl (vp_updL ((sv_wr ln G Fn fr i).1) (G i).toNatClampNeg (sv_low ln (Fn i)))))), S0.2) _
          rw [← eS_12]
          have h_13 : S_12.1 x = some (.inr (2, [.ref B1, .ref B2, .int ns, .int nv, .ref B3, .ref B4, .ref B5])) := by rw [eS_12]; exact (am_up_n (am_nd hx hr0 (by simp [am_kd]))).trans hx
          have h_14 : S_12.1 B3 = some (.inl (0, 3000, .inl Fp)) := by rw [eS_12]; exact (am_up_n (am_nd hp hr0 (by simp [am_kd]))).trans hp
          have h_15 : S_12.1 B4 = some (.inl (1, 3000, .inr (.inl Fn))) := by rw [eS_12]; exact (am_up_n hrB.symm).trans hn
          have h_16 : S_12.1 v = some (.inr (1, [.ref st, .int sa, .int (nI n), .int (nI N), .ref ex, .ref sp])) := by rw [eS_12]; exact (am_up_n (am_nd hv hr0 (by simp [am_kd]))).trans hv
          have h_17 : S_12.1 st = some (.inr (0, [.int num, .int ln, .ref rw, .int vo])) := by rw [eS_12]; exact (am_up_n (am_nd hs0 hr0 (by simp [am_kd]))).trans hs0
          have hf_18 : sv_f2 S S_12 B3 rw := by rw [eS_12]; exact hfr.u2
          have h_19 : S_12.1 rw = some (.inl (1, R, .inr (.inl (vp_updL ((sv_wr ln G Fn fr i).1) (G i).toNatClampNeg (sv_low ln (Fn i)))))) := by rw [eS_12]; exact am_up_s
          have hnS_12 : S_12.2.1 = S0.2.1 := by rw [eS_12]
          have hzS_12 : S_12.2.2 = S0.2.2 := by rw [eS_12]
          refine am_iinc (v := nI (i + 1)) (L' := [some (.ref x), some (.ref v), some (.int (nI ((sv_wr ln G Fn fr i).2 + 1))), some (.int (nI (i + 1))), some (.long (sv_low ln (Fn i))), none]) d_X_writeItems_72 rfl (nI_1 i) (by decide) rfl rfl ?_
          refine am_goto (tgt := 10) d_X_writeItems_75 (by decide) ?_
          refine am_drop (L' := [some (.ref x), some (.ref v), some (.int (nI ((sv_wr ln G Fn fr i).2 + 1))), some (.int (nI (i + 1))), none, none]) (by simp [am_le]) ?_
          have h9 : sv_wr ln G Fn fr (i + 1) = (vp_updL (sv_wr ln G Fn fr i).1 (G i).toNatClampNeg (sv_low ln (Fn i)), (sv_wr ln G Fn fr i).2 + 1) := by show (vp_updL (sv_wr ln G Fn fr i).1 (G i).toNatClampNeg (sv_low ln (Fn i)), if (sv_wr ln G Fn fr i).1 (G i).toNatClampNeg = sv_low ln (Fn i) then (sv_wr ln G Fn fr i).2 else (sv_wr ln G Fn fr i).2 + 1) = _; rw [if_neg hq2]
          have h10 : (sv_wr ln G Fn fr (i + 1)).2 = (sv_wr ln G Fn fr i).2 + 1 := by rw [h9]
          have h11 : (sv_wr ln G Fn fr (i + 1)).1 = vp_updL (sv_wr ln G Fn fr i).1 (G i).toNatClampNeg (sv_low ln (Fn i)) := by rw [h9]
          rw [← h10]
          exact ih (c - 1) (by omega) (i + 1) (by omega) _ h_14 h_15 (by rw [h11]; exact h_19) hf_18 hA
      · intro r_1 Sx_2 hx_3
        cases hx_3.1
set_option maxHeartbeats 4000000 in
set_option maxRecDepth 100000 in
/-- writeItems -/
theorem c_write {g : am_G} {d : Nat} {S : am_S} {x B1 B2 B3 B4 B5 : Nat} {ns nv : Int32} (hx0 : S.1 x = some (.inr (2, [.ref B1, .ref B2, .int ns, .int nv, .ref B3, .ref B4, .ref B5]))) {fp : Nat → Int32} (hp0 : S.1 B3 = some (.inl (0, 3000, .inl fp))) {Fn : Nat → Int64} (hn0 : S.1 B4 = some (.inl (1, 3000, .inr (.inl Fn)))) {v st : Nat} {sa : Int32} {n : Nat} {ex sp : Nat} {fe fs : Nat → Int32} {N : Nat} (hV : sv_V S.1 v st sa n (nI N) ex sp fe fs) {rw R : Nat} {num ln vo : Int32} {fr : Nat → Int64} (hst : S.1 st = some (.inr (0, [.int num, .int ln, .ref rw, .int vo]))) (hrw : S.1 rw = some (.inl (1, R, .inr (.inl fr)))) (hrB : rw ≠ B4) (hRR : R < 2 ^ 31) (F : Nat → Nat) (hF : ∀ k, k < n → fe k = nI (F k)) (hO : sv_ok F n) (hN : sv_pr F n = N) (hN3 : N ≤ 3000) (hR : ∀ t, t < N → vp_in (sa + sv_pl F fs n t) R) {P : am_O → am_S → Prop} (hP : ∀ (S1 : am_S) (Fp : Nat → Int32), S1.1 B3 = some (.inl (0, 3000, .inl Fp)) → S1.1 rw = some (.inl (1, R, .inr (.inl (sv_wr ln (fun i => sa + sv_pl F fs n i) Fn fr N).1))) → sv_f2 S S1 B3 rw → (∀ t, t < N → Fp t = sa + sv_pl F fs n t) → P (.inl (some (.int (nI (sv_wr ln (fun i => sa + sv_pl F fs n i) Fn fr N).2)))) S1) : am_W g (d + 1) mm_X_writeItems (0, am_ent [.ref x, .ref v] 6, []) S (P) := by
  show am_W g (d + 1) mm_X_writeItems (0, [some (.ref x), some (.ref v), none, none, none, none], []) S _
  refine am_aloadn d_X_writeItems_0 rfl ?_
  refine am_aloadn d_X_writeItems_1 rfl ?_
  refine am_aloadn d_X_writeItems_2 rfl ?_
  refine am_callV [.ref v, .ref v] [] d_X_writeItems_3 cV_X_144 hx0 rfl rfl (Nat.le_of_ble_eq_true rfl) (Nat.le_of_ble_eq_true rfl) (c_layOut hx0 hp0 hV hV F hF hO hN hN3 (Nat.le_refl n) (P := fun o S1 => o = .inl none ∧ ∃ Fp : Nat → Int32, S1.1 B3 = some (.inl (0, 3000, .inl Fp)) ∧ sv_f1 S S1 B3 ∧ ∀ i, i < N → Fp i = sa + sv_pl F fs n i) (fun S1 Fp q1 q2 q3 => ⟨rfl, Fp, q1, q2, fun i hi => by have h7 := q3 i hi; rw [Nat.sub_self, sv_sh_0] at h7; exact h7⟩)) ?_ ?_
  · intro r1 S1 hr1
    obtain ⟨hr2, Fp, g1, g2, g3⟩ := hr1
    cases hr2
    show am_W g (d + 1) mm_X_writeItems (6, [some (.ref x), some (.ref v), none, none, none, none], []) S1 _
    refine am_iconst 0 d_X_writeItems_6 (by decide) ?_
    refine am_istoren (L' := [some (.ref x), some (.ref v), some (.int 0), none, none, none]) d_X_writeItems_7 (by decide) rfl rfl ?_
    refine am_iconst 0 d_X_writeItems_8 (by decide) ?_
    refine am_istoren (L' := [some (.ref x), some (.ref v), some (.int 0), some (.int 0), none, none]) d_X_writeItems_9 (by decide) rfl rfl ?_
    exact c_write_l hx0 hp0 hn0 hV hst hrw hrB hRR hN3 (G := fun i => sa + sv_pl F fs n i) hR hP N 0 (by omega) S1 g1 ((g2.2 B4 (am_nd hn0 hp0 (by simp [am_kd]))).trans hn0) ((g2.2 rw (am_nd hrw hp0 (by simp [am_kd]))).trans hrw) ⟨g2.1, fun q h1 _ => g2.2 q h1⟩ g3
  · intro r1 S1 hr1
    cases hr1.1
