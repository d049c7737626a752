/-! loops of the class's calls -/
theorem vp_in_mono {i : Int32} {n m : Nat} (h : vp_in i n) (hm : n ≤ m) : vp_in i m := fun q => h (q.imp id (fun z => by omega))
theorem vp_in_lt {i : Int32} {n : Nat} (h : vp_in i n) : i.toNatClampNeg < n := Nat.lt_of_not_le (fun z => h (Or.inr z))
theorem sv_rn_le (G : Nat → Int32) : ∀ n, sv_rn G n ≤ n := by
  intro n
  induction n with
  | zero => exact Nat.le_refl 0
  | succ n ih => simp only [sv_rn]; split <;> omega
theorem sv_mt_le (m : Nat → Int32) (G : Nat → Nat) : ∀ n, (sv_mt m G n).2 ≤ n := by
  intro n
  induction n with
  | zero => exact Nat.le_refl 0
  | succ n ih => simp only [sv_mt]; split <;> omega
theorem sv_rn_congr {G G2 : Nat → Int32} : ∀ {n : Nat}, (∀ k, k < n → G2 k = G k) → sv_rn G2 n = sv_rn G n := by
  intro n
  induction n with
  | zero => intro _; rfl
  | succ n ih => intro h; simp only [sv_rn]; rw [h n (by omega), h (n - 1) (by omega), ih (fun k hk => h k (by omega))]
theorem sv_lce {y z : Int64} : lg_cmp y z = 0 ↔ y = z := by
  unfold lg_cmp
  split
  · rename_i h
    exact ⟨fun q => absurd q (by decide), fun q => absurd h (by rw [q]; exact Int64.lt_irrefl)⟩
  · split
    · rename_i h
      exact ⟨fun _ => h, fun _ => rfl⟩
    · rename_i h
      exact ⟨fun q => absurd q (by decide), fun q => absurd q h⟩
set_option maxHeartbeats 4000000 in
set_option maxRecDepth 100000 in
/-- runs, the loop -/
theorem c_runs_l {g : am_G} {d : Nat} {S : am_S} {x B1 B2 B3 B4 B5 : Nat} {ns nv : Int32} (hx : S.1 x = some (.inr (2, [.ref B1, .ref B2, .int ns, .int nv, .ref B3, .ref B4, .ref B5]))) {v st ex sp : Nat} {sa xs : Int32} {N : Nat} (hv : S.1 v = some (.inr (1, [.ref st, .int sa, .int xs, .int (nI N), .ref ex, .ref sp]))) (hN3 : N ≤ 3000) {Fp G : Nat → Int32} (hp : S.1 B3 = some (.inl (0, 3000, .inl Fp))) (hG : ∀ t, t < N → Fp t = G t) {z0 : Int32} {P : am_O → am_S → Prop} (hP : P (.inl (some (.int (nI (sv_rn G N))))) S) : ∀ (c i : Nat), i + c = N → am_W g d mm_X_runs (17, [some (.ref x), some (.int z0), some (.ref v), some (.int (nI (sv_rn G i))), some (.int (nI i))], []) S P := by
  intro c
  induction c using Nat.strongRecOn with
  | ind c ih =>
    intro i hi
    refine am_iload d_X_runs_17 rfl ?_
    refine am_aloadn d_X_runs_19 rfl ?_
    refine am_get d_X_runs_20 fl_X_139 hv rfl ?_
    refine am_icge (tgt := 61) d_X_runs_23 (by decide) (fun hc => ?_) (fun hc => ?_)
    · have hk0 : N ≤ i := (nI_leI (by omega) (by omega)).mp hc
      obtain rfl : N = i := by omega
      refine am_iloadn d_X_runs_61 rfl ?_
      exact am_iret d_X_runs_62 rfl hP
    · have hlt : i < N := Nat.lt_of_not_le (fun q => hc (nI_le q (by omega)))
      have hle := sv_rn_le G i
      refine am_iload d_X_runs_26 rfl ?_
      refine am_ifeq (tgt := 52) d_X_runs_28 (by decide) (fun hz => ?_) (fun hz => ?_)
      · have hq : i = 0 ∨ ¬ G i = G (i - 1) + 1 := Or.inl ((nI_eq (by omega) (by decide)).mp (hz.trans nI_0.symm))
        refine am_iinc (v := nI (sv_rn G i + 1)) (L' := [some (.ref x), some (.int z0), some (.ref v), some (.int (nI (sv_rn G i + 1))), some (.int (nI i))]) d_X_runs_52 rfl (nI_1 _) (by decide) rfl rfl ?_
        refine am_iinc (v := nI (i + 1)) (L' := [some (.ref x), some (.int z0), some (.ref v), some (.int (nI (sv_rn G i + 1))), some (.int (nI (i + 1)))]) d_X_runs_55 rfl (nI_1 i) (by decide) rfl rfl ?_
        refine am_goto (tgt := 17) d_X_runs_58 (by decide) ?_
        rw [show sv_rn G i + 1 = sv_rn G (i + 1) from by simp only [sv_rn]; rw [if_pos hq]]
        exact ih (c - 1) (by omega) (i + 1) (by omega)
      · have hi0 : ¬ i = 0 := fun h => hz (by rw [h]; exact nI_0)
        refine am_aloadn d_X_runs_31 rfl ?_
        refine am_get d_X_runs_32 fl_X_21 hx rfl ?_
        refine am_iload d_X_runs_35 rfl ?_
        refine am_ialdN (t := 0) (k := i) d_X_runs_37 rfl hp (by omega) (by omega) ?_
        refine am_ti (b := G i) (hG i hlt) ?_
        refine am_aloadn d_X_runs_38 rfl ?_
        refine am_get d_X_runs_39 fl_X_21 hx rfl ?_
        refine am_iload d_X_runs_42 rfl ?_
        refine am_iconst 1 d_X_runs_44 (by decide) ?_
        refine am_isub d_X_runs_45 ?_
        refine am_ti (b := nI (i - 1)) (nI_m1N (by omega)) ?_
        refine am_ialdN (t := 0) (k := i - 1) d_X_runs_46 rfl hp (by omega) (by omega) ?_
        refine am_ti (b := G (i - 1)) (hG (i - 1) (by omega)) ?_
        refine am_iconst 1 d_X_runs_47 (by decide) ?_
        refine am_iadd d_X_runs_48 ?_
        refine am_iceq (tgt := 55) d_X_runs_49 (by decide) (fun hy => ?_) (fun hy => ?_)
        · have hq : ¬ (i = 0 ∨ ¬ G i = G (i - 1) + 1) := fun q => q.elim hi0 (fun z => z hy)
          refine am_iinc (v := nI (i + 1)) (L' := [some (.ref x), some (.int z0), some (.ref v), some (.int (nI (sv_rn G i))), some (.int (nI (i + 1)))]) d_X_runs_55 rfl (nI_1 i) (by decide) rfl rfl ?_
          refine am_goto (tgt := 17) d_X_runs_58 (by decide) ?_
          rw [show sv_rn G i = sv_rn G (i + 1) from by simp only [sv_rn]; rw [if_neg hq]]
          exact ih (c - 1) (by omega) (i + 1) (by omega)
        · have hq : i = 0 ∨ ¬ G i = G (i - 1) + 1 := Or.inr hy
          refine am_iinc (v := nI (sv_rn G i + 1)) (L' := [some (.ref x), some (.int z0), some (.ref v), some (.int (nI (sv_rn G i + 1))), some (.int (nI i))]) d_X_runs_52 rfl (nI_1 _) (by decide) rfl rfl ?_
          refine am_iinc (v := nI (i + 1)) (L' := [some (.ref x), some (.int z0), some (.ref v), some (.int (nI (sv_rn G i + 1))), some (.int (nI (i + 1)))]) d_X_runs_55 rfl (nI_1 i) (by decide) rfl rfl ?_
          refine am_goto (tgt := 17) d_X_runs_58 (by decide) ?_
          rw [show sv_rn G i + 1 = sv_rn G (i + 1) from by simp only [sv_rn]; rw [if_pos hq]]
          exact ih (c - 1) (by omega) (i + 1) (by omega)
set_option maxHeartbeats 4000000 in
set_option maxRecDepth 100000 in
/-- same, the loop -/
theorem c_same_l {g : am_G} {d : Nat} {S : am_S} {x B1 B2 B3 B4 B5 : Nat} {ns nv : Int32} (hx : S.1 x = some (.inr (2, [.ref B1, .ref B2, .int ns, .int nv, .ref B3, .ref B4, .ref B5]))) {v st ex sp : Nat} {sa xs : Int32} {N : Nat} (hv : S.1 v = some (.inr (1, [.ref st, .int sa, .int xs, .int (nI N), .ref ex, .ref sp]))) (hN3 : N ≤ 3000) {Fp G : Nat → Int32} (hp : S.1 B3 = some (.inl (0, 3000, .inl Fp))) (hG : ∀ t, t < N → Fp t = G t) {num ln vo : Int32} {rw R : Nat} {fr : Nat → Int64} (hst : S.1 st = some (.inr (0, [.int num, .int ln, .ref rw, .int vo]))) (hrw : S.1 rw = some (.inl (1, R, .inr (.inl fr)))) {Fn nu : Nat → Int64} (hn : S.1 B4 = some (.inl (1, 3000, .inr (.inl Fn)))) (hNu : ∀ t, t < N → Fn t = nu t) (hR : ∀ t, t < N → vp_in (G t) R) {z0 z1 : Int32} {z2 : Nat} {P : am_O → am_S → Prop} (h1 : (∀ t, t < N → nu t = fr (G t).toNatClampNeg) → P (.inl (some (.int 1))) S) (h0 : ¬ (∀ t, t < N → nu t = fr (G t).toNatClampNeg) → P (.inl (some (.int 0))) S) : ∀ (c i : Nat), i + c = N → (∀ t, t < i → nu t = fr (G t).toNatClampNeg) → am_W g d mm_X_same (41, [some (.ref x), some (.int z0), some (.int z1), some (.ref z2), some (.ref v), some (.int (nI i))], []) S P := by
  intro c
  induction c using Nat.strongRecOn with
  | ind c ih =>
    intro i hi hI
    refine am_iload d_X_same_41 rfl ?_
    refine am_aload d_X_same_43 rfl ?_
    refine am_get d_X_same_45 fl_X_139 hv rfl ?_
    refine am_icge (tgt := 86) d_X_same_48 (by decide) (fun hc => ?_) (fun hc => ?_)
    · have hk0 : N ≤ i := (nI_leI (by omega) (by omega)).mp hc
      refine am_iconst 1 d_X_same_86 (by decide) ?_
      exact am_zret d_X_same_87 rfl rfl (h1 (fun t ht => hI t (by omega)))
    · have hlt : i < N := Nat.lt_of_not_le (fun q => hc (nI_le q (by omega)))
      have hin := hR i hlt
      refine am_aloadn d_X_same_51 rfl ?_
      refine am_get d_X_same_52 fl_X_25 hx rfl ?_
      refine am_iload d_X_same_55 rfl ?_
      refine am_laldN (t := 1) (k := i) d_X_same_57 rfl hn (by omega) (by omega) ?_
      refine am_tl (b := nu i) (hNu i hlt) ?_
      refine am_aload d_X_same_58 rfl ?_
      refine am_get d_X_same_60 fl_X_129 hv rfl ?_
      refine am_get d_X_same_63 fl_X_176 hst rfl ?_
      refine am_aloadn d_X_same_66 rfl ?_
      refine am_get d_X_same_67 fl_X_21 hx rfl ?_
      refine am_iload d_X_same_70 rfl ?_
      refine am_ialdN (t := 0) (k := i) d_X_same_72 rfl hp (by omega) (by omega) ?_
      refine am_ti (b := G i) (hG i hlt) ?_
      refine am_lald (t := 1) d_X_same_73 rfl hrw hin ?_
      refine am_lcmp d_X_same_74 ?_
      refine am_ifeq (tgt := 80) d_X_same_75 (by decide) (fun hz => ?_) (fun hz => ?_)
      · have hq : nu i = fr (G i).toNatClampNeg := sv_lce.mp hz
        refine am_iinc (v := nI (i + 1)) (L' := [some (.ref x), some (.int z0), some (.int z1), some (.ref z2), some (.ref v), some (.int (nI (i + 1)))]) d_X_same_80 rfl (nI_1 i) (by decide) rfl rfl ?_
        refine am_goto (tgt := 41) d_X_same_83 (by decide) ?_
        exact ih (c - 1) (by omega) (i + 1) (by omega) (fun t ht => (Nat.lt_or_ge t i).elim (hI t) (fun z => (show t = i by omega) ▸ hq))
      · have hq : ¬ nu i = fr (G i).toNatClampNeg := fun q => hz (sv_lce.mpr q)
        refine am_iconst 0 d_X_same_78 (by decide) ?_
        exact am_zret d_X_same_79 rfl rfl (h0 (fun q => hq (q i hlt)))
set_option maxHeartbeats 4000000 in
set_option maxRecDepth 100000 in
/-- act, the loop -/
theorem c_act_l {g : am_G} {d : Nat} {S : am_S} {x B1 B2 B3 B4 B5 : Nat} {ns nv : Int32} (hx0 : S.1 x = some (.inr (2, [.ref B1, .ref B2, .int ns, .int nv, .ref B3, .ref B4, .ref B5]))) {v st3 ex sp : Nat} {sa xs : Int32} {N : Nat} (hv0 : S.1 v = some (.inr (1, [.ref st3, .int sa, .int xs, .int (nI N), .ref ex, .ref sp]))) (hN3 : N ≤ 3000) {Fp G : Nat → Int32} (hp0 : S.1 B3 = some (.inl (0, 3000, .inl Fp))) (hG : ∀ t, t < N → Fp t = G t) {st : Nat} {num ln vo : Int32} {rw R : Nat} {fr : Nat → Int64} (hst : S.1 st = some (.inr (0, [.int num, .int ln, .ref rw, .int vo]))) (hrw : S.1 rw = some (.inl (1, R, .inr (.inl fr)))) {w ex2 sp2 : Nat} {sa2 xs2 it2 : Int32} (hw0 : S.1 w = some (.inr (1, [.ref st, .int sa2, .int xs2, .int it2, .ref ex2, .ref sp2]))) {Fn0 nu : Nat → Int64} (hn0 : S.1 B4 = some (.inl (1, 3000, .inr (.inl Fn0)))) (hR : ∀ t, t < N → vp_in (G t) R) (hrB : rw ≠ B4) {t0 z0 z1 z2 : Int32} {z3 : Nat} {P : am_O → am_S → Prop} (hK : ∀ (S1 : am_S) (Fn : Nat → Int64), S1.1 B4 = some (.inl (1, 3000, .inr (.inl Fn))) → sv_f1 S S1 B4 → (∀ t, t < N → Fn t = sv_act t0 (nu t) (fr (G t).toNatClampNeg)) → ∀ z8 : Int32, am_W g (d + 1) mm_X_act (129, [some (.ref x), some (.int t0), some (.int z0), some (.int z1), some (.int z2), some (.ref z3), some (.ref w), some (.ref v), some (.int z8)], []) S1 P) : ∀ (c i : Nat), i + c = N → ∀ (S0 : am_S) (Fn : Nat → Int64), S0.1 B4 = some (.inl (1, 3000, .inr (.inl Fn))) → sv_f1 S S0 B4 → (∀ t, t < N → Fn t = if t < i then sv_act t0 (nu t) (fr (G t).toNatClampNeg) else nu t) → am_W g (d + 1) mm_X_act (79, [some (.ref x), some (.int t0), some (.int z0), some (.int z1), some (.int z2), some (.ref z3), some (.ref w), some (.ref v), some (.int (nI i))], []) S0 P := by
  intro c
  induction c using Nat.strongRecOn with
  | ind c ih =>
    intro i hi S0 Fn hn hfr hI
    have hx := (hfr.2 x (am_nd hx0 hn0 (by simp [am_kd]))).trans hx0
    have hv := (hfr.2 v (am_nd hv0 hn0 (by simp [am_kd]))).trans hv0
    have hw := (hfr.2 w (am_nd hw0 hn0 (by simp [am_kd]))).trans hw0
    have hp := (hfr.2 B3 (am_nd hp0 hn0 (by simp [am_kd]))).trans hp0
    have hs0 := (hfr.2 st (am_nd hst hn0 (by simp [am_kd]))).trans hst
    have hr0 := (hfr.2 rw hrB).trans hrw
    refine am_iload d_X_act_79 rfl ?_
    refine am_aload d_X_act_81 rfl ?_
    refine am_get d_X_act_83 fl_X_139 hv rfl ?_
    refine am_icge (tgt := 129) d_X_act_86 (by decide) (fun hc => ?_) (fun hc => ?_)
    · have hk0 : N ≤ i := (nI_leI (by omega) (by omega)).mp hc
      exact hK S0 Fn hn hfr (fun t ht => by rw [hI t ht, if_pos (by omega)]) (nI i)
    · have hlt : i < N := Nat.lt_of_not_le (fun q => hc (nI_le q (by omega)))
      have hin := hR i hlt
      refine am_aloadn d_X_act_89 rfl ?_
      refine am_get d_X_act_90 fl_X_25 hx rfl ?_
      refine am_iload d_X_act_93 rfl ?_
      refine am_iloadn d_X_act_95 rfl ?_
      refine am_aloadn d_X_act_96 rfl ?_
      refine am_get d_X_act_97 fl_X_25 hx rfl ?_
      refine am_iload d_X_act_100 rfl ?_
      refine am_laldN (t := 1) (k := i) d_X_act_102 rfl hn (by omega) (by omega) ?_
      refine am_tl (b := nu i) ((hI i hlt).trans (if_neg (by omega))) ?_
      refine am_aload d_X_act_103 rfl ?_
      refine am_get d_X_act_105 fl_X_129 hw rfl ?_
      refine am_get d_X_act_108 fl_X_176 hs0 rfl ?_
      refine am_aloadn d_X_act_111 rfl ?_
      refine am_get d_X_act_112 fl_X_21 hx rfl ?_
      refine am_iload d_X_act_115 rfl ?_
      refine am_ialdN (t := 0) (k := i) d_X_act_117 rfl hp (by omega) (by omega) ?_
      refine am_ti (b := G i) (hG i hlt) ?_
      refine am_lald (t := 1) d_X_act_118 rfl hr0 hin ?_
      refine am_cpsS [.int t0, .long (nu i), .long (fr (G i).toNatClampNeg)] [.int (nI i), .ref B4] d_X_act_119 cS_X_195 rfl rfl rfl (Nat.le_of_ble_eq_true rfl) (Nat.le_of_ble_eq_true rfl) (c_reckon t0 (nu i) (fr (G i).toNatClampNeg) ?_)
      show am_W g (d + 1) mm_X_act (122, [some (.ref x), some (.int t0), some (.int z0), some (.int z1), some (.int z2), some (.ref z3), some (.ref w), some (.ref v), some (.int (nI i))], [.long (sv_act t0 (nu i) (fr (G i).toNatClampNeg)), .int (nI i), .ref B4]) S0 _
      refine am_lastN (t := 1) d_X_act_122 rfl hn (by omega) (by omega) ?_
      obtain ⟨S_1, eS_1⟩ : ∃ z : am_S, z = (am_up S0.1 B4 (.inl (1, 3000, .inr (.inl (vp_updL Fn i (sv_act t0 (nu i) (fr (G i).toNatClampNeg)))))), S0.2) := ⟨_, rfl⟩
      change am_W _ _ _ _ (am_up S0.1 B4 (.inl (1, 3000, .inr (.inl (vp_updL Fn i (sv_act t0 (nu i) (fr (G i).toNatClampNeg)))))), S0.2) _
      rw [← eS_1]
      have h_2 : S_1.1 x = some (.inr (2, [.ref B1, .ref B2, .int ns, .int nv, .ref B3, .ref B4, .ref B5])) := by rw [eS_1]; exact (am_up_n (am_nd hx hn (by simp [am_kd]))).trans hx
      have h_3 : S_1.1 v = some (.inr (1, [.ref st3, .int sa, .int xs, .int (nI N), .ref ex, .ref sp])) := by rw [eS_1]; exact (am_up_n (am_nd hv hn (by simp [am_kd]))).trans hv
      have h_4 : S_1.1 w = some (.inr (1, [.ref st, .int sa2, .int xs2, .int it2, .ref ex2, .ref sp2])) := by rw [eS_1]; exact (am_up_n (am_nd hw hn (by simp [am_kd]))).trans hw
      have h_5 : S_1.1 B3 = some (.inl (0, 3000, .inl Fp)) := by rw [eS_1]; exact (am_up_n (am_nd hp hn (by simp [am_kd]))).trans hp
      have h_6 : S_1.1 st = some (.inr (0, [.int num, .int ln, .ref rw, .int vo])) := by rw [eS_1]; exact (am_up_n (am_nd hs0 hn (by simp [am_kd]))).trans hs0
      have h_7 : S_1.1 rw = some (.inl (1, R, .inr (.inl fr))) := by rw [eS_1]; exact (am_up_n hrB).trans hr0
      have hf_8 : sv_f1 S S_1 B4 := by rw [eS_1]; exact hfr.u
      have h_9 : S_1.1 B4 = some (.inl (1, 3000, .inr (.inl (vp_updL Fn i (sv_act t0 (nu i) (fr (G i).toNatClampNeg)))))) := by rw [eS_1]; exact am_up_s
      have hnS_1 : S_1.2.1 = S0.2.1 := by rw [eS_1]
      have hzS_1 : S_1.2.2 = S0.2.2 := by rw [eS_1]
      refine am_iinc (v := nI (i + 1)) (L' := [some (.ref x), some (.int t0), some (.int z0), some (.int z1), some (.int z2), some (.ref z3), some (.ref w), some (.ref v), some (.int (nI (i + 1)))]) d_X_act_123 rfl (nI_1 i) (by decide) rfl rfl ?_
      refine am_goto (tgt := 79) d_X_act_126 (by decide) ?_
      refine ih (c - 1) (by omega) (i + 1) (by omega) _ _ h_9 hf_8 (fun t ht => ?_)
      by_cases hti : t = i
      · subst hti
        rw [if_pos (by omega)]
        exact pk_uLs
      · rw [show (vp_updL Fn i (sv_act t0 (nu i) (fr (G i).toNatClampNeg))) t = Fn t from pk_uLn hti, hI t ht]
        exact sv_ifc (by omega)
set_option maxHeartbeats 4000000 in
set_option maxRecDepth 100000 in
/-- shared, what lies there -/
theorem c_shared_1 {g : am_G} {d : Nat} {S : am_S} {x B1 B2 B3 B4 B5 : Nat} {ns nv : Int32} (hx0 : S.1 x = some (.inr (2, [.ref B1, .ref B2, .int ns, .int nv, .ref B3, .ref B4, .ref B5]))) {v st ex sp : Nat} {sa xs : Int32} {N : Nat} (hv0 : S.1 v = some (.inr (1, [.ref st, .int sa, .int xs, .int (nI N), .ref ex, .ref sp]))) (hN3 : N ≤ 3000) {Fp G : Nat → Int32} (hp0 : S.1 B3 = some (.inl (0, 3000, .inl Fp))) (hG : ∀ t, t < N → Fp t = G t) {Fm0 : Nat → Int32} (hm0 : S.1 B5 = some (.inl (2, 300, .inl Fm0))) (hR : ∀ t, t < N → vp_in (G t) 300) {z0 z1 : Int32} {w : Nat} {P : am_O → am_S → Prop} (hK : ∀ (S1 : am_S) (Fm : Nat → Int32), S1.1 B5 = some (.inl (2, 300, .inl Fm)) → sv_f1 S S1 B5 → (∀ t, t < 300 → Fm t = sv_mk (fun i => (G i).toNatClampNeg) N t) → ∀ z8 : Int32, am_W g d mm_X_shared (68, [some (.ref x), some (.int z0), some (.int z1), some (.ref v), some (.ref w), some (.int z8), none], []) S1 P) : ∀ (c i : Nat), i + c = N → ∀ (S0 : am_S) (Fm : Nat → Int32), S0.1 B5 = some (.inl (2, 300, .inl Fm)) → sv_f1 S S0 B5 → (∀ t, t < 300 → Fm t = sv_mk (fun i => (G i).toNatClampNeg) i t) → am_W g d mm_X_shared (40, [some (.ref x), some (.int z0), some (.int z1), some (.ref v), some (.ref w), some (.int (nI i)), none], []) S0 P := by
  intro c
  induction c using Nat.strongRecOn with
  | ind c ih =>
    intro i hi S0 Fm hm hfr hI
    have hx := (hfr.2 x (am_nd hx0 hm0 (by simp [am_kd]))).trans hx0
    have hv := (hfr.2 v (am_nd hv0 hm0 (by simp [am_kd]))).trans hv0
    have hp := (hfr.2 B3 (am_nd hp0 hm0 (by simp [am_kd]))).trans hp0
    refine am_iload d_X_shared_40 rfl ?_
    refine am_aloadn d_X_shared_42 rfl ?_
    refine am_get d_X_shared_43 fl_X_139 hv rfl ?_
    refine am_icge (tgt := 68) d_X_shared_46 (by decide) (fun hc => ?_) (fun hc => ?_)
    · have hk0 : N ≤ i := (nI_leI (by omega) (by omega)).mp hc
      obtain rfl : N = i := by omega
      exact hK S0 Fm hm hfr hI (nI N)
    · have hlt : i < N := Nat.lt_of_not_le (fun q => hc (nI_le q (by omega)))
      have hin := hR i hlt
      refine am_aloadn d_X_shared_49 rfl ?_
      refine am_get d_X_shared_50 fl_X_29 hx rfl ?_
      refine am_aloadn d_X_shared_53 rfl ?_
      refine am_get d_X_shared_54 fl_X_21 hx rfl ?_
      refine am_iload d_X_shared_57 rfl ?_
      refine am_ialdN (t := 0) (k := i) d_X_shared_59 rfl hp (by omega) (by omega) ?_
      refine am_ti (b := G i) (hG i hlt) ?_
      refine am_iconst 1 d_X_shared_60 (by decide) ?_
      refine am_zast (t := 2) d_X_shared_61 rfl hm hin ?_
      obtain ⟨S_1, eS_1⟩ : ∃ z : am_S, z = (am_up S0.1 B5 (.inl (2, 300, .inl (upd Fm (G i).toNatClampNeg (vp_nar .boolean 1)))), S0.2) := ⟨_, rfl⟩
      change am_W _ _ _ _ (am_up S0.1 B5 (.inl (2, 300, .inl (upd Fm (G i).toNatClampNeg (vp_nar .boolean 1)))), S0.2) _
      rw [← eS_1]
      have h_2 : S_1.1 x = some (.inr (2, [.ref B1, .ref B2, .int ns, .int nv, .ref B3, .ref B4, .ref B5])) := by rw [eS_1]; exact (am_up_n (am_nd hx hm (by simp [am_kd]))).trans hx
      have h_3 : S_1.1 v = some (.inr (1, [.ref st, .int sa, .int xs, .int (nI N), .ref ex, .ref sp])) := by rw [eS_1]; exact (am_up_n (am_nd hv hm (by simp [am_kd]))).trans hv
      have h_4 : S_1.1 B3 = some (.inl (0, 3000, .inl Fp)) := by rw [eS_1]; exact (am_up_n (am_nd hp hm (by simp [am_kd]))).trans hp
      have hf_5 : sv_f1 S S_1 B5 := by rw [eS_1]; exact hfr.u
      have h_6 : S_1.1 B5 = some (.inl (2, 300, .inl (upd Fm (G i).toNatClampNeg (vp_nar .boolean 1)))) := by rw [eS_1]; exact am_up_s
      have hnS_1 : S_1.2.1 = S0.2.1 := by rw [eS_1]
      have hzS_1 : S_1.2.2 = S0.2.2 := by rw [eS_1]
      refine am_iinc (v := nI (i + 1)) (L' := [some (.ref x), some (.int z0), some (.int z1), some (.ref v), some (.ref w), some (.int (nI (i + 1))), none]) d_X_shared_62 rfl (nI_1 i) (by decide) rfl rfl ?_
      refine am_goto (tgt := 40) d_X_shared_65 (by decide) ?_
      refine ih (c - 1) (by omega) (i + 1) (by omega) _ _ h_6 hf_5 (fun t ht => ?_)
      show upd Fm (G i).toNatClampNeg (vp_nar .boolean 1) t = upd (sv_mk (fun i => (G i).toNatClampNeg) i) (G i).toNatClampNeg 1 t
      by_cases hti : t = (G i).toNatClampNeg
      · subst hti
        rw [pk_us, pk_us]
        rfl
      · rw [pk_un hti, pk_un hti]
        exact hI t ht
set_option maxHeartbeats 4000000 in
set_option maxRecDepth 100000 in
/-- shared, what is met -/
theorem c_shared_2 {g : am_G} {d : Nat} {S : am_S} {x B1 B2 B3 B4 B5 : Nat} {ns nv : Int32} (hx0 : S.1 x = some (.inr (2, [.ref B1, .ref B2, .int ns, .int nv, .ref B3, .ref B4, .ref B5]))) {v st ex sp : Nat} {sa xs : Int32} {N : Nat} (hv0 : S.1 v = some (.inr (1, [.ref st, .int sa, .int xs, .int (nI N), .ref ex, .ref sp]))) (hN3 : N ≤ 3000) {Fp G : Nat → Int32} (hp0 : S.1 B3 = some (.inl (0, 3000, .inl Fp))) (hG : ∀ t, t < N → Fp t = G t) {Fm0 m0 : Nat → Int32} (hm0 : S.1 B5 = some (.inl (2, 300, .inl Fm0))) (hR : ∀ t, t < N → vp_in (G t) 300) {z0 z1 : Int32} {w : Nat} {P : am_O → am_S → Prop} (hK : ∀ (S1 : am_S) (Fm : Nat → Int32), S1.1 B5 = some (.inl (2, 300, .inl Fm)) → sv_f1 S S1 B5 → P (.inl (some (.int (nI (sv_mt m0 (fun i => (G i).toNatClampNeg) N).2)))) S1) : ∀ (c i : Nat), i + c = N → ∀ (S0 : am_S) (Fm : Nat → Int32), S0.1 B5 = some (.inl (2, 300, .inl Fm)) → sv_f1 S S0 B5 → (∀ t, t < 300 → Fm t = (sv_mt m0 (fun i => (G i).toNatClampNeg) i).1 t) → am_W g d mm_X_shared (82, [some (.ref x), some (.int z0), some (.int z1), some (.ref w), some (.ref v), some (.int (nI (sv_mt m0 (fun i => (G i).toNatClampNeg) i).2)), some (.int (nI i))], []) S0 P := by
  intro c
  induction c using Nat.strongRecOn with
  | ind c ih =>
    intro i hi S0 Fm hm hfr hI
    have hx := (hfr.2 x (am_nd hx0 hm0 (by simp [am_kd]))).trans hx0
    have hv := (hfr.2 v (am_nd hv0 hm0 (by simp [am_kd]))).trans hv0
    have hp := (hfr.2 B3 (am_nd hp0 hm0 (by simp [am_kd]))).trans hp0
    refine am_iload d_X_shared_82 rfl ?_
    refine am_aload d_X_shared_84 rfl ?_
    refine am_get d_X_shared_86 fl_X_139 hv rfl ?_
    refine am_icge (tgt := 129) d_X_shared_89 (by decide) (fun hc => ?_) (fun hc => ?_)
    · have hk0 : N ≤ i := (nI_leI (by omega) (by omega)).mp hc
      obtain rfl : N = i := by omega
      refine am_iload d_X_shared_129 rfl ?_
      exact am_iret d_X_shared_131 rfl (hK S0 Fm hm hfr)
    · have hlt : i < N := Nat.lt_of_not_le (fun q => hc (nI_le q (by omega)))
      have hin := hR i hlt
      have hle := sv_mt_le m0 (fun i => (G i).toNatClampNeg) i
      refine am_aloadn d_X_shared_92 rfl ?_
      refine am_get d_X_shared_93 fl_X_29 hx rfl ?_
      refine am_aloadn d_X_shared_96 rfl ?_
      refine am_get d_X_shared_97 fl_X_21 hx rfl ?_
      refine am_iload d_X_shared_100 rfl ?_
      refine am_ialdN (t := 0) (k := i) d_X_shared_102 rfl hp (by omega) (by omega) ?_
      refine am_ti (b := G i) (hG i hlt) ?_
      refine am_zald (t := 2) d_X_shared_103 rfl hm hin ?_
      refine am_ti (b := (sv_mt m0 (fun i => (G i).toNatClampNeg) i).1 (G i).toNatClampNeg) (hI _ (vp_in_lt hin)) ?_
      refine am_ifeq (tgt := 123) d_X_shared_104 (by decide) (fun hz => ?_) (fun hz => ?_)
      · refine am_iinc (v := nI (i + 1)) (L' := [some (.ref x), some (.int z0), some (.int z1), some (.ref w), some (.ref v), some (.int (nI (sv_mt m0 (fun i => (G i).toNatClampNeg) i).2)), some (.int (nI (i + 1)))]) d_X_shared_123 rfl (nI_1 i) (by decide) rfl rfl ?_
        refine am_goto (tgt := 82) d_X_shared_126 (by decide) ?_
        rw [show (sv_mt m0 (fun i => (G i).toNatClampNeg) i).2 = (sv_mt m0 (fun i => (G i).toNatClampNeg) (i + 1)).2 from by simp only [sv_mt]; rw [if_pos hz]]
        refine ih (c - 1) (by omega) (i + 1) (by omega) _ _ hm hfr (fun t ht => ?_)
        show Fm t = upd (sv_mt m0 (fun i => (G i).toNatClampNeg) i).1 (G i).toNatClampNeg 0 t
        by_cases hti : t = (G i).toNatClampNeg
        · subst hti
          rw [pk_us, hI _ ht]
          exact hz
        · rw [pk_un hti]
          exact hI t ht
      · refine am_iinc (v := nI ((sv_mt m0 (fun i => (G i).toNatClampNeg) i).2 + 1)) (L' := [some (.ref x), some (.int z0), some (.int z1), some (.ref w), some (.ref v), some (.int (nI ((sv_mt m0 (fun i => (G i).toNatClampNeg) i).2 + 1))), some (.int (nI i))]) d_X_shared_107 rfl (nI_1 _) (by decide) rfl rfl ?_
        refine am_aloadn d_X_shared_110 rfl ?_
        refine am_get d_X_shared_111 fl_X_29 hx rfl ?_
        refine am_aloadn d_X_shared_114 rfl ?_
        refine am_get d_X_shared_115 fl_X_21 hx rfl ?_
        refine am_iload d_X_shared_118 rfl ?_
        refine am_ialdN (t := 0) (k := i) d_X_shared_120 rfl hp (by omega) (by omega) ?_
        refine am_ti (b := G i) (hG i hlt) ?_
        refine am_iconst 0 d_X_shared_121 (by decide) ?_
        refine am_zast (t := 2) d_X_shared_122 rfl hm hin ?_
        obtain ⟨S_1, eS_1⟩ : ∃ z : am_S, z = (am_up S0.1 B5 (.inl (2, 300, .inl (upd Fm (G i).toNatClampNeg (vp_nar .boolean 0)))), S0.2) := ⟨_, rfl⟩
        change am_W _ _ _ _ (am_up S0.1 B5 (.inl (2, 300, .inl (upd Fm (G i).toNatClampNeg (vp_nar .boolean 0)))), S0.2) _
        rw [← eS_1]
        have h_2 : S_1.1 x = some (.inr (2, [.ref B1, .ref B2, .int ns, .int nv, .ref B3, .ref B4, .ref B5])) := by rw [eS_1]; exact (am_up_n (am_nd hx hm (by simp [am_kd]))).trans hx
        have h_3 : S_1.1 v = some (.inr (1, [.ref st, .int sa, .int xs, .int (nI N), .ref ex, .ref sp])) := by rw [eS_1]; exact (am_up_n (am_nd hv hm (by simp [am_kd]))).trans hv
        have h_4 : S_1.1 B3 = some (.inl (0, 3000, .inl Fp)) := by rw [eS_1]; exact (am_up_n (am_nd hp hm (by simp [am_kd]))).trans hp
        have hf_5 : sv_f1 S S_1 B5 := by rw [eS_1]; exact hfr.u
        have h_6 : S_1.1 B5 = some (.inl (2, 300, .inl (upd Fm (G i).toNatClampNeg (vp_nar .boolean 0)))) := by rw [eS_1]; exact am_up_s
        have hnS_1 : S_1.2.1 = S0.2.1 := by rw [eS_1]
        have hzS_1 : S_1.2.2 = S0.2.2 := by rw [eS_1]
        refine am_iinc (v := nI (i + 1)) (L' := [some (.ref x), some (.int z0), some (.int z1), some (.ref w), some (.ref v), some (.int (nI ((sv_mt m0 (fun i => (G i).toNatClampNeg) i).2 + 1))), some (.int (nI (i + 1)))]) d_X_shared_123 rfl (nI_1 i) (by decide) rfl rfl ?_
        refine am_goto (tgt := 82) d_X_shared_126 (by decide) ?_
        rw [show (sv_mt m0 (fun i => (G i).toNatClampNeg) i).2 + 1 = (sv_mt m0 (fun i => (G i).toNatClampNeg) (i + 1)).2 from by simp only [sv_mt]; rw [if_neg hz]]
        refine ih (c - 1) (by omega) (i + 1) (by omega) _ _ h_6 hf_5 (fun t ht => ?_)
        show upd Fm (G i).toNatClampNeg (vp_nar .boolean 0) t = upd (sv_mt m0 (fun i => (G i).toNatClampNeg) i).1 (G i).toNatClampNeg 0 t
        by_cases hti : t = (G i).toNatClampNeg
        · subst hti
          rw [pk_us, pk_us]
          rfl
        · rw [pk_un hti, pk_un hti]
          exact hI t ht
