/-! the reference: copy, act -/
theorem sv_setS_setS {T : sv_T} {s : Nat} {X Y : Nat → Int64} : (T.setS s X).setS s Y = T.setS s Y := by
  have e : (fun i => if i = s then Y else (if i = s then X else T.nu i)) = (fun i => if i = s then Y else T.nu i) := by
    funext i
    split
    · rfl
    · rfl
  show (T.ns, T.ln, T.sz, (fun i => if i = s then Y else (if i = s then X else T.nu i)), T.nv, T.vw) = _
  rw [e]
  rfl
theorem sv_setS_self {T : sv_T} {s : Nat} : T.setS s (T.nu s) = T := by
  have e : (fun i => if i = s then T.nu s else T.nu i) = T.nu := by
    funext i
    split
    · rename_i h; rw [h]
    · rfl
  show (T.ns, T.ln, T.sz, (fun i => if i = s then T.nu s else T.nu i), T.nv, T.vw) = _
  rw [e]
theorem sv_setS_at {T : sv_T} {a : sv_A} {X : Nat → Int64} {i : Nat} : (T.setS a.st X).at a i = X (a.pl i).toNatClampNeg := by
  show (if a.st = a.st then X else T.nu a.st) _ = _
  rw [if_pos rfl]
theorem sv_q2 {T : sv_T} {v w : Int32} {f : sv_A → sv_A → sv_Q} (h : sv_iv T v ∧ sv_iv T w) : sv_qv T v (fun a => sv_qv T w (f a)) = f (T.va v) (T.va w) := by
  unfold sv_qv
  rw [if_pos h.1]
  dsimp only
  rw [if_pos h.2]
theorem q_copy_5 {T : sv_T} {v w : Int32} (h : sv_iv T v ∧ sv_iv T w) (h2 : ¬ (T.va v).go (T.va w)) : q_copy T v w = (5, .null, T) := by
  rw [q_copy, sv_q2 h, sv_if_n h2]
theorem q_copy_6 {T : sv_T} {v w : Int32} (h : (sv_iv T v ∧ sv_iv T w) ∧ (T.va v).go (T.va w)) (h2 : (T.va w).fx) : q_copy T v w = (6, .null, T) := by
  rw [q_copy, sv_q2 h.1, sv_if_y h.2, sv_if_y h2]
theorem q_copy_0 {T : sv_T} {v w : Int32} (h : (sv_iv T v ∧ sv_iv T w) ∧ (T.va v).go (T.va w)) (h2 : ¬ (T.va w).fx) : q_copy T v w = T.wr (T.va w) (T.gn (T.va v) (T.va w)) := by
  rw [q_copy, sv_q2 h.1, sv_if_y h.2, sv_if_n h2]
theorem sv_le4 {v : Int32} : v ≤ 4 ↔ ¬ 5 ≤ v := by
  rw [Int32.le_iff_toInt_le, Int32.le_iff_toInt_le]
  have e3 : (4 : Int32).toInt = 4 := rfl
  have e4 : (5 : Int32).toInt = 5 := rfl
  omega
theorem sv_q3 {T : sv_T} {v u w : Int32} {f : sv_A → sv_A → sv_A → sv_Q} (h : sv_iv T v ∧ sv_iv T u ∧ sv_iv T w) : sv_qv T v (fun a => sv_qv T u fun b => sv_qv T w (f a b)) = f (T.va v) (T.va u) (T.va w) := by
  unfold sv_qv
  rw [if_pos h.1]
  dsimp only
  rw [if_pos h.2.1, if_pos h.2.2]
theorem q_act_4 {T : sv_T} {t0 v u w : Int32} (h : ¬ (sv_iv T v ∧ sv_iv T u ∧ sv_iv T w)) : q_act T t0 v u w = (4, .null, T) := by
  unfold q_act
  by_cases h1 : sv_iv T v
  · rw [sv_qv, if_pos h1]
    exact q_two_no (fun q => h ⟨h1, q⟩)
  · exact sv_qv_no h1
theorem q_act_5 {T : sv_T} {t0 v u w : Int32} (h : sv_iv T v ∧ sv_iv T u ∧ sv_iv T w) (h2 : ¬ ((0 ≤ t0 ∧ t0 ≤ 4) ∧ (T.va v).go (T.va w) ∧ (T.va u).go (T.va w))) : q_act T t0 v u w = (5, .null, T) := by
  rw [q_act, sv_q3 h, sv_if_n h2]
theorem q_act_6 {T : sv_T} {t0 v u w : Int32} (h : (sv_iv T v ∧ sv_iv T u ∧ sv_iv T w) ∧ 0 ≤ t0 ∧ t0 ≤ 4 ∧ (T.va v).go (T.va w) ∧ (T.va u).go (T.va w)) (h2 : (T.va w).fx) : q_act T t0 v u w = (6, .null, T) := by
  rw [q_act, sv_q3 h.1, sv_if_y ⟨⟨h.2.1, h.2.2.1⟩, h.2.2.2⟩, sv_if_y h2]
theorem q_act_0 {T : sv_T} {t0 v u w : Int32} (h : (sv_iv T v ∧ sv_iv T u ∧ sv_iv T w) ∧ 0 ≤ t0 ∧ t0 ≤ 4 ∧ (T.va v).go (T.va w) ∧ (T.va u).go (T.va w)) (h2 : ¬ (T.va w).fx) : q_act T t0 v u w = T.wr (T.va w) (fun i => sv_act t0 (T.gn (T.va v) (T.va w) i) (T.gn (T.va u) (T.va w) i)) := by
  rw [q_act, sv_q3 h.1, sv_if_y ⟨⟨h.2.1, h.2.2.1⟩, h.2.2.2⟩, sv_if_n h2]
set_option maxHeartbeats 4000000 in
set_option maxRecDepth 100000 in
/-- putAll, the loop -/
theorem m_putAll_l {g : am_G} {d : Nat} {S : am_S} {T : sv_T} {th : Int32} {na : Nat} {ne nw rd : Nat → Int64} {mt : Nat → Int32} {l : Nat} (hl : l < T.nv) {P : am_O → am_S → Prop} (hP : ∀ S1 : am_S, sv_N g S1.1 (T.setS (T.vw l).st (sv_wr (T.ln (T.vw l).st) (T.vw l).pl rd (T.nu (T.vw l).st) ((T.vw l).it)).1) th na ne nw rd mt → sv_MF g S S1 → P (.inl (some (.int (nI (sv_wr (T.ln (T.vw l).st) (T.vw l).pl rd (T.nu (T.vw l).st) ((T.vw l).it)).2)))) S1) : ∀ (c i : Nat), i + c = (T.vw l).it → ∀ S0 : am_S, sv_N g S0.1 (T.setS (T.vw l).st (sv_wr (T.ln (T.vw l).st) (T.vw l).pl rd (T.nu (T.vw l).st) i).1) th na ne nw rd mt → sv_MF g S S0 → am_W g (d + 3) mm_M_putAll (11, [some (.ref (g.2.2.1 + 6)), some (.int (nI l)), some (.int (nI (sv_wr (T.ln (T.vw l).st) (T.vw l).pl rd (T.nu (T.vw l).st) i).2)), some (.int (nI (T.vw l).it)), some (.int (nI i)), none, none], []) S0 P := by
  intro c
  induction c using Nat.strongRecOn with
  | ind c ih =>
    intro i hi S0 hN hfr
    obtain ⟨fl, fz, fN, fS, fa, fx, fe, fs, ⟨m0, m1, m2, m3, m4, m5, m6, m7, m8, m9, m10, m11, m12⟩, ⟨t1, t2, t3⟩, hw⟩ := id hN
    have h80 := hw.2.1
    obtain ⟨w1, w2, w3, w4, w5, w6, w7⟩ := hw.2.2.2 l hl
    have w4 : (T.vw l).it ≤ 3000 := w4
    refine am_iload d_M_putAll_11 rfl ?_
    refine am_iloadn d_M_putAll_13 rfl ?_
    refine am_icge (tgt := 67) d_M_putAll_14 (by decide) (fun hc => ?_) (fun hc => ?_)
    · have hk0 : (T.vw l).it ≤ i := (nI_leI (by omega) (by omega)).mp hc
      obtain rfl : i = (T.vw l).it := by omega
      refine am_iloadn d_M_putAll_67 rfl ?_
      exact am_iret d_M_putAll_68 rfl (hP S0 hN hfr)
    · have hlt : i < (T.vw l).it := Nat.lt_of_not_le (fun q => hc (nI_le q (by omega)))
      have hle := sv_wr_le (T.ln (T.vw l).st) (T.vw l).pl rd (T.nu (T.vw l).st) i
      refine am_aloadn d_M_putAll_17 rfl ?_
      refine am_iloadn d_M_putAll_18 rfl ?_
      refine am_iload d_M_putAll_19 rfl ?_
      refine am_cpsV [.int (nI l), .int (nI i)] [] d_M_putAll_21 cV_M_128 rfl m0 rfl rfl (Nat.le_of_ble_eq_true rfl) (Nat.le_of_ble_eq_true rfl) (m_item (T := (T.setS (T.vw l).st (sv_wr (T.ln (T.vw l).st) (T.vw l).pl rd (T.nu (T.vw l).st) i).1)) (j := l) hN hl (i := i) hlt ?_)
      show am_W g (d + 3) mm_M_putAll (24, [some (.ref (g.2.2.1 + 6)), some (.int (nI l)), some (.int (nI (sv_wr (T.ln (T.vw l).st) (T.vw l).pl rd (T.nu (T.vw l).st) i).2)), some (.int (nI (T.vw l).it)), some (.int (nI i)), none, none], [.long ((T.setS (T.vw l).st (sv_wr (T.ln (T.vw l).st) (T.vw l).pl rd (T.nu (T.vw l).st) i).1).at (T.vw l) i)]) S0 _
      rw [sv_setS_at]
      show am_W g (d + 3) mm_M_putAll (24, [some (.ref (g.2.2.1 + 6)), some (.int (nI l)), some (.int (nI (sv_wr (T.ln (T.vw l).st) (T.vw l).pl rd (T.nu (T.vw l).st) i).2)), some (.int (nI (T.vw l).it)), some (.int (nI i)), none, none], [.long ((sv_wr (T.ln (T.vw l).st) (T.vw l).pl rd (T.nu (T.vw l).st) i).1 ((T.vw l).pl i).toNatClampNeg)]) S0 _
      refine am_lstore (L' := [some (.ref (g.2.2.1 + 6)), some (.int (nI l)), some (.int (nI (sv_wr (T.ln (T.vw l).st) (T.vw l).pl rd (T.nu (T.vw l).st) i).2)), some (.int (nI (T.vw l).it)), some (.int (nI i)), some (.long ((sv_wr (T.ln (T.vw l).st) (T.vw l).pl rd (T.nu (T.vw l).st) i).1 ((T.vw l).pl i).toNatClampNeg)), none]) d_M_putAll_24 (by decide) rfl rfl ?_
      refine am_aloadn d_M_putAll_26 rfl ?_
      refine am_iloadn d_M_putAll_27 rfl ?_
      refine am_iload d_M_putAll_28 rfl ?_
      refine am_aloadn d_M_putAll_30 rfl ?_
      refine am_get d_M_putAll_31 fl_M_41 m0 rfl ?_
      refine am_iload d_M_putAll_34 rfl ?_
      refine am_laldN (t := 1) (k := i) d_M_putAll_36 rfl m11 (by omega) (by omega) ?_
      refine am_cpsV [.int (nI l), .int (nI i), .long (rd i)] [] d_M_putAll_37 cV_M_138 rfl m0 rfl rfl (Nat.le_of_ble_eq_true rfl) (Nat.le_of_ble_eq_true rfl) (m_setItem (T := (T.setS (T.vw l).st (sv_wr (T.ln (T.vw l).st) (T.vw l).pl rd (T.nu (T.vw l).st) i).1)) (j := l) hN hl (i := i) hlt (fun S1 hN1 hf1 => ?_))
      show am_W g (d + 3) mm_M_putAll (40, [some (.ref (g.2.2.1 + 6)), some (.int (nI l)), some (.int (nI (sv_wr (T.ln (T.vw l).st) (T.vw l).pl rd (T.nu (T.vw l).st) i).2)), some (.int (nI (T.vw l).it)), some (.int (nI i)), some (.long ((sv_wr (T.ln (T.vw l).st) (T.vw l).pl rd (T.nu (T.vw l).st) i).1 ((T.vw l).pl i).toNatClampNeg)), none], []) S1 _
      have hT : (T.setS (T.vw l).st (sv_wr (T.ln (T.vw l).st) (T.vw l).pl rd (T.nu (T.vw l).st) i).1).setS (T.vw l).st (vp_updL ((T.setS (T.vw l).st (sv_wr (T.ln (T.vw l).st) (T.vw l).pl rd (T.nu (T.vw l).st) i).1).nu (T.vw l).st) ((T.vw l).pl i).toNatClampNeg (sv_low (T.ln (T.vw l).st) (rd i))) = (T.setS (T.vw l).st (sv_wr (T.ln (T.vw l).st) (T.vw l).pl rd (T.nu (T.vw l).st) (i + 1)).1) := by
        rw [sv_setS_setS, show (T.setS (T.vw l).st (sv_wr (T.ln (T.vw l).st) (T.vw l).pl rd (T.nu (T.vw l).st) i).1).nu (T.vw l).st = (sv_wr (T.ln (T.vw l).st) (T.vw l).pl rd (T.nu (T.vw l).st) i).1 from if_pos rfl]
        rfl
      have hN1 : sv_N g S1.1 (T.setS (T.vw l).st (sv_wr (T.ln (T.vw l).st) (T.vw l).pl rd (T.nu (T.vw l).st) (i + 1)).1) th na ne nw rd mt := by rw [← hT]; exact hN1
      obtain ⟨flc, fzc, fNc, fSc, fac, fxc, fec, fsc, ⟨m0c, m1c, m2c, m3c, m4c, m5c, m6c, m7c, m8c, m9c, m10c, m11c, m12c⟩, ⟨t1c, t2c, t3c⟩, hwc⟩ := id hN1
      refine am_iloadn d_M_putAll_40 rfl ?_
      refine am_aloadn d_M_putAll_41 rfl ?_
      refine am_iloadn d_M_putAll_42 rfl ?_
      refine am_iload d_M_putAll_43 rfl ?_
      refine am_cpsV [.int (nI l), .int (nI i)] [.int (nI (sv_wr (T.ln (T.vw l).st) (T.vw l).pl rd (T.nu (T.vw l).st) i).2)] d_M_putAll_45 cV_M_128 rfl m0c rfl rfl (Nat.le_of_ble_eq_true rfl) (Nat.le_of_ble_eq_true rfl) (m_item (T := (T.setS (T.vw l).st (sv_wr (T.ln (T.vw l).st) (T.vw l).pl rd (T.nu (T.vw l).st) (i + 1)).1)) (j := l) hN1 hl (i := i) hlt ?_)
      show am_W g (d + 3) mm_M_putAll (48, [some (.ref (g.2.2.1 + 6)), some (.int (nI l)), some (.int (nI (sv_wr (T.ln (T.vw l).st) (T.vw l).pl rd (T.nu (T.vw l).st) i).2)), some (.int (nI (T.vw l).it)), some (.int (nI i)), some (.long ((sv_wr (T.ln (T.vw l).st) (T.vw l).pl rd (T.nu (T.vw l).st) i).1 ((T.vw l).pl i).toNatClampNeg)), none], [.long ((T.setS (T.vw l).st (sv_wr (T.ln (T.vw l).st) (T.vw l).pl rd (T.nu (T.vw l).st) (i + 1)).1).at (T.vw l) i), .int (nI (sv_wr (T.ln (T.vw l).st) (T.vw l).pl rd (T.nu (T.vw l).st) i).2)]) S1 _
      rw [sv_setS_at]
      show am_W g (d + 3) mm_M_putAll (48, [some (.ref (g.2.2.1 + 6)), some (.int (nI l)), some (.int (nI (sv_wr (T.ln (T.vw l).st) (T.vw l).pl rd (T.nu (T.vw l).st) i).2)), some (.int (nI (T.vw l).it)), some (.int (nI i)), some (.long ((sv_wr (T.ln (T.vw l).st) (T.vw l).pl rd (T.nu (T.vw l).st) i).1 ((T.vw l).pl i).toNatClampNeg)), none], [.long ((sv_wr (T.ln (T.vw l).st) (T.vw l).pl rd (T.nu (T.vw l).st) (i + 1)).1 ((T.vw l).pl i).toNatClampNeg), .int (nI (sv_wr (T.ln (T.vw l).st) (T.vw l).pl rd (T.nu (T.vw l).st) i).2)]) S1 _
      refine am_tl (b := sv_low (T.ln (T.vw l).st) (rd i)) pk_uLs ?_
      refine am_lload d_M_putAll_48 rfl ?_
      refine am_lcmp d_M_putAll_50 ?_
      refine am_ifne (tgt := 58) d_M_putAll_51 (by decide) (fun hz => ?_) (fun hz => ?_)
      · refine am_iconst 1 d_M_putAll_58 (by decide) ?_
        refine am_iadd d_M_putAll_59 ?_
        refine am_ti (b := nI (sv_wr (T.ln (T.vw l).st) (T.vw l).pl rd (T.nu (T.vw l).st) (i + 1)).2) (by rw [show (sv_wr (T.ln (T.vw l).st) (T.vw l).pl rd (T.nu (T.vw l).st) (i + 1)).2 = (sv_wr (T.ln (T.vw l).st) (T.vw l).pl rd (T.nu (T.vw l).st) i).2 + 1 from if_neg (fun q => hz (sv_lce.mpr q.symm))]; exact nI_1 _) ?_
        refine am_istoren (L' := [some (.ref (g.2.2.1 + 6)), some (.int (nI l)), some (.int (nI (sv_wr (T.ln (T.vw l).st) (T.vw l).pl rd (T.nu (T.vw l).st) (i + 1)).2)), some (.int (nI (T.vw l).it)), some (.int (nI i)), some (.long ((sv_wr (T.ln (T.vw l).st) (T.vw l).pl rd (T.nu (T.vw l).st) i).1 ((T.vw l).pl i).toNatClampNeg)), none]) d_M_putAll_60 (by decide) rfl rfl ?_
        refine am_iinc (v := nI (i + 1)) (L' := [some (.ref (g.2.2.1 + 6)), some (.int (nI l)), some (.int (nI (sv_wr (T.ln (T.vw l).st) (T.vw l).pl rd (T.nu (T.vw l).st) (i + 1)).2)), some (.int (nI (T.vw l).it)), some (.int (nI (i + 1))), some (.long ((sv_wr (T.ln (T.vw l).st) (T.vw l).pl rd (T.nu (T.vw l).st) i).1 ((T.vw l).pl i).toNatClampNeg)), none]) d_M_putAll_61 rfl (nI_1 i) (by decide) rfl rfl ?_
        refine am_goto (tgt := 11) d_M_putAll_64 (by decide) ?_
        refine am_drop (L' := [some (.ref (g.2.2.1 + 6)), some (.int (nI l)), some (.int (nI (sv_wr (T.ln (T.vw l).st) (T.vw l).pl rd (T.nu (T.vw l).st) (i + 1)).2)), some (.int (nI (T.vw l).it)), some (.int (nI (i + 1))), none, none]) (by simp [am_le]) ?_
        exact ih (c - 1) (by omega) (i + 1) (by omega) S1 hN1 (hfr.tr hf1)
      · refine am_iconst 0 d_M_putAll_54 (by decide) ?_
        refine am_goto (tgt := 59) d_M_putAll_55 (by decide) ?_
        refine am_iadd d_M_putAll_59 ?_
        refine am_ti (b := nI (sv_wr (T.ln (T.vw l).st) (T.vw l).pl rd (T.nu (T.vw l).st) (i + 1)).2) (by rw [show (sv_wr (T.ln (T.vw l).st) (T.vw l).pl rd (T.nu (T.vw l).st) (i + 1)).2 = (sv_wr (T.ln (T.vw l).st) (T.vw l).pl rd (T.nu (T.vw l).st) i).2 from if_pos (sv_lce.mp hz).symm]; exact Int32.add_zero _) ?_
        refine am_istoren (L' := [some (.ref (g.2.2.1 + 6)), some (.int (nI l)), some (.int (nI (sv_wr (T.ln (T.vw l).st) (T.vw l).pl rd (T.nu (T.vw l).st) (i + 1)).2)), some (.int (nI (T.vw l).it)), some (.int (nI i)), some (.long ((sv_wr (T.ln (T.vw l).st) (T.vw l).pl rd (T.nu (T.vw l).st) i).1 ((T.vw l).pl i).toNatClampNeg)), none]) d_M_putAll_60 (by decide) rfl rfl ?_
        refine am_iinc (v := nI (i + 1)) (L' := [some (.ref (g.2.2.1 + 6)), some (.int (nI l)), some (.int (nI (sv_wr (T.ln (T.vw l).st) (T.vw l).pl rd (T.nu (T.vw l).st) (i + 1)).2)), some (.int (nI (T.vw l).it)), some (.int (nI (i + 1))), some (.long ((sv_wr (T.ln (T.vw l).st) (T.vw l).pl rd (T.nu (T.vw l).st) i).1 ((T.vw l).pl i).toNatClampNeg)), none]) d_M_putAll_61 rfl (nI_1 i) (by decide) rfl rfl ?_
        refine am_goto (tgt := 11) d_M_putAll_64 (by decide) ?_
        refine am_drop (L' := [some (.ref (g.2.2.1 + 6)), some (.int (nI l)), some (.int (nI (sv_wr (T.ln (T.vw l).st) (T.vw l).pl rd (T.nu (T.vw l).st) (i + 1)).2)), some (.int (nI (T.vw l).it)), some (.int (nI (i + 1))), none, none]) (by simp [am_le]) ?_
        exact ih (c - 1) (by omega) (i + 1) (by omega) S1 hN1 (hfr.tr hf1)
set_option maxHeartbeats 4000000 in
set_option maxRecDepth 100000 in
/-- M_putAll -/
theorem m_putAll0 {g : am_G} {d : Nat} {S : am_S} {T : sv_T} {th : Int32} {na : Nat} {ne nw rd : Nat → Int64} {mt : Nat → Int32} (hM : sv_N g S.1 T th na ne nw rd mt) {l : Nat} (hl : l < T.nv) {P : am_O → am_S → Prop} (hP : ∀ S1 : am_S, sv_N g S1.1 (T.setS (T.vw l).st (sv_wr (T.ln (T.vw l).st) (T.vw l).pl rd (T.nu (T.vw l).st) ((T.vw l).it)).1) th na ne nw rd mt → sv_MF g S S1 → P (.inl (some (.int (nI (sv_wr (T.ln (T.vw l).st) (T.vw l).pl rd (T.nu (T.vw l).st) ((T.vw l).it)).2)))) S1) : am_W g (d + 3) mm_M_putAll (0, am_ent [.ref (g.2.2.1 + 6), .int (nI l)] 7, []) S (P) := by
  obtain ⟨fl, fz, fN, fS, fa, fx, fe, fs, ⟨m0, m1, m2, m3, m4, m5, m6, m7, m8, m9, m10, m11, m12⟩, ⟨t1, t2, t3⟩, hw⟩ := id hM
  have h80 := hw.2.1
  have h12 := hw.1
  show am_W g (d + 3) mm_M_putAll (0, [some (.ref (g.2.2.1 + 6)), some (.int (nI l)), none, none, none, none, none], []) S _
  refine am_iconst 0 d_M_putAll_0 (by decide) ?_
  refine am_istoren (L' := [some (.ref (g.2.2.1 + 6)), some (.int (nI l)), some (.int 0), none, none, none, none]) d_M_putAll_1 (by decide) rfl rfl ?_
  refine am_aloadn d_M_putAll_2 rfl ?_
  refine am_iloadn d_M_putAll_3 rfl ?_
  refine am_cpsV [.int (nI l)] [] d_M_putAll_4 cV_M_117 rfl m0 rfl rfl (Nat.le_of_ble_eq_true rfl) (Nat.le_of_ble_eq_true rfl) (m_items (j := l) hM hl ?_)
  show am_W g (d + 3) mm_M_putAll (7, [some (.ref (g.2.2.1 + 6)), some (.int (nI l)), some (.int 0), none, none, none, none], [.int (nI (T.vw l).it)]) S _
  refine am_istoren (L' := [some (.ref (g.2.2.1 + 6)), some (.int (nI l)), some (.int 0), some (.int (nI (T.vw l).it)), none, none, none]) d_M_putAll_7 (by decide) rfl rfl ?_
  refine am_iconst 0 d_M_putAll_8 (by decide) ?_
  refine am_istore (L' := [some (.ref (g.2.2.1 + 6)), some (.int (nI l)), some (.int 0), some (.int (nI (T.vw l).it)), some (.int 0), none, none]) d_M_putAll_9 (by decide) rfl rfl ?_
  exact m_putAll_l hl hP (T.vw l).it 0 (Nat.zero_add _) S (by show sv_N g S.1 (T.setS (T.vw l).st (T.nu (T.vw l).st)) th na ne nw rd mt; rw [sv_setS_self]; exact hM) sv_MF.rf
set_option maxHeartbeats 4000000 in
set_option maxRecDepth 100000 in
/-- M_putAll -/
theorem m_putAll {g : am_G} {d : Nat} {S : am_S} {T : sv_T} {th : Int32} {na : Nat} {ne nw rd : Nat → Int64} {mt : Nat → Int32} (hM : sv_N g S.1 T th na ne nw rd mt) {l : Nat} (hl : l < T.nv) {f : Nat → Int64} (hf : ∀ i, i < (T.vw l).it → rd i = f i) {P : am_O → am_S → Prop} (hP : ∀ (S1 : am_S) (v : Int32), .int v = (T.wr (T.vw l) f).2.1 → sv_N g S1.1 (T.wr (T.vw l) f).2.2 th na ne nw rd mt → sv_MF g S S1 → P (.inl (some (.int v))) S1) : am_W g (d + 3) mm_M_putAll (0, am_ent [.ref (g.2.2.1 + 6), .int (nI l)] 7, []) S (P) := by
  have e : sv_wr (T.ln (T.vw l).st) (T.vw l).pl rd (T.nu (T.vw l).st) (T.vw l).it = sv_wr (T.ln (T.vw l).st) (T.vw l).pl f (T.nu (T.vw l).st) (T.vw l).it := sv_wr_congr (fun _ _ => rfl) hf
  refine m_putAll0 hM hl (fun S1 hN hfr => ?_)
  rw [e] at hN ⊢
  exact hP S1 _ rfl hN hfr
set_option maxHeartbeats 4000000 in
set_option maxRecDepth 100000 in
/-- copy, the loop -/
theorem e_copy_l {g : am_G} {d : Nat} {S : am_S} {T : sv_T} {th : Int32} {na : Nat} {ne nw : Nat → Int64} {mt : Nat → Int32} {j l : Nat} (hj : j < T.nv) (hl : l < T.nv) (hgo : (T.vw j).go (T.vw l)) {z3 : Int32} {P : am_O → am_S → Prop} (hP : ∀ (S1 : am_S) (v : Int32), .int v = (T.wr (T.vw l) (T.gn (T.vw j) (T.vw l))).2.1 → ∀ rd1, sv_N g S1.1 (T.wr (T.vw l) (T.gn (T.vw j) (T.vw l))).2.2 th na ne nw rd1 mt → sv_MF g S S1 → P (.inl (some (.int v))) S1) : ∀ (c i : Nat), i + c = (T.vw l).it → ∀ (S0 : am_S) (Rd : Nat → Int64), sv_N g S0.1 T th na ne nw Rd mt → sv_MF g S S0 → (∀ t, t < i → Rd t = T.gn (T.vw j) (T.vw l) t) → am_W g (d + 4) mm_M_copy (77, [some (.ref (g.2.2.1 + 6)), some (.int (nI j)), some (.int (nI l)), some (.int z3), some (.int (nI (T.vw l).it)), some (.int (nI i))], []) S0 P := by
  intro c
  induction c using Nat.strongRecOn with
  | ind c ih =>
    intro i hi S0 Rd hN hfr hI
    obtain ⟨fl, fz, fN, fS, fa, fx, fe, fs, ⟨m0, m1, m2, m3, m4, m5, m6, m7, m8, m9, m10, m11, m12⟩, ⟨t1, t2, t3⟩, hw⟩ := id hN
    have h80 := hw.2.1
    have w4 := (hw.2.2.2 l hl).2.2.2.1
    refine am_iload d_M_copy_77 rfl ?_
    refine am_iload d_M_copy_79 rfl ?_
    refine am_icge (tgt := 105) d_M_copy_81 (by decide) (fun hc => ?_) (fun hc => ?_)
    · have hk0 : (T.vw l).it ≤ i := (nI_leI (by omega) (by omega)).mp hc
      refine am_aloadn d_M_copy_105 rfl ?_
      refine am_iloadn d_M_copy_106 rfl ?_
      refine am_cpsV [.int (nI l)] [] d_M_copy_107 cV_M_149 rfl m0 rfl rfl (Nat.le_of_ble_eq_true rfl) (Nat.le_of_ble_eq_true rfl) (m_putAll hN hl (f := T.gn (T.vw j) (T.vw l)) (fun t ht => hI t (by omega)) (fun S1 v hv hN1 hf1 => ?_))
      show am_W g (d + 4) mm_M_copy (110, [some (.ref (g.2.2.1 + 6)), some (.int (nI j)), some (.int (nI l)), some (.int z3), some (.int (nI (T.vw l).it)), some (.int (nI i))], [.int v]) S1 _
      exact am_iret d_M_copy_110 rfl (hP S1 v hv _ hN1 (hfr.tr hf1))
    · have hlt : i < (T.vw l).it := Nat.lt_of_not_le (fun q => hc (nI_le q (by omega)))
      refine am_aloadn d_M_copy_84 rfl ?_
      refine am_get d_M_copy_85 fl_M_41 m0 rfl ?_
      refine am_iload d_M_copy_88 rfl ?_
      refine am_aloadn d_M_copy_90 rfl ?_
      refine am_iloadn d_M_copy_91 rfl ?_
      refine am_iloadn d_M_copy_92 rfl ?_
      refine am_iload d_M_copy_93 rfl ?_
      refine am_cpsV [.int (nI j), .int (nI l), .int (nI i)] [.int (nI i), .ref (g.2.2.1 + 17)] d_M_copy_95 cV_M_145 rfl m0 rfl rfl (Nat.le_of_ble_eq_true rfl) (Nat.le_of_ble_eq_true rfl) (m_gone hN hj hl hlt hgo ?_)
      show am_W g (d + 4) mm_M_copy (98, [some (.ref (g.2.2.1 + 6)), some (.int (nI j)), some (.int (nI l)), some (.int z3), some (.int (nI (T.vw l).it)), some (.int (nI i))], [.long (T.gn (T.vw j) (T.vw l) i), .int (nI i), .ref (g.2.2.1 + 17)]) S0 _
      refine am_lastN (t := 1) d_M_copy_98 rfl m11 (by omega) (by omega) ?_
      obtain ⟨S_1, eS_1⟩ : ∃ z : am_S, z = (am_up S0.1 (g.2.2.1 + 17) (.inl (1, 3000, .inr (.inl (vp_updL Rd i (T.gn (T.vw j) (T.vw l) i))))), S0.2) := ⟨_, rfl⟩
      change am_W _ _ _ _ (am_up S0.1 (g.2.2.1 + 17) (.inl (1, 3000, .inr (.inl (vp_updL Rd i (T.gn (T.vw j) (T.vw l) i))))), S0.2) _
      rw [← eS_1]
      have h_2 : S_1.1 (g.2.2.1 + 6) = some (.inr (3, [.int th, .int (nI T.ns), .ref (g.2.2.1 + 7), .ref (g.2.2.1 + 8), .ref (g.2.2.1 + 9), .int (nI T.nv), .ref (g.2.2.1 + 10), .ref (g.2.2.1 + 11), .ref (g.2.2.1 + 12), .ref (g.2.2.1 + 13), .ref (g.2.2.1 + 14), .ref (g.2.2.1 + 15), .ref (g.2.2.1 + 16), .int (nI na), .ref (g.2.2.1 + 17), .ref (g.2.2.1 + 18)])) := by rw [eS_1]; exact (am_up_n (by omega)).trans m0
      have h_3 : S_1.1 (g.2.2.1 + 7) = some (.inl (0, 12, .inl fl)) := by rw [eS_1]; exact (am_up_n (by omega)).trans m1
      have h_4 : S_1.1 (g.2.2.1 + 8) = some (.inl (0, 12, .inl fz)) := by rw [eS_1]; exact (am_up_n (by omega)).trans m2
      have h_5 : S_1.1 (g.2.2.1 + 9) = some (.inl (1, 3600, .inr (.inl fN))) := by rw [eS_1]; exact (am_up_n (by omega)).trans m3
      have h_6 : S_1.1 (g.2.2.1 + 10) = some (.inl (0, 80, .inl fS)) := by rw [eS_1]; exact (am_up_n (by omega)).trans m4
      have h_7 : S_1.1 (g.2.2.1 + 11) = some (.inl (0, 80, .inl fa)) := by rw [eS_1]; exact (am_up_n (by omega)).trans m5
      have h_8 : S_1.1 (g.2.2.1 + 12) = some (.inl (0, 80, .inl fx)) := by rw [eS_1]; exact (am_up_n (by omega)).trans m6
      have h_9 : S_1.1 (g.2.2.1 + 13) = some (.inl (0, 320, .inl fe)) := by rw [eS_1]; exact (am_up_n (by omega)).trans m7
      have h_10 : S_1.1 (g.2.2.1 + 14) = some (.inl (0, 320, .inl fs)) := by rw [eS_1]; exact (am_up_n (by omega)).trans m8
      have h_11 : S_1.1 (g.2.2.1 + 15) = some (.inl (1, 5, .inr (.inl ne))) := by rw [eS_1]; exact (am_up_n (by omega)).trans m9
      have h_12 : S_1.1 (g.2.2.1 + 16) = some (.inl (1, 5, .inr (.inl nw))) := by rw [eS_1]; exact (am_up_n (by omega)).trans m10
      have h_13 : S_1.1 (g.2.2.1 + 18) = some (.inl (2, 300, .inl mt)) := by rw [eS_1]; exact (am_up_n (by omega)).trans m12
      have hf_14 : sv_MF g S S_1 := by rw [eS_1]; exact hfr.u (by omega) (by omega)
      have h_15 : S_1.1 (g.2.2.1 + 17) = some (.inl (1, 3000, .inr (.inl (vp_updL Rd i (T.gn (T.vw j) (T.vw l) i))))) := by rw [eS_1]; exact am_up_s
      have hnS_1 : S_1.2.1 = S0.2.1 := by rw [eS_1]
      have hzS_1 : S_1.2.2 = S0.2.2 := by rw [eS_1]
      refine am_iinc (v := nI (i + 1)) (L' := [some (.ref (g.2.2.1 + 6)), some (.int (nI j)), some (.int (nI l)), some (.int z3), some (.int (nI (T.vw l).it)), some (.int (nI (i + 1)))]) d_M_copy_99 rfl (nI_1 i) (by decide) rfl rfl ?_
      refine am_goto (tgt := 77) d_M_copy_102 (by decide) ?_
      refine ih (c - 1) (by omega) (i + 1) (by omega) _ _ ⟨fl, fz, fN, fS, fa, fx, fe, fs, ⟨h_2, h_3, h_4, h_5, h_6, h_7, h_8, h_9, h_10, h_11, h_12, h_15, h_13⟩, ⟨t1, t2, t3⟩, hw⟩ hf_14 (fun t ht => ?_)
      by_cases e : t = i
      · subst e
        exact pk_uLs
      · rw [pk_uLn e]
        exact hI t (by omega)
set_option maxHeartbeats 4000000 in
set_option maxRecDepth 100000 in
/-- M_copy -/
theorem e_copy {g : am_G} {d : Nat} {S : am_S} {T : sv_T} {th : Int32} {na : Nat} {ne nw rd : Nat → Int64} {mt : Nat → Int32} (hM : sv_N g S.1 T th na ne nw rd mt) {v w : Int32} : am_W g (d + 4) mm_M_copy (0, am_ent [.ref (g.2.2.1 + 6), .int v, .int w] 6, []) S (sv_E g S (q_copy T v w) (sv_cd 4 5 6)) := by
  obtain ⟨fl, fz, fN, fS, fa, fx, fe, fs, ⟨m0, m1, m2, m3, m4, m5, m6, m7, m8, m9, m10, m11, m12⟩, ⟨t1, t2, t3⟩, hw⟩ := id hM
  have h80 := hw.2.1
  have h12 := hw.1
  show am_W g (d + 4) mm_M_copy (0, [some (.ref (g.2.2.1 + 6)), some (.int v), some (.int w), none, none, none], []) S _
  refine am_cut (F := (21, [some (.ref (g.2.2.1 + 6)), some (.int v), some (.int w), none, none, none], [.int (sv_if (sv_iv T v ∧ sv_iv T w) 1 0)])) ?_ (fun key => ?_)
  · skip
    refine am_istoren (L' := [some (.ref (g.2.2.1 + 6)), some (.int v), some (.int w), some (.int (sv_if (sv_iv T v ∧ sv_iv T w) 1 0)), none, none]) d_M_copy_21 (by decide) rfl rfl ?_
    refine am_aloadn d_M_copy_22 rfl ?_
    refine am_iloadn d_M_copy_23 rfl ?_
    refine am_cut (F := (42, [some (.ref (g.2.2.1 + 6)), some (.int v), some (.int w), some (.int (sv_if (sv_iv T v ∧ sv_iv T w) 1 0)), none, none], [.int (sv_if ((sv_iv T v ∧ sv_iv T w) ∧ (T.va v).go (T.va w)) 1 0), .int (sv_if (sv_iv T v ∧ sv_iv T w) 1 0), .ref (g.2.2.1 + 6)])) ?_ (fun key => ?_)
    · skip
      refine am_cut (F := (59, [some (.ref (g.2.2.1 + 6)), some (.int v), some (.int w), some (.int (sv_if (sv_iv T v ∧ sv_iv T w) 1 0)), none, none], [.int (sv_if ((sv_iv T v ∧ sv_iv T w) ∧ ¬ (T.va w).fx) 1 0), .int (sv_if ((sv_iv T v ∧ sv_iv T w) ∧ (T.va v).go (T.va w)) 1 0), .int (sv_if (sv_iv T v ∧ sv_iv T w) 1 0), .ref (g.2.2.1 + 6)])) ?_ (fun key => ?_)
      · skip
        refine am_cpsV [.int (sv_if (sv_iv T v ∧ sv_iv T w) 1 0), .int (sv_if ((sv_iv T v ∧ sv_iv T w) ∧ (T.va v).go (T.va w)) 1 0), .int (sv_if ((sv_iv T v ∧ sv_iv T w) ∧ ¬ (T.va w).fx) 1 0)] [] d_M_copy_59 cV_M_109 rfl m0 rfl rfl (Nat.le_of_ble_eq_true rfl) (Nat.le_of_ble_eq_true rfl) (m_goes hM (fun b1 S1 hN1 hf1 => ?_) (fun b1 b2 S1 hN1 hf1 => ?_) (fun b1 b2 b3 S1 hN1 hf1 => ?_) (fun b1 b2 b3 S1 hN1 hf1 => ?_))
        · show am_W g (d + 4) mm_M_copy (62, [some (.ref (g.2.2.1 + 6)), some (.int v), some (.int w), some (.int (sv_if (sv_iv T v ∧ sv_iv T w) 1 0)), none, none], [.int 0]) S1 _
          refine am_ifne (tgt := 67) d_M_copy_62 (by decide) (fun hz => ?_) (fun hz => ?_)
          · exact absurd rfl hz
          · refine am_iconst 0 d_M_copy_65 (by decide) ?_
            rw [q_copy, q_two_no (sv_b0 b1)]
            exact am_iret d_M_copy_66 rfl (sv_E.no hN1 hf1 (by decide))
        · show am_W g (d + 4) mm_M_copy (62, [some (.ref (g.2.2.1 + 6)), some (.int v), some (.int w), some (.int (sv_if (sv_iv T v ∧ sv_iv T w) 1 0)), none, none], [.int 0]) S1 _
          refine am_ifne (tgt := 67) d_M_copy_62 (by decide) (fun hz => ?_) (fun hz => ?_)
          · exact absurd rfl hz
          · refine am_iconst 0 d_M_copy_65 (by decide) ?_
            rw [q_copy_5 (sv_b1 b1) (fun z => sv_b0 b2 ⟨sv_b1 b1, z⟩)]
            exact am_iret d_M_copy_66 rfl (sv_E.no hN1 hf1 (by decide))
        · show am_W g (d + 4) mm_M_copy (62, [some (.ref (g.2.2.1 + 6)), some (.int v), some (.int w), some (.int (sv_if (sv_iv T v ∧ sv_iv T w) 1 0)), none, none], [.int 0]) S1 _
          refine am_ifne (tgt := 67) d_M_copy_62 (by decide) (fun hz => ?_) (fun hz => ?_)
          · exact absurd rfl hz
          · refine am_iconst 0 d_M_copy_65 (by decide) ?_
            rw [q_copy_6 (sv_b1 b2) (Classical.byContradiction (fun z => sv_b0 b3 ⟨sv_b1 b1, z⟩))]
            exact am_iret d_M_copy_66 rfl (sv_E.no hN1 hf1 (by decide))
        · skip
          show am_W g (d + 4) mm_M_copy (62, [some (.ref (g.2.2.1 + 6)), some (.int v), some (.int w), some (.int (sv_if (sv_iv T v ∧ sv_iv T w) 1 0)), none, none], [.int 1]) S1 _
          refine am_ifne (tgt := 67) d_M_copy_62 (by decide) (fun hz => ?_) (fun hz => ?_)
          · skip
            have hG := sv_b1 b2
            have hX := (sv_b1 b3).2
            rw [q_copy_0 hG hX]
            obtain ⟨j, hj, rfl⟩ := sv_iv_of hG.1.1 h80
            obtain ⟨l, hl, rfl⟩ := sv_iv_of hG.1.2 h80
            have hgo := hG.2
            rw [sv_va_j hj h80, sv_va_j hl h80] at hgo
            rw [sv_va_j hj h80, sv_va_j hl h80]
            obtain ⟨flb, fzb, fNb, fSb, fab, fxb, feb, fsb, ⟨m0b, m1b, m2b, m3b, m4b, m5b, m6b, m7b, m8b, m9b, m10b, m11b, m12b⟩, ⟨t1b, t2b, t3b⟩, hwb⟩ := id hN1
            refine am_aloadn d_M_copy_67 rfl ?_
            refine am_iloadn d_M_copy_68 rfl ?_
            refine am_cpsV [.int (nI l)] [] d_M_copy_69 cV_M_117 rfl m0b rfl rfl (Nat.le_of_ble_eq_true rfl) (Nat.le_of_ble_eq_true rfl) (m_items (j := l) hN1 hl ?_)
            show am_W g (d + 4) mm_M_copy (72, [some (.ref (g.2.2.1 + 6)), some (.int (nI j)), some (.int (nI l)), some (.int (sv_if (sv_iv T (nI j) ∧ sv_iv T (nI l)) 1 0)), none, none], [.int (nI (T.vw l).it)]) S1 _
            refine am_istore (L' := [some (.ref (g.2.2.1 + 6)), some (.int (nI j)), some (.int (nI l)), some (.int (sv_if (sv_iv T (nI j) ∧ sv_iv T (nI l)) 1 0)), some (.int (nI (T.vw l).it)), none]) d_M_copy_72 (by decide) rfl rfl ?_
            refine am_iconst 0 d_M_copy_74 (by decide) ?_
            refine am_istore (L' := [some (.ref (g.2.2.1 + 6)), some (.int (nI j)), some (.int (nI l)), some (.int (sv_if (sv_iv T (nI j) ∧ sv_iv T (nI l)) 1 0)), some (.int (nI (T.vw l).it)), some (.int 0)]) d_M_copy_75 (by decide) rfl rfl ?_
            exact e_copy_l (S := S1) hj hl hgo (fun S2 v hv rd1 hN2 hf2 => ⟨⟨_, _, _, _, _, hN2⟩, hf1.tr hf2, v, rfl, fun _ => hv⟩) (T.vw l).it 0 (Nat.zero_add _) S1 rd hN1 sv_MF.rf (fun t ht => absurd ht (Nat.not_lt_zero t))
          · exact absurd hz (by decide)
      · refine am_iloadn d_M_copy_42 rfl ?_
        refine am_ifeq (tgt := 58) d_M_copy_43 (by decide) (fun hb_5 => ?_) (fun hb_5 => ?_)
        · refine am_iconst 0 d_M_copy_58 (by decide) ?_
          rw [sv_if_n (c := (sv_iv T v ∧ sv_iv T w) ∧ ¬ (T.va w).fx) (fun q => sv_b0 hb_5 q.1)] at key
          exact key
        · have hC := sv_b1 hb_5
          refine am_aloadn d_M_copy_46 rfl ?_
          refine am_iloadn d_M_copy_47 rfl ?_
          refine am_cpsV [.int w] [.int (sv_if ((sv_iv T v ∧ sv_iv T w) ∧ (T.va v).go (T.va w)) 1 0), .int (sv_if (sv_iv T v ∧ sv_iv T w) 1 0), .ref (g.2.2.1 + 6)] d_M_copy_48 cV_M_135 rfl m0 rfl rfl (Nat.le_of_ble_eq_true rfl) (Nat.le_of_ble_eq_true rfl) (m_isFixedV hM hC.2 ?_)
          show am_W g (d + 4) mm_M_copy (51, [some (.ref (g.2.2.1 + 6)), some (.int v), some (.int w), some (.int (sv_if (sv_iv T v ∧ sv_iv T w) 1 0)), none, none], [.int (sv_if ((T.va w).fx) 1 0), .int (sv_if ((sv_iv T v ∧ sv_iv T w) ∧ (T.va v).go (T.va w)) 1 0), .int (sv_if (sv_iv T v ∧ sv_iv T w) 1 0), .ref (g.2.2.1 + 6)]) S _
          refine am_ifne (tgt := 58) d_M_copy_51 (by decide) (fun hb_6 => ?_) (fun hb_6 => ?_)
          · refine am_iconst 0 d_M_copy_58 (by decide) ?_
            rw [sv_if_n (c := (sv_iv T v ∧ sv_iv T w) ∧ ¬ (T.va w).fx) (fun q => q.2 (sv_b1 hb_6))] at key
            exact key
          · refine am_iconst 1 d_M_copy_54 (by decide) ?_
            refine am_goto (tgt := 59) d_M_copy_55 (by decide) ?_
            rw [sv_if_y (c := (sv_iv T v ∧ sv_iv T w) ∧ ¬ (T.va w).fx) ⟨sv_b1 hb_5, sv_b0 hb_6⟩] at key
            exact key
    · refine am_iloadn d_M_copy_24 rfl ?_
      refine am_ifeq (tgt := 41) d_M_copy_25 (by decide) (fun hb_3 => ?_) (fun hb_3 => ?_)
      · refine am_iconst 0 d_M_copy_41 (by decide) ?_
        rw [sv_if_n (c := (sv_iv T v ∧ sv_iv T w) ∧ (T.va v).go (T.va w)) (fun q => sv_b0 hb_3 q.1)] at key
        exact key
      · have hC := sv_b1 hb_3
        refine am_aloadn d_M_copy_28 rfl ?_
        refine am_iloadn d_M_copy_29 rfl ?_
        refine am_iloadn d_M_copy_30 rfl ?_
        refine am_cpsV [.int v, .int w] [.int (sv_if (sv_iv T v ∧ sv_iv T w) 1 0), .ref (g.2.2.1 + 6)] d_M_copy_31 cV_M_142 rfl m0 rfl rfl (Nat.le_of_ble_eq_true rfl) (Nat.le_of_ble_eq_true rfl) (m_goesToV hM hC.1 hC.2 ?_)
        show am_W g (d + 4) mm_M_copy (34, [some (.ref (g.2.2.1 + 6)), some (.int v), some (.int w), some (.int (sv_if (sv_iv T v ∧ sv_iv T w) 1 0)), none, none], [.int (sv_if ((T.va v).go (T.va w)) 1 0), .int (sv_if (sv_iv T v ∧ sv_iv T w) 1 0), .ref (g.2.2.1 + 6)]) S _
        refine am_ifeq (tgt := 41) d_M_copy_34 (by decide) (fun hb_4 => ?_) (fun hb_4 => ?_)
        · refine am_iconst 0 d_M_copy_41 (by decide) ?_
          rw [sv_if_n (c := (sv_iv T v ∧ sv_iv T w) ∧ (T.va v).go (T.va w)) (fun q => sv_b0 hb_4 q.2)] at key
          exact key
        · refine am_iconst 1 d_M_copy_37 (by decide) ?_
          refine am_goto (tgt := 42) d_M_copy_38 (by decide) ?_
          rw [sv_if_y (c := (sv_iv T v ∧ sv_iv T w) ∧ (T.va v).go (T.va w)) ⟨sv_b1 hb_3, sv_b1 hb_4⟩] at key
          exact key
  · refine am_aloadn d_M_copy_0 rfl ?_
    refine am_iloadn d_M_copy_1 rfl ?_
    refine am_cpsV [.int v] [] d_M_copy_2 cV_M_55 rfl m0 rfl rfl (Nat.le_of_ble_eq_true rfl) (Nat.le_of_ble_eq_true rfl) (m_isView hM ?_)
    show am_W g (d + 4) mm_M_copy (5, [some (.ref (g.2.2.1 + 6)), some (.int v), some (.int w), none, none, none], [.int (sv_if (sv_iv T v) 1 0)]) S _
    refine am_ifeq (tgt := 20) d_M_copy_5 (by decide) (fun hb_1 => ?_) (fun hb_1 => ?_)
    · refine am_iconst 0 d_M_copy_20 (by decide) ?_
      rw [sv_if_n (c := sv_iv T v ∧ sv_iv T w) (fun q => sv_b0 hb_1 q.1)] at key
      exact key
    · refine am_aloadn d_M_copy_8 rfl ?_
      refine am_iloadn d_M_copy_9 rfl ?_
      refine am_cpsV [.int w] [] d_M_copy_10 cV_M_55 rfl m0 rfl rfl (Nat.le_of_ble_eq_true rfl) (Nat.le_of_ble_eq_true rfl) (m_isView hM ?_)
      show am_W g (d + 4) mm_M_copy (13, [some (.ref (g.2.2.1 + 6)), some (.int v), some (.int w), none, none, none], [.int (sv_if (sv_iv T w) 1 0)]) S _
      refine am_ifeq (tgt := 20) d_M_copy_13 (by decide) (fun hb_2 => ?_) (fun hb_2 => ?_)
      · refine am_iconst 0 d_M_copy_20 (by decide) ?_
        rw [sv_if_n (c := sv_iv T v ∧ sv_iv T w) (fun q => sv_b0 hb_2 q.2)] at key
        exact key
      · refine am_iconst 1 d_M_copy_16 (by decide) ?_
        refine am_goto (tgt := 21) d_M_copy_17 (by decide) ?_
        rw [sv_if_y (c := sv_iv T v ∧ sv_iv T w) ⟨sv_b1 hb_1, sv_b1 hb_2⟩] at key
        exact key
set_option maxHeartbeats 4000000 in
set_option maxRecDepth 100000 in
/-- act, the loop -/
theorem e_act_l {g : am_G} {d : Nat} {S : am_S} {T : sv_T} {th : Int32} {na : Nat} {ne nw : Nat → Int64} {mt : Nat → Int32} {j k l : Nat} (hj : j < T.nv) (hk : k < T.nv) (hl : l < T.nv) (hgo : (T.vw j).go (T.vw l)) (hgo2 : (T.vw k).go (T.vw l)) {t0 z5 z6 : Int32} {P : am_O → am_S → Prop} (hP : ∀ (S1 : am_S) (v : Int32), .int v = (T.wr (T.vw l) (fun i => sv_act t0 (T.gn (T.vw j) (T.vw l) i) (T.gn (T.vw k) (T.vw l) i))).2.1 → ∀ rd1, sv_N g S1.1 (T.wr (T.vw l) (fun i => sv_act t0 (T.gn (T.vw j) (T.vw l) i) (T.gn (T.vw k) (T.vw l) i))).2.2 th na ne nw rd1 mt → sv_MF g S S1 → P (.inl (some (.int v))) S1) : ∀ (c i : Nat), i + c = (T.vw l).it → ∀ (S0 : am_S) (Rd : Nat → Int64), sv_N g S0.1 T th na ne nw Rd mt → sv_MF g S S0 → (∀ t, t < i → Rd t = sv_act t0 (T.gn (T.vw j) (T.vw l) t) (T.gn (T.vw k) (T.vw l) t)) → am_W g (d + 4) mm_M_act (116, [some (.ref (g.2.2.1 + 6)), some (.int t0), some (.int (nI j)), some (.int (nI k)), some (.int (nI l)), some (.int z5), some (.int z6), some (.int (nI (T.vw l).it)), some (.int (nI i))], []) S0 P := by
  intro c
  induction c using Nat.strongRecOn with
  | ind c ih =>
    intro i hi S0 Rd hN hfr hI
    obtain ⟨fl, fz, fN, fS, fa, fx, fe, fs, ⟨m0, m1, m2, m3, m4, m5, m6, m7, m8, m9, m10, m11, m12⟩, ⟨t1, t2, t3⟩, hw⟩ := id hN
    have h80 := hw.2.1
    have w4 := (hw.2.2.2 l hl).2.2.2.1
    refine am_iload d_M_act_116 rfl ?_
    refine am_iload d_M_act_118 rfl ?_
    refine am_icge (tgt := 158) d_M_act_120 (by decide) (fun hc => ?_) (fun hc => ?_)
    · have hk0 : (T.vw l).it ≤ i := (nI_leI (by omega) (by omega)).mp hc
      refine am_aloadn d_M_act_158 rfl ?_
      refine am_iload d_M_act_159 rfl ?_
      refine am_cpsV [.int (nI l)] [] d_M_act_161 cV_M_149 rfl m0 rfl rfl (Nat.le_of_ble_eq_true rfl) (Nat.le_of_ble_eq_true rfl) (m_putAll hN hl (f := fun i => sv_act t0 (T.gn (T.vw j) (T.vw l) i) (T.gn (T.vw k) (T.vw l) i)) (fun t ht => hI t (by omega)) (fun S1 v hv hN1 hf1 => ?_))
      show am_W g (d + 4) mm_M_act (164, [some (.ref (g.2.2.1 + 6)), some (.int t0), some (.int (nI j)), some (.int (nI k)), some (.int (nI l)), some (.int z5), some (.int z6), some (.int (nI (T.vw l).it)), some (.int (nI i))], [.int v]) S1 _
      exact am_iret d_M_act_164 rfl (hP S1 v hv _ hN1 (hfr.tr hf1))
    · have hlt : i < (T.vw l).it := Nat.lt_of_not_le (fun q => hc (nI_le q (by omega)))
      refine am_aloadn d_M_act_123 rfl ?_
      refine am_get d_M_act_124 fl_M_41 m0 rfl ?_
      refine am_iload d_M_act_127 rfl ?_
      refine am_iloadn d_M_act_129 rfl ?_
      refine am_aloadn d_M_act_130 rfl ?_
      refine am_iloadn d_M_act_131 rfl ?_
      refine am_iload d_M_act_132 rfl ?_
      refine am_iload d_M_act_134 rfl ?_
      refine am_cpsV [.int (nI j), .int (nI l), .int (nI i)] [.int t0, .int (nI i), .ref (g.2.2.1 + 17)] d_M_act_136 cV_M_145 rfl m0 rfl rfl (Nat.le_of_ble_eq_true rfl) (Nat.le_of_ble_eq_true rfl) (m_gone hN hj hl hlt hgo ?_)
      show am_W g (d + 4) mm_M_act (139, [some (.ref (g.2.2.1 + 6)), some (.int t0), some (.int (nI j)), some (.int (nI k)), some (.int (nI l)), some (.int z5), some (.int z6), some (.int (nI (T.vw l).it)), some (.int (nI i))], [.long (T.gn (T.vw j) (T.vw l) i), .int t0, .int (nI i), .ref (g.2.2.1 + 17)]) S0 _
      refine am_aloadn d_M_act_139 rfl ?_
      refine am_iloadn d_M_act_140 rfl ?_
      refine am_iload d_M_act_141 rfl ?_
      refine am_iload d_M_act_143 rfl ?_
      refine am_cpsV [.int (nI k), .int (nI l), .int (nI i)] [.long (T.gn (T.vw j) (T.vw l) i), .int t0, .int (nI i), .ref (g.2.2.1 + 17)] d_M_act_145 cV_M_145 rfl m0 rfl rfl (Nat.le_of_ble_eq_true rfl) (Nat.le_of_ble_eq_true rfl) (m_gone (j := k) hN hk hl hlt hgo2 ?_)
      show am_W g (d + 4) mm_M_act (148, [some (.ref (g.2.2.1 + 6)), some (.int t0), some (.int (nI j)), some (.int (nI k)), some (.int (nI l)), some (.int z5), some (.int z6), some (.int (nI (T.vw l).it)), some (.int (nI i))], [.long (T.gn (T.vw k) (T.vw l) i), .long (T.gn (T.vw j) (T.vw l) i), .int t0, .int (nI i), .ref (g.2.2.1 + 17)]) S0 _
      refine am_cpsS [.int t0, .long (T.gn (T.vw j) (T.vw l) i), .long (T.gn (T.vw k) (T.vw l) i)] [.int (nI i), .ref (g.2.2.1 + 17)] d_M_act_148 cS_M_152 rfl rfl rfl (Nat.le_of_ble_eq_true rfl) (Nat.le_of_ble_eq_true rfl) (m_acted t0 (T.gn (T.vw j) (T.vw l) i) (T.gn (T.vw k) (T.vw l) i) ?_)
      show am_W g (d + 4) mm_M_act (151, [some (.ref (g.2.2.1 + 6)), some (.int t0), some (.int (nI j)), some (.int (nI k)), some (.int (nI l)), some (.int z5), some (.int z6), some (.int (nI (T.vw l).it)), some (.int (nI i))], [.long (sv_act t0 (T.gn (T.vw j) (T.vw l) i) (T.gn (T.vw k) (T.vw l) i)), .int (nI i), .ref (g.2.2.1 + 17)]) S0 _
      refine am_lastN (t := 1) d_M_act_151 rfl m11 (by omega) (by omega) ?_
      obtain ⟨S_1, eS_1⟩ : ∃ z : am_S, z = (am_up S0.1 (g.2.2.1 + 17) (.inl (1, 3000, .inr (.inl (vp_updL Rd i (sv_act t0 (T.gn (T.vw j) (T.vw l) i) (T.gn (T.vw k) (T.vw l) i)))))), S0.2) := ⟨_, rfl⟩
      change am_W _ _ _ _ (am_up S0.1 (g.2.2.1 + 17) (.inl (1, 3000, .inr (.inl (vp_updL Rd i (sv_act t0 (T.gn (T.vw j) (T.vw l) i) (T.gn (T.vw k) (T.vw l) i)))))), S0.2) _
      rw [← eS_1]
      have h_2 : S_1.1 (g.2.2.1 + 6) = some (.inr (3, [.int th, .int (nI T.ns), .ref (g.2.2.1 + 7), .ref (g.2.2.1 + 8), .ref (g.2.2.1 + 9), .int (nI T.nv), .ref (g.2.2.1 + 10), .ref (g.2.2.1 + 11), .ref (g.2.2.1 + 12), .ref (g.2.2.1 + 13), .ref (g.2.2.1 + 14), .ref (g.2.2.1 + 15), .ref (g.2.2.1 + 16), .int (nI na), .ref (g.2.2.1 + 17), .ref (g.2.2.1 + 18)])) := by rw [eS_1]; exact (am_up_n (by omega)).trans m0
      have h_3 : S_1.1 (g.2.2.1 + 7) = some (.inl (0, 12, .inl fl)) := by rw [eS_1]; exact (am_up_n (by omega)).trans m1
      have h_4 : S_1.1 (g.2.2.1 + 8) = some (.inl (0, 12, .inl fz)) := by rw [eS_1]; exact (am_up_n (by omega)).trans m2
      have h_5 : S_1.1 (g.2.2.1 + 9) = some (.inl (1, 3600, .inr (.inl fN))) := by rw [eS_1]; exact (am_up_n (by omega)).trans m3
      have h_6 : S_1.1 (g.2.2.1 + 10) = some (.inl (0, 80, .inl fS)) := by rw [eS_1]; exact (am_up_n (by omega)).trans m4
      have h_7 : S_1.1 (g.2.2.1 + 11) = some (.inl (0, 80, .inl fa)) := by rw [eS_1]; exact (am_up_n (by omega)).trans m5
      have h_8 : S_1.1 (g.2.2.1 + 12) = some (.inl (0, 80, .inl fx)) := by rw [eS_1]; exact (am_up_n (by omega)).trans m6
      have h_9 : S_1.1 (g.2.2.1 + 13) = some (.inl (0, 320, .inl fe)) := by rw [eS_1]; exact (am_up_n (by omega)).trans m7
      have h_10 : S_1.1 (g.2.2.1 + 14) = some (.inl (0, 320, .inl fs)) := by rw [eS_1]; exact (am_up_n (by omega)).trans m8
      have h_11 : S_1.1 (g.2.2.1 + 15) = some (.inl (1, 5, .inr (.inl ne))) := by rw [eS_1]; exact (am_up_n (by omega)).trans m9
      have h_12 : S_1.1 (g.2.2.1 + 16) = some (.inl (1, 5, .inr (.inl nw))) := by rw [eS_1]; exact (am_up_n (by omega)).trans m10
      have h_13 : S_1.1 (g.2.2.1 + 18) = some (.inl (2, 300, .inl mt)) := by rw [eS_1]; exact (am_up_n (by omega)).trans m12
      have hf_14 : sv_MF g S S_1 := by rw [eS_1]; exact hfr.u (by omega) (by omega)
      have h_15 : S_1.1 (g.2.2.1 + 17) = some (.inl (1, 3000, .inr (.inl (vp_updL Rd i (sv_act t0 (T.gn (T.vw j) (T.vw l) i) (T.gn (T.vw k) (T.vw l) i)))))) := by rw [eS_1]; exact am_up_s
      have hnS_1 : S_1.2.1 = S0.2.1 := by rw [eS_1]
      have hzS_1 : S_1.2.2 = S0.2.2 := by rw [eS_1]
      refine am_iinc (v := nI (i + 1)) (L' := [some (.ref (g.2.2.1 + 6)), some (.int t0), some (.int (nI j)), some (.int (nI k)), some (.int (nI l)), some (.int z5), some (.int z6), some (.int (nI (T.vw l).it)), some (.int (nI (i + 1)))]) d_M_act_152 rfl (nI_1 i) (by decide) rfl rfl ?_
      refine am_goto (tgt := 116) d_M_act_155 (by decide) ?_
      refine ih (c - 1) (by omega) (i + 1) (by omega) _ _ ⟨fl, fz, fN, fS, fa, fx, fe, fs, ⟨h_2, h_3, h_4, h_5, h_6, h_7, h_8, h_9, h_10, h_11, h_12, h_15, h_13⟩, ⟨t1, t2, t3⟩, hw⟩ hf_14 (fun t ht => ?_)
      by_cases e : t = i
      · subst e
        exact pk_uLs
      · rw [pk_uLn e]
        exact hI t (by omega)
set_option maxHeartbeats 4000000 in
set_option maxRecDepth 100000 in
/-- M_act -/
theorem e_act {g : am_G} {d : Nat} {S : am_S} {T : sv_T} {th : Int32} {na : Nat} {ne nw rd : Nat → Int64} {mt : Nat → Int32} (hM : sv_N g S.1 T th na ne nw rd mt) {t0 v u w : Int32} : am_W g (d + 4) mm_M_act (0, am_ent [.ref (g.2.2.1 + 6), .int t0, .int v, .int u, .int w] 9, []) S (sv_E g S (q_act T t0 v u w) (sv_cd 4 5 6)) := by
  obtain ⟨fl, fz, fN, fS, fa, fx, fe, fs, ⟨m0, m1, m2, m3, m4, m5, m6, m7, m8, m9, m10, m11, m12⟩, ⟨t1, t2, t3⟩, hw⟩ := id hM
  have h80 := hw.2.1
  have h12 := hw.1
  show am_W g (d + 4) mm_M_act (0, [some (.ref (g.2.2.1 + 6)), some (.int t0), some (.int v), some (.int u), some (.int w), none, none, none, none], []) S _
  refine am_cut (F := (30, [some (.ref (g.2.2.1 + 6)), some (.int t0), some (.int v), some (.int u), some (.int w), none, none, none, none], [.int (sv_if (sv_iv T v ∧ sv_iv T u ∧ sv_iv T w) 1 0)])) ?_ (fun key => ?_)
  · skip
    refine am_istore (L' := [some (.ref (g.2.2.1 + 6)), some (.int t0), some (.int v), some (.int u), some (.int w), some (.int (sv_if (sv_iv T v ∧ sv_iv T u ∧ sv_iv T w) 1 0)), none, none, none]) d_M_act_30 (by decide) rfl rfl ?_
    refine am_cut (F := (71, [some (.ref (g.2.2.1 + 6)), some (.int t0), some (.int v), some (.int u), some (.int w), some (.int (sv_if (sv_iv T v ∧ sv_iv T u ∧ sv_iv T w) 1 0)), none, none, none], [.int (sv_if ((sv_iv T v ∧ sv_iv T u ∧ sv_iv T w) ∧ 0 ≤ t0 ∧ t0 ≤ 4 ∧ (T.va v).go (T.va w) ∧ (T.va u).go (T.va w)) 1 0)])) ?_ (fun key => ?_)
    · skip
      refine am_istore (L' := [some (.ref (g.2.2.1 + 6)), some (.int t0), some (.int v), some (.int u), some (.int w), some (.int (sv_if (sv_iv T v ∧ sv_iv T u ∧ sv_iv T w) 1 0)), some (.int (sv_if ((sv_iv T v ∧ sv_iv T u ∧ sv_iv T w) ∧ 0 ≤ t0 ∧ t0 ≤ 4 ∧ (T.va v).go (T.va w) ∧ (T.va u).go (T.va w)) 1 0)), none, none]) d_M_act_71 (by decide) rfl rfl ?_
      refine am_aloadn d_M_act_73 rfl ?_
      refine am_iload d_M_act_74 rfl ?_
      refine am_iload d_M_act_76 rfl ?_
      refine am_cut (F := (97, [some (.ref (g.2.2.1 + 6)), some (.int t0), some (.int v), some (.int u), some (.int w), some (.int (sv_if (sv_iv T v ∧ sv_iv T u ∧ sv_iv T w) 1 0)), some (.int (sv_if ((sv_iv T v ∧ sv_iv T u ∧ sv_iv T w) ∧ 0 ≤ t0 ∧ t0 ≤ 4 ∧ (T.va v).go (T.va w) ∧ (T.va u).go (T.va w)) 1 0)), none, none], [.int (sv_if ((sv_iv T v ∧ sv_iv T u ∧ sv_iv T w) ∧ ¬ (T.va w).fx) 1 0), .int (sv_if ((sv_iv T v ∧ sv_iv T u ∧ sv_iv T w) ∧ 0 ≤ t0 ∧ t0 ≤ 4 ∧ (T.va v).go (T.va w) ∧ (T.va u).go (T.va w)) 1 0), .int (sv_if (sv_iv T v ∧ sv_iv T u ∧ sv_iv T w) 1 0), .ref (g.2.2.1 + 6)])) ?_ (fun key => ?_)
      · skip
        refine am_cpsV [.int (sv_if (sv_iv T v ∧ sv_iv T u ∧ sv_iv T w) 1 0), .int (sv_if ((sv_iv T v ∧ sv_iv T u ∧ sv_iv T w) ∧ 0 ≤ t0 ∧ t0 ≤ 4 ∧ (T.va v).go (T.va w) ∧ (T.va u).go (T.va w)) 1 0), .int (sv_if ((sv_iv T v ∧ sv_iv T u ∧ sv_iv T w) ∧ ¬ (T.va w).fx) 1 0)] [] d_M_act_97 cV_M_109 rfl m0 rfl rfl (Nat.le_of_ble_eq_true rfl) (Nat.le_of_ble_eq_true rfl) (m_goes hM (fun b1 S1 hN1 hf1 => ?_) (fun b1 b2 S1 hN1 hf1 => ?_) (fun b1 b2 b3 S1 hN1 hf1 => ?_) (fun b1 b2 b3 S1 hN1 hf1 => ?_))
        · show am_W g (d + 4) mm_M_act (100, [some (.ref (g.2.2.1 + 6)), some (.int t0), some (.int v), some (.int u), some (.int w), some (.int (sv_if (sv_iv T v ∧ sv_iv T u ∧ sv_iv T w) 1 0)), some (.int (sv_if ((sv_iv T v ∧ sv_iv T u ∧ sv_iv T w) ∧ 0 ≤ t0 ∧ t0 ≤ 4 ∧ (T.va v).go (T.va w) ∧ (T.va u).go (T.va w)) 1 0)), none, none], [.int 0]) S1 _
          refine am_ifne (tgt := 105) d_M_act_100 (by decide) (fun hz => ?_) (fun hz => ?_)
          · exact absurd rfl hz
          · refine am_iconst 0 d_M_act_103 (by decide) ?_
            rw [q_act_4 (sv_b0 b1)]
            exact am_iret d_M_act_104 rfl (sv_E.no hN1 hf1 (by decide))
        · show am_W g (d + 4) mm_M_act (100, [some (.ref (g.2.2.1 + 6)), some (.int t0), some (.int v), some (.int u), some (.int w), some (.int (sv_if (sv_iv T v ∧ sv_iv T u ∧ sv_iv T w) 1 0)), some (.int (sv_if ((sv_iv T v ∧ sv_iv T u ∧ sv_iv T w) ∧ 0 ≤ t0 ∧ t0 ≤ 4 ∧ (T.va v).go (T.va w) ∧ (T.va u).go (T.va w)) 1 0)), none, none], [.int 0]) S1 _
          refine am_ifne (tgt := 105) d_M_act_100 (by decide) (fun hz => ?_) (fun hz => ?_)
          · exact absurd rfl hz
          · refine am_iconst 0 d_M_act_103 (by decide) ?_
            rw [q_act_5 (sv_b1 b1) (fun z => sv_b0 b2 ⟨sv_b1 b1, z.1.1, z.1.2, z.2.1, z.2.2⟩)]
            exact am_iret d_M_act_104 rfl (sv_E.no hN1 hf1 (by decide))
        · show am_W g (d + 4) mm_M_act (100, [some (.ref (g.2.2.1 + 6)), some (.int t0), some (.int v), some (.int u), some (.int w), some (.int (sv_if (sv_iv T v ∧ sv_iv T u ∧ sv_iv T w) 1 0)), some (.int (sv_if ((sv_iv T v ∧ sv_iv T u ∧ sv_iv T w) ∧ 0 ≤ t0 ∧ t0 ≤ 4 ∧ (T.va v).go (T.va w) ∧ (T.va u).go (T.va w)) 1 0)), none, none], [.int 0]) S1 _
          refine am_ifne (tgt := 105) d_M_act_100 (by decide) (fun hz => ?_) (fun hz => ?_)
          · exact absurd rfl hz
          · refine am_iconst 0 d_M_act_103 (by decide) ?_
            rw [q_act_6 (sv_b1 b2) (Classical.byContradiction (fun z => sv_b0 b3 ⟨sv_b1 b1, z⟩))]
            exact am_iret d_M_act_104 rfl (sv_E.no hN1 hf1 (by decide))
        · skip
          show am_W g (d + 4) mm_M_act (100, [some (.ref (g.2.2.1 + 6)), some (.int t0), some (.int v), some (.int u), some (.int w), some (.int (sv_if (sv_iv T v ∧ sv_iv T u ∧ sv_iv T w) 1 0)), some (.int (sv_if ((sv_iv T v ∧ sv_iv T u ∧ sv_iv T w) ∧ 0 ≤ t0 ∧ t0 ≤ 4 ∧ (T.va v).go (T.va w) ∧ (T.va u).go (T.va w)) 1 0)), none, none], [.int 1]) S1 _
          refine am_ifne (tgt := 105) d_M_act_100 (by decide) (fun hz => ?_) (fun hz => ?_)
          · skip
            have hG := sv_b1 b2
            have hX := (sv_b1 b3).2
            rw [q_act_0 hG hX]
            obtain ⟨j, hj, rfl⟩ := sv_iv_of hG.1.1 h80
            obtain ⟨k, hk, rfl⟩ := sv_iv_of hG.1.2.1 h80
            obtain ⟨l, hl, rfl⟩ := sv_iv_of hG.1.2.2 h80
            have hgo := hG.2.2.2.1
            have hgo2 := hG.2.2.2.2
            rw [sv_va_j hj h80, sv_va_j hl h80] at hgo
            rw [sv_va_j hk h80, sv_va_j hl h80] at hgo2
            rw [sv_va_j hj h80, sv_va_j hk h80, sv_va_j hl h80]
            obtain ⟨flb, fzb, fNb, fSb, fab, fxb, feb, fsb, ⟨m0b, m1b, m2b, m3b, m4b, m5b, m6b, m7b, m8b, m9b, m10b, m11b, m12b⟩, ⟨t1b, t2b, t3b⟩, hwb⟩ := id hN1
            refine am_aloadn d_M_act_105 rfl ?_
            refine am_iload d_M_act_106 rfl ?_
            refine am_cpsV [.int (nI l)] [] d_M_act_108 cV_M_117 rfl m0b rfl rfl (Nat.le_of_ble_eq_true rfl) (Nat.le_of_ble_eq_true rfl) (m_items (j := l) hN1 hl ?_)
            show am_W g (d + 4) mm_M_act (111, [some (.ref (g.2.2.1 + 6)), some (.int t0), some (.int (nI j)), some (.int (nI k)), some (.int (nI l)), some (.int (sv_if (sv_iv T (nI j) ∧ sv_iv T (nI k) ∧ sv_iv T (nI l)) 1 0)), some (.int (sv_if ((sv_iv T (nI j) ∧ sv_iv T (nI k) ∧ sv_iv T (nI l)) ∧ 0 ≤ t0 ∧ t0 ≤ 4 ∧ (T.vw j).go (T.vw l) ∧ (T.vw k).go (T.vw l)) 1 0)), none, none], [.int (nI (T.vw l).it)]) S1 _
            refine am_istore (L' := [some (.ref (g.2.2.1 + 6)), some (.int t0), some (.int (nI j)), some (.int (nI k)), some (.int (nI l)), some (.int (sv_if (sv_iv T (nI j) ∧ sv_iv T (nI k) ∧ sv_iv T (nI l)) 1 0)), some (.int (sv_if ((sv_iv T (nI j) ∧ sv_iv T (nI k) ∧ sv_iv T (nI l)) ∧ 0 ≤ t0 ∧ t0 ≤ 4 ∧ (T.vw j).go (T.vw l) ∧ (T.vw k).go (T.vw l)) 1 0)), some (.int (nI (T.vw l).it)), none]) d_M_act_111 (by decide) rfl rfl ?_
            refine am_iconst 0 d_M_act_113 (by decide) ?_
            refine am_istore (L' := [some (.ref (g.2.2.1 + 6)), some (.int t0), some (.int (nI j)), some (.int (nI k)), some (.int (nI l)), some (.int (sv_if (sv_iv T (nI j) ∧ sv_iv T (nI k) ∧ sv_iv T (nI l)) 1 0)), some (.int (sv_if ((sv_iv T (nI j) ∧ sv_iv T (nI k) ∧ sv_iv T (nI l)) ∧ 0 ≤ t0 ∧ t0 ≤ 4 ∧ (T.vw j).go (T.vw l) ∧ (T.vw k).go (T.vw l)) 1 0)), some (.int (nI (T.vw l).it)), some (.int 0)]) d_M_act_114 (by decide) rfl rfl ?_
            exact e_act_l (S := S1) hj hk hl hgo hgo2 (fun S2 v hv rd1 hN2 hf2 => ⟨⟨_, _, _, _, _, hN2⟩, hf1.tr hf2, v, rfl, fun _ => hv⟩) (T.vw l).it 0 (Nat.zero_add _) S1 rd hN1 sv_MF.rf (fun t ht => absurd ht (Nat.not_lt_zero t))
          · exact absurd hz (by decide)
      · refine am_iload d_M_act_78 rfl ?_
        refine am_ifeq (tgt := 96) d_M_act_80 (by decide) (fun hb_9 => ?_) (fun hb_9 => ?_)
        · refine am_iconst 0 d_M_act_96 (by decide) ?_
          rw [sv_if_n (c := (sv_iv T v ∧ sv_iv T u ∧ sv_iv T w) ∧ ¬ (T.va w).fx) (fun q => sv_b0 hb_9 q.1)] at key
          exact key
        · have hC := sv_b1 hb_9
          refine am_aloadn d_M_act_83 rfl ?_
          refine am_iload d_M_act_84 rfl ?_
          refine am_cpsV [.int w] [.int (sv_if ((sv_iv T v ∧ sv_iv T u ∧ sv_iv T w) ∧ 0 ≤ t0 ∧ t0 ≤ 4 ∧ (T.va v).go (T.va w) ∧ (T.va u).go (T.va w)) 1 0), .int (sv_if (sv_iv T v ∧ sv_iv T u ∧ sv_iv T w) 1 0), .ref (g.2.2.1 + 6)] d_M_act_86 cV_M_135 rfl m0 rfl rfl (Nat.le_of_ble_eq_true rfl) (Nat.le_of_ble_eq_true rfl) (m_isFixedV hM hC.2.2 ?_)
          show am_W g (d + 4) mm_M_act (89, [some (.ref (g.2.2.1 + 6)), some (.int t0), some (.int v), some (.int u), some (.int w), some (.int (sv_if (sv_iv T v ∧ sv_iv T u ∧ sv_iv T w) 1 0)), some (.int (sv_if ((sv_iv T v ∧ sv_iv T u ∧ sv_iv T w) ∧ 0 ≤ t0 ∧ t0 ≤ 4 ∧ (T.va v).go (T.va w) ∧ (T.va u).go (T.va w)) 1 0)), none, none], [.int (sv_if ((T.va w).fx) 1 0), .int (sv_if ((sv_iv T v ∧ sv_iv T u ∧ sv_iv T w) ∧ 0 ≤ t0 ∧ t0 ≤ 4 ∧ (T.va v).go (T.va w) ∧ (T.va u).go (T.va w)) 1 0), .int (sv_if (sv_iv T v ∧ sv_iv T u ∧ sv_iv T w) 1 0), .ref (g.2.2.1 + 6)]) S _
          refine am_ifne (tgt := 96) d_M_act_89 (by decide) (fun hb_10 => ?_) (fun hb_10 => ?_)
          · refine am_iconst 0 d_M_act_96 (by decide) ?_
            rw [sv_if_n (c := (sv_iv T v ∧ sv_iv T u ∧ sv_iv T w) ∧ ¬ (T.va w).fx) (fun q => q.2 (sv_b1 hb_10))] at key
            exact key
          · refine am_iconst 1 d_M_act_92 (by decide) ?_
            refine am_goto (tgt := 97) d_M_act_93 (by decide) ?_
            rw [sv_if_y (c := (sv_iv T v ∧ sv_iv T u ∧ sv_iv T w) ∧ ¬ (T.va w).fx) ⟨sv_b1 hb_9, sv_b0 hb_10⟩] at key
            exact key
    · refine am_iload d_M_act_32 rfl ?_
      refine am_ifeq (tgt := 70) d_M_act_34 (by decide) (fun hb_4 => ?_) (fun hb_4 => ?_)
      · refine am_iconst 0 d_M_act_70 (by decide) ?_
        rw [sv_if_n (c := (sv_iv T v ∧ sv_iv T u ∧ sv_iv T w) ∧ 0 ≤ t0 ∧ t0 ≤ 4 ∧ (T.va v).go (T.va w) ∧ (T.va u).go (T.va w)) (fun q => sv_b0 hb_4 q.1)] at key
        exact key
      · have hC := sv_b1 hb_4
        refine am_iloadn d_M_act_37 rfl ?_
        refine am_iflt (tgt := 70) d_M_act_38 (by decide) (fun hb_5 => ?_) (fun hb_5 => ?_)
        · refine am_iconst 0 d_M_act_70 (by decide) ?_
          rw [sv_if_n (c := (sv_iv T v ∧ sv_iv T u ∧ sv_iv T w) ∧ 0 ≤ t0 ∧ t0 ≤ 4 ∧ (T.va v).go (T.va w) ∧ (T.va u).go (T.va w)) (fun q => Int32.not_lt.mpr q.2.1 hb_5)] at key
          exact key
        · refine am_iloadn d_M_act_41 rfl ?_
          refine am_iconst 5 d_M_act_42 (by decide) ?_
          refine am_icge (tgt := 70) d_M_act_43 (by decide) (fun hb_6 => ?_) (fun hb_6 => ?_)
          · refine am_iconst 0 d_M_act_70 (by decide) ?_
            rw [sv_if_n (c := (sv_iv T v ∧ sv_iv T u ∧ sv_iv T w) ∧ 0 ≤ t0 ∧ t0 ≤ 4 ∧ (T.va v).go (T.va w) ∧ (T.va u).go (T.va w)) (fun q => sv_le4.mp q.2.2.1 hb_6)] at key
            exact key
          · refine am_aloadn d_M_act_46 rfl ?_
            refine am_iloadn d_M_act_47 rfl ?_
            refine am_iload d_M_act_48 rfl ?_
            refine am_cpsV [.int v, .int w] [] d_M_act_50 cV_M_142 rfl m0 rfl rfl (Nat.le_of_ble_eq_true rfl) (Nat.le_of_ble_eq_true rfl) (m_goesToV hM hC.1 hC.2.2 ?_)
            show am_W g (d + 4) mm_M_act (53, [some (.ref (g.2.2.1 + 6)), some (.int t0), some (.int v), some (.int u), some (.int w), some (.int (sv_if (sv_iv T v ∧ sv_iv T u ∧ sv_iv T w) 1 0)), none, none, none], [.int (sv_if ((T.va v).go (T.va w)) 1 0)]) S _
            refine am_ifeq (tgt := 70) d_M_act_53 (by decide) (fun hb_7 => ?_) (fun hb_7 => ?_)
            · refine am_iconst 0 d_M_act_70 (by decide) ?_
              rw [sv_if_n (c := (sv_iv T v ∧ sv_iv T u ∧ sv_iv T w) ∧ 0 ≤ t0 ∧ t0 ≤ 4 ∧ (T.va v).go (T.va w) ∧ (T.va u).go (T.va w)) (fun q => sv_b0 hb_7 q.2.2.2.1)] at key
              exact key
            · refine am_aloadn d_M_act_56 rfl ?_
              refine am_iloadn d_M_act_57 rfl ?_
              refine am_iload d_M_act_58 rfl ?_
              refine am_cpsV [.int u, .int w] [] d_M_act_60 cV_M_142 rfl m0 rfl rfl (Nat.le_of_ble_eq_true rfl) (Nat.le_of_ble_eq_true rfl) (m_goesToV hM hC.2.1 hC.2.2 ?_)
              show am_W g (d + 4) mm_M_act (63, [some (.ref (g.2.2.1 + 6)), some (.int t0), some (.int v), some (.int u), some (.int w), some (.int (sv_if (sv_iv T v ∧ sv_iv T u ∧ sv_iv T w) 1 0)), none, none, none], [.int (sv_if ((T.va u).go (T.va w)) 1 0)]) S _
              refine am_ifeq (tgt := 70) d_M_act_63 (by decide) (fun hb_8 => ?_) (fun hb_8 => ?_)
              · refine am_iconst 0 d_M_act_70 (by decide) ?_
                rw [sv_if_n (c := (sv_iv T v ∧ sv_iv T u ∧ sv_iv T w) ∧ 0 ≤ t0 ∧ t0 ≤ 4 ∧ (T.va v).go (T.va w) ∧ (T.va u).go (T.va w)) (fun q => sv_b0 hb_8 q.2.2.2.2)] at key
                exact key
              · refine am_iconst 1 d_M_act_66 (by decide) ?_
                refine am_goto (tgt := 71) d_M_act_67 (by decide) ?_
                rw [sv_if_y (c := (sv_iv T v ∧ sv_iv T u ∧ sv_iv T w) ∧ 0 ≤ t0 ∧ t0 ≤ 4 ∧ (T.va v).go (T.va w) ∧ (T.va u).go (T.va w)) ⟨sv_b1 hb_4, Int32.not_lt.mp hb_5, sv_le4.mpr hb_6, sv_b1 hb_7, sv_b1 hb_8⟩] at key
                exact key
  · refine am_aloadn d_M_act_0 rfl ?_
    refine am_iloadn d_M_act_1 rfl ?_
    refine am_cpsV [.int v] [] d_M_act_2 cV_M_55 rfl m0 rfl rfl (Nat.le_of_ble_eq_true rfl) (Nat.le_of_ble_eq_true rfl) (m_isView hM ?_)
    show am_W g (d + 4) mm_M_act (5, [some (.ref (g.2.2.1 + 6)), some (.int t0), some (.int v), some (.int u), some (.int w), none, none, none, none], [.int (sv_if (sv_iv T v) 1 0)]) S _
    refine am_ifeq (tgt := 29) d_M_act_5 (by decide) (fun hb_1 => ?_) (fun hb_1 => ?_)
    · refine am_iconst 0 d_M_act_29 (by decide) ?_
      rw [sv_if_n (c := sv_iv T v ∧ sv_iv T u ∧ sv_iv T w) (fun q => sv_b0 hb_1 q.1)] at key
      exact key
    · refine am_aloadn d_M_act_8 rfl ?_
      refine am_iloadn d_M_act_9 rfl ?_
      refine am_cpsV [.int u] [] d_M_act_10 cV_M_55 rfl m0 rfl rfl (Nat.le_of_ble_eq_true rfl) (Nat.le_of_ble_eq_true rfl) (m_isView hM ?_)
      show am_W g (d + 4) mm_M_act (13, [some (.ref (g.2.2.1 + 6)), some (.int t0), some (.int v), some (.int u), some (.int w), none, none, none, none], [.int (sv_if (sv_iv T u) 1 0)]) S _
      refine am_ifeq (tgt := 29) d_M_act_13 (by decide) (fun hb_2 => ?_) (fun hb_2 => ?_)
      · refine am_iconst 0 d_M_act_29 (by decide) ?_
        rw [sv_if_n (c := sv_iv T v ∧ sv_iv T u ∧ sv_iv T w) (fun q => sv_b0 hb_2 q.2.1)] at key
        exact key
      · refine am_aloadn d_M_act_16 rfl ?_
        refine am_iload d_M_act_17 rfl ?_
        refine am_cpsV [.int w] [] d_M_act_19 cV_M_55 rfl m0 rfl rfl (Nat.le_of_ble_eq_true rfl) (Nat.le_of_ble_eq_true rfl) (m_isView hM ?_)
        show am_W g (d + 4) mm_M_act (22, [some (.ref (g.2.2.1 + 6)), some (.int t0), some (.int v), some (.int u), some (.int w), none, none, none, none], [.int (sv_if (sv_iv T w) 1 0)]) S _
        refine am_ifeq (tgt := 29) d_M_act_22 (by decide) (fun hb_3 => ?_) (fun hb_3 => ?_)
        · refine am_iconst 0 d_M_act_29 (by decide) ?_
          rw [sv_if_n (c := sv_iv T v ∧ sv_iv T u ∧ sv_iv T w) (fun q => sv_b0 hb_3 q.2.2)] at key
          exact key
        · refine am_iconst 1 d_M_act_25 (by decide) ?_
          refine am_goto (tgt := 30) d_M_act_26 (by decide) ?_
          rw [sv_if_y (c := sv_iv T v ∧ sv_iv T u ∧ sv_iv T w) ⟨sv_b1 hb_1, sv_b1 hb_2, sv_b1 hb_3⟩] at key
          exact key
