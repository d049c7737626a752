/-! the reference: shape, the call -/
theorem sv_d3 {x y z : Int32} (h : ¬ (¬ x < -1 ∧ ¬ y < -1 ∧ ¬ z < -1)) : x < -1 ∨ y < -1 ∨ z < -1 := by
  by_cases h1 : x < -1
  · exact Or.inl h1
  · by_cases h2 : y < -1
    · exact Or.inr (Or.inl h2)
    · exact Or.inr (Or.inr (Classical.byContradiction (fun h3 => h ⟨h1, h2, h3⟩)))
theorem sv_shape_6 {T : sv_T} {c : Prop} {a : sv_A} (h : ¬ T.nv < 80) : sv_if c (sv_kp T a) (6, .null, T) = (6, .null, T) := by
  by_cases e : c
  · rw [sv_if_y e]; exact if_neg (fun q => h q.1)
  · rw [sv_if_n e]
set_option maxHeartbeats 4000000 in
set_option maxRecDepth 100000 in
/-- M_shape -/
theorem e_shape {g : am_G} {d : Nat} {S : am_S} {T : sv_T} {th : Int32} {na : Nat} {ne nw rd : Nat → Int64} {mt : Nat → Int32} (hM : sv_N g S.1 T th na ne nw rd mt) {v x y z : Int32} : am_W g (d + 3) mm_M_shape (0, am_ent [.ref (g.2.2.1 + 6), .int v, .int x, .int y, .int z] 7, []) S (sv_E g S (q_shape T v x y z) (sv_cd 4 5 6)) := by
  obtain ⟨fl, fz, fN, fS, fa, fx, fe, fs, ⟨m0, m1, m2, m3, m4, m5, m6, m7, m8, m9, m10, m11, m12⟩, ⟨t1, t2, t3⟩, hw⟩ := id hM
  have h80 := hw.2.1
  have h12 := hw.1
  show am_W g (d + 3) mm_M_shape (0, [some (.ref (g.2.2.1 + 6)), some (.int v), some (.int x), some (.int y), some (.int z), none, none], []) S _
  refine am_aloadn d_M_shape_0 rfl ?_
  refine am_iloadn d_M_shape_1 rfl ?_
  refine am_cpsV [.int v] [] d_M_shape_2 cV_M_55 rfl m0 rfl rfl (Nat.le_of_ble_eq_true rfl) (Nat.le_of_ble_eq_true rfl) (m_isView hM ?_)
  show am_W g (d + 3) mm_M_shape (5, [some (.ref (g.2.2.1 + 6)), some (.int v), some (.int x), some (.int y), some (.int z), none, none], [.int (sv_if (sv_iv T v) 1 0)]) S _
  refine am_istore (L' := [some (.ref (g.2.2.1 + 6)), some (.int v), some (.int x), some (.int y), some (.int z), some (.int (sv_if (sv_iv T v) 1 0)), none]) d_M_shape_5 (by decide) rfl rfl ?_
  by_cases hiv : sv_iv T v
  · obtain ⟨j, hj, rfl⟩ := sv_iv_of hiv h80
    obtain ⟨w1, w2, w3, w4, w5, w6, w7⟩ := hw.2.2.2 j hj
    rw [q_shape, sv_qv_j hj h80]
    refine am_iload d_M_shape_7 rfl ?_
    refine am_ifeq (tgt := 41) d_M_shape_9 (by decide) (fun hz => ?_) (fun hz => ?_)
    · exact absurd hiv (sv_b0 hz)
    · refine am_aloadn d_M_shape_12 rfl ?_
      refine am_iloadn d_M_shape_13 rfl ?_
      refine am_iloadn d_M_shape_14 rfl ?_
      refine am_iload d_M_shape_15 rfl ?_
      refine am_cpsV [.int x, .int y, .int z] [] d_M_shape_17 cV_M_121 rfl m0 rfl rfl (Nat.le_of_ble_eq_true rfl) (Nat.le_of_ble_eq_true rfl) (m_tells hM (x := x) (y := y) (z := z) (fun S2 ne1 nw1 hN2 hf2 hI2 => ?_))
      show am_W g (d + 3) mm_M_shape (20, [some (.ref (g.2.2.1 + 6)), some (.int (nI j)), some (.int x), some (.int y), some (.int z), some (.int (sv_if (sv_iv T (nI j)) 1 0)), none], [.int (sv_if (¬ x < -1 ∧ ¬ y < -1 ∧ ¬ z < -1) 1 0)]) S2 _
      obtain ⟨flb, fzb, fNb, fSb, fab, fxb, feb, fsb, ⟨m0b, m1b, m2b, m3b, m4b, m5b, m6b, m7b, m8b, m9b, m10b, m11b, m12b⟩, ⟨t1b, t2b, t3b⟩, hwb⟩ := id hN2
      refine am_ifeq (tgt := 41) d_M_shape_20 (by decide) (fun hd => ?_) (fun hd => ?_)
      · have hD := sv_b0 hd
        refine am_iconst 0 d_M_shape_41 (by decide) ?_
        refine am_istore (L' := [some (.ref (g.2.2.1 + 6)), some (.int (nI j)), some (.int x), some (.int y), some (.int z), some (.int (sv_if (sv_iv T (nI j)) 1 0)), some (.int 0)]) d_M_shape_42 (by decide) rfl rfl ?_
        refine am_aloadn d_M_shape_44 rfl ?_
        refine am_iload d_M_shape_45 rfl ?_
        refine am_iload d_M_shape_47 rfl ?_
        refine am_iload d_M_shape_49 rfl ?_
        refine am_ifeq (tgt := 75) d_M_shape_51 (by decide) (fun hy => ?_) (fun hy => ?_)
        · refine am_iconst 0 d_M_shape_75 (by decide) ?_
          refine am_cpsV [.int (sv_if (sv_iv T (nI j)) 1 0), .int 0, .int 0] [] d_M_shape_76 cV_M_109 rfl m0b rfl rfl (Nat.le_of_ble_eq_true rfl) (Nat.le_of_ble_eq_true rfl) (m_goes hN2 (fun b1 S4 hN1 hf1 => ?_) (fun b1 b2 S4 hN1 hf1 => ?_) (fun b1 b2 b3 S4 hN1 hf1 => ?_) (fun b1 b2 b3 S4 hN1 hf1 => ?_))
          · show am_W g (d + 3) mm_M_shape (79, [some (.ref (g.2.2.1 + 6)), some (.int (nI j)), some (.int x), some (.int y), some (.int z), some (.int (sv_if (sv_iv T (nI j)) 1 0)), some (.int 0)], [.int 0]) S4 _
            refine am_ifne (tgt := 84) d_M_shape_79 (by decide) (fun hz => ?_) (fun hz => ?_)
            · exact absurd rfl hz
            · exact absurd hiv (sv_b0 b1)
          · show am_W g (d + 3) mm_M_shape (79, [some (.ref (g.2.2.1 + 6)), some (.int (nI j)), some (.int x), some (.int y), some (.int z), some (.int (sv_if (sv_iv T (nI j)) 1 0)), some (.int 0)], [.int 0]) S4 _
            refine am_ifne (tgt := 84) d_M_shape_79 (by decide) (fun hz => ?_) (fun hz => ?_)
            · exact absurd rfl hz
            · refine am_iconst 0 d_M_shape_82 (by decide) ?_
              rw [if_pos (sv_d3 hD)]
              exact am_iret d_M_shape_83 rfl (sv_E.no hN1 (hf2.tr hf1) (by decide))
          · show am_W g (d + 3) mm_M_shape (79, [some (.ref (g.2.2.1 + 6)), some (.int (nI j)), some (.int x), some (.int y), some (.int z), some (.int (sv_if (sv_iv T (nI j)) 1 0)), some (.int 0)], [.int 0]) S4 _
            refine am_ifne (tgt := 84) d_M_shape_79 (by decide) (fun hz => ?_) (fun hz => ?_)
            · exact absurd rfl hz
            · exact absurd rfl b2
          · skip
            show am_W g (d + 3) mm_M_shape (79, [some (.ref (g.2.2.1 + 6)), some (.int (nI j)), some (.int x), some (.int y), some (.int z), some (.int (sv_if (sv_iv T (nI j)) 1 0)), some (.int 0)], [.int 1]) S4 _
            refine am_ifne (tgt := 84) d_M_shape_79 (by decide) (fun hz => ?_) (fun hz => ?_)
            · skip
              exact absurd rfl b2
            · exact absurd hz (by decide)
        · exact absurd rfl hy
      · have hD := sv_b1 hd
        rw [if_neg (fun q => q.elim hD.1 (fun q => q.elim hD.2.1 hD.2.2))]
        have he3 : (sv_ad2 (sv_ad2 (sv_ad2 (0, fun _ => 0) x) y) z) = sv_e3 x y z := by rw [sv_ad2_eq hD.1, sv_ad2_eq hD.2.1, sv_ad2_eq hD.2.2]; rfl
        obtain ⟨p3, hp3⟩ : ∃ pp : Nat × (Nat → Nat), pp = sv_e3 x y z := ⟨_, rfl⟩
        rw [← hp3] at he3 ⊢
        rw [he3] at hN2 hI2 m0b
        have hp31 : p3.1 ≤ 3 := by rw [← he3]; exact Nat.le_trans sv_ad2_le (Nat.succ_le_succ (Nat.le_trans sv_ad2_le (Nat.succ_le_succ sv_ad2_le)))
        have hOk0 : sv_ok (fun _ : Nat => 0) 0 := fun k hk => absurd hk (Nat.not_lt_zero k)
        have hOk : sv_ok p3.2 p3.1 := by rw [hp3]; exact sv_ad_ok hD.2.2 (sv_ad_ok hD.2.1 (sv_ad_ok hD.1 hOk0))
        refine am_aloadn d_M_shape_23 rfl ?_
        refine am_cpsV [] [] d_M_shape_24 cV_M_78 rfl m0b rfl rfl (Nat.le_of_ble_eq_true rfl) (Nat.le_of_ble_eq_true rfl) (m_product hN2 p3.2 (fun t ht => (hI2 t ht).1) hOk (by omega) ?_)
        show am_W g (d + 3) mm_M_shape (27, [some (.ref (g.2.2.1 + 6)), some (.int (nI j)), some (.int x), some (.int y), some (.int z), some (.int (sv_if (sv_iv T (nI j)) 1 0)), none], [.long (lN (min (sv_pr p3.2 p3.1) 3001))]) S2 _
        refine am_aloadn d_M_shape_27 rfl ?_
        refine am_iloadn d_M_shape_28 rfl ?_
        refine am_cpsV [.int (nI j)] [.long (lN (min (sv_pr p3.2 p3.1) 3001))] d_M_shape_29 cV_M_117 rfl m0b rfl rfl (Nat.le_of_ble_eq_true rfl) (Nat.le_of_ble_eq_true rfl) (m_items hN2 hj ?_)
        show am_W g (d + 3) mm_M_shape (32, [some (.ref (g.2.2.1 + 6)), some (.int (nI j)), some (.int x), some (.int y), some (.int z), some (.int (sv_if (sv_iv T (nI j)) 1 0)), none], [.int (nI (T.vw j).it), .long (lN (min (sv_pr p3.2 p3.1) 3001))]) S2 _
        refine am_i2l d_M_shape_32 ?_
        refine am_tl (b := lN (T.vw j).it) (nI_l (by omega)) ?_
        refine am_lcmp d_M_shape_33 ?_
        refine am_ifne (tgt := 41) d_M_shape_34 (by decide) (fun hm => ?_) (fun hm => ?_)
        · have hne : ¬ sv_pr p3.2 p3.1 = (T.vw j).it := fun q => hm (sv_lce.mpr (by rw [q, Nat.min_eq_left (by omega)]))
          refine am_iconst 0 d_M_shape_41 (by decide) ?_
          refine am_istore (L' := [some (.ref (g.2.2.1 + 6)), some (.int (nI j)), some (.int x), some (.int y), some (.int z), some (.int (sv_if (sv_iv T (nI j)) 1 0)), some (.int 0)]) d_M_shape_42 (by decide) rfl rfl ?_
          refine am_aloadn d_M_shape_44 rfl ?_
          refine am_iload d_M_shape_45 rfl ?_
          refine am_iload d_M_shape_47 rfl ?_
          refine am_iload d_M_shape_49 rfl ?_
          refine am_ifeq (tgt := 75) d_M_shape_51 (by decide) (fun hy => ?_) (fun hy => ?_)
          · refine am_iconst 0 d_M_shape_75 (by decide) ?_
            refine am_cpsV [.int (sv_if (sv_iv T (nI j)) 1 0), .int 0, .int 0] [] d_M_shape_76 cV_M_109 rfl m0b rfl rfl (Nat.le_of_ble_eq_true rfl) (Nat.le_of_ble_eq_true rfl) (m_goes hN2 (fun b1 S4 hN1 hf1 => ?_) (fun b1 b2 S4 hN1 hf1 => ?_) (fun b1 b2 b3 S4 hN1 hf1 => ?_) (fun b1 b2 b3 S4 hN1 hf1 => ?_))
            · show am_W g (d + 3) mm_M_shape (79, [some (.ref (g.2.2.1 + 6)), some (.int (nI j)), some (.int x), some (.int y), some (.int z), some (.int (sv_if (sv_iv T (nI j)) 1 0)), some (.int 0)], [.int 0]) S4 _
              refine am_ifne (tgt := 84) d_M_shape_79 (by decide) (fun hz => ?_) (fun hz => ?_)
              · exact absurd rfl hz
              · exact absurd hiv (sv_b0 b1)
            · show am_W g (d + 3) mm_M_shape (79, [some (.ref (g.2.2.1 + 6)), some (.int (nI j)), some (.int x), some (.int y), some (.int z), some (.int (sv_if (sv_iv T (nI j)) 1 0)), some (.int 0)], [.int 0]) S4 _
              refine am_ifne (tgt := 84) d_M_shape_79 (by decide) (fun hz => ?_) (fun hz => ?_)
              · exact absurd rfl hz
              · refine am_iconst 0 d_M_shape_82 (by decide) ?_
                rw [if_pos hne]
                exact am_iret d_M_shape_83 rfl (sv_E.no hN1 (hf2.tr hf1) (by decide))
            · show am_W g (d + 3) mm_M_shape (79, [some (.ref (g.2.2.1 + 6)), some (.int (nI j)), some (.int x), some (.int y), some (.int z), some (.int (sv_if (sv_iv T (nI j)) 1 0)), some (.int 0)], [.int 0]) S4 _
              refine am_ifne (tgt := 84) d_M_shape_79 (by decide) (fun hz => ?_) (fun hz => ?_)
              · exact absurd rfl hz
              · exact absurd rfl b2
            · skip
              show am_W g (d + 3) mm_M_shape (79, [some (.ref (g.2.2.1 + 6)), some (.int (nI j)), some (.int x), some (.int y), some (.int z), some (.int (sv_if (sv_iv T (nI j)) 1 0)), some (.int 0)], [.int 1]) S4 _
              refine am_ifne (tgt := 84) d_M_shape_79 (by decide) (fun hz => ?_) (fun hz => ?_)
              · skip
                exact absurd rfl b2
              · exact absurd hz (by decide)
          · exact absurd rfl hy
        · have hmn : min (sv_pr p3.2 p3.1) 3001 = (T.vw j).it := (lN_eq (by omega) (by omega)).mp (sv_lce.mp hm)
          have hpr : sv_pr p3.2 p3.1 = (T.vw j).it := by omega
          rw [if_neg (fun q => q hpr)]
          refine am_iconst 1 d_M_shape_37 (by decide) ?_
          refine am_goto (tgt := 42) d_M_shape_38 (by decide) ?_
          refine am_istore (L' := [some (.ref (g.2.2.1 + 6)), some (.int (nI j)), some (.int x), some (.int y), some (.int z), some (.int (sv_if (sv_iv T (nI j)) 1 0)), some (.int 1)]) d_M_shape_42 (by decide) rfl rfl ?_
          refine am_aloadn d_M_shape_44 rfl ?_
          refine am_iload d_M_shape_45 rfl ?_
          refine am_iload d_M_shape_47 rfl ?_
          refine am_iload d_M_shape_49 rfl ?_
          refine am_ifeq (tgt := 75) d_M_shape_51 (by decide) (fun hy => ?_) (fun hy => ?_)
          · exact absurd hy (by decide)
          · refine am_aloadn d_M_shape_54 rfl ?_
            refine am_get d_M_shape_55 fl_M_52 m0b rfl ?_
            refine am_bipush 80 d_M_shape_58 (by decide) ?_
            refine am_icge (tgt := 75) d_M_shape_60 (by decide) (fun h8 => ?_) (fun h8 => ?_)
            · have hv8 : ¬ T.nv < 80 := fun q => nI_ge (b := 80) q (by decide) h8
              refine am_iconst 0 d_M_shape_75 (by decide) ?_
              refine am_cpsV [.int (sv_if (sv_iv T (nI j)) 1 0), .int 1, .int 0] [] d_M_shape_76 cV_M_109 rfl m0b rfl rfl (Nat.le_of_ble_eq_true rfl) (Nat.le_of_ble_eq_true rfl) (m_goes hN2 (fun b1 S5 hN1 hf1 => ?_) (fun b1 b2 S5 hN1 hf1 => ?_) (fun b1 b2 b3 S5 hN1 hf1 => ?_) (fun b1 b2 b3 S5 hN1 hf1 => ?_))
              · show am_W g (d + 3) mm_M_shape (79, [some (.ref (g.2.2.1 + 6)), some (.int (nI j)), some (.int x), some (.int y), some (.int z), some (.int (sv_if (sv_iv T (nI j)) 1 0)), some (.int 1)], [.int 0]) S5 _
                refine am_ifne (tgt := 84) d_M_shape_79 (by decide) (fun hz => ?_) (fun hz => ?_)
                · exact absurd rfl hz
                · exact absurd hiv (sv_b0 b1)
              · show am_W g (d + 3) mm_M_shape (79, [some (.ref (g.2.2.1 + 6)), some (.int (nI j)), some (.int x), some (.int y), some (.int z), some (.int (sv_if (sv_iv T (nI j)) 1 0)), some (.int 1)], [.int 0]) S5 _
                refine am_ifne (tgt := 84) d_M_shape_79 (by decide) (fun hz => ?_) (fun hz => ?_)
                · exact absurd rfl hz
                · exact absurd b2 (by decide)
              · show am_W g (d + 3) mm_M_shape (79, [some (.ref (g.2.2.1 + 6)), some (.int (nI j)), some (.int x), some (.int y), some (.int z), some (.int (sv_if (sv_iv T (nI j)) 1 0)), some (.int 1)], [.int 0]) S5 _
                refine am_ifne (tgt := 84) d_M_shape_79 (by decide) (fun hz => ?_) (fun hz => ?_)
                · exact absurd rfl hz
                · refine am_iconst 0 d_M_shape_82 (by decide) ?_
                  rw [sv_shape_6 hv8]
                  exact am_iret d_M_shape_83 rfl (sv_E.no hN1 (hf2.tr hf1) (by decide))
              · skip
                show am_W g (d + 3) mm_M_shape (79, [some (.ref (g.2.2.1 + 6)), some (.int (nI j)), some (.int x), some (.int y), some (.int z), some (.int (sv_if (sv_iv T (nI j)) 1 0)), some (.int 1)], [.int 1]) S5 _
                refine am_ifne (tgt := 84) d_M_shape_79 (by decide) (fun hz => ?_) (fun hz => ?_)
                · skip
                  exact absurd rfl b3
                · exact absurd hz (by decide)
            · have hv8 : T.nv < 80 := Nat.lt_of_not_le (fun q => h8 (nI_le (a := 80) q (by omega)))
              refine am_aloadn d_M_shape_63 rfl ?_
              refine am_iloadn d_M_shape_64 rfl ?_
              refine am_cpsV [.int (nI j)] [.int 1, .int (sv_if (sv_iv T (nI j)) 1 0), .ref (g.2.2.1 + 6)] d_M_shape_65 cV_M_125 rfl m0b rfl rfl (Nat.le_of_ble_eq_true rfl) (Nat.le_of_ble_eq_true rfl) (m_find hN2 hj p3.2 (fun t ht => (hI2 t ht).1) hOk hp31 hpr (fun h0 => ?_) (fun h0 S3 Nw hN3 hf3 hI3 => ?_))
              · show am_W g (d + 3) mm_M_shape (68, [some (.ref (g.2.2.1 + 6)), some (.int (nI j)), some (.int x), some (.int y), some (.int z), some (.int (sv_if (sv_iv T (nI j)) 1 0)), some (.int 1)], [.int 1, .int 1, .int (sv_if (sv_iv T (nI j)) 1 0), .ref (g.2.2.1 + 6)]) S2 _
                refine am_ifeq (tgt := 75) d_M_shape_68 (by decide) (fun hq => ?_) (fun hq => ?_)
                · exact absurd hq (by decide)
                · refine am_iconst 1 d_M_shape_71 (by decide) ?_
                  refine am_goto (tgt := 76) d_M_shape_72 (by decide) ?_
                  refine am_cpsV [.int (sv_if (sv_iv T (nI j)) 1 0), .int 1, .int 1] [] d_M_shape_76 cV_M_109 rfl m0b rfl rfl (Nat.le_of_ble_eq_true rfl) (Nat.le_of_ble_eq_true rfl) (m_goes hN2 (fun b1 S6 hN1 hf1 => ?_) (fun b1 b2 S6 hN1 hf1 => ?_) (fun b1 b2 b3 S6 hN1 hf1 => ?_) (fun b1 b2 b3 S6 hN1 hf1 => ?_))
                  · show am_W g (d + 3) mm_M_shape (79, [some (.ref (g.2.2.1 + 6)), some (.int (nI j)), some (.int x), some (.int y), some (.int z), some (.int (sv_if (sv_iv T (nI j)) 1 0)), some (.int 1)], [.int 0]) S6 _
                    refine am_ifne (tgt := 84) d_M_shape_79 (by decide) (fun hz => ?_) (fun hz => ?_)
                    · exact absurd rfl hz
                    · exact absurd hiv (sv_b0 b1)
                  · show am_W g (d + 3) mm_M_shape (79, [some (.ref (g.2.2.1 + 6)), some (.int (nI j)), some (.int x), some (.int y), some (.int z), some (.int (sv_if (sv_iv T (nI j)) 1 0)), some (.int 1)], [.int 0]) S6 _
                    refine am_ifne (tgt := 84) d_M_shape_79 (by decide) (fun hz => ?_) (fun hz => ?_)
                    · exact absurd rfl hz
                    · exact absurd b2 (by decide)
                  · show am_W g (d + 3) mm_M_shape (79, [some (.ref (g.2.2.1 + 6)), some (.int (nI j)), some (.int x), some (.int y), some (.int z), some (.int (sv_if (sv_iv T (nI j)) 1 0)), some (.int 1)], [.int 0]) S6 _
                    refine am_ifne (tgt := 84) d_M_shape_79 (by decide) (fun hz => ?_) (fun hz => ?_)
                    · exact absurd rfl hz
                    · exact absurd b3 (by decide)
                  · skip
                    show am_W g (d + 3) mm_M_shape (79, [some (.ref (g.2.2.1 + 6)), some (.int (nI j)), some (.int x), some (.int y), some (.int z), some (.int (sv_if (sv_iv T (nI j)) 1 0)), some (.int 1)], [.int 1]) S6 _
                    refine am_ifne (tgt := 84) d_M_shape_79 (by decide) (fun hz => ?_) (fun hz => ?_)
                    · skip
                      rw [sv_if_y (fun t ht => absurd ht (by omega)), sv_kp_0 (sp2 := fun _ => 0) (hpr.trans h0)]
                      obtain ⟨flh, fzh, fNh, fSh, fah, fxh, feh, fsh, ⟨m0h, m1h, m2h, m3h, m4h, m5h, m6h, m7h, m8h, m9h, m10h, m11h, m12h⟩, ⟨t1h, t2h, t3h⟩, hwh⟩ := id hN1
                      obtain ⟨u1, u2, u3, u4⟩ := t3h j hj
                      refine am_aloadn d_M_shape_84 rfl ?_
                      refine am_aloadn d_M_shape_85 rfl ?_
                      refine am_get d_M_shape_86 fl_M_20 m0h rfl ?_
                      refine am_iloadn d_M_shape_89 rfl ?_
                      refine am_ialdN (t := 0) (k := j) d_M_shape_90 rfl m4h (by omega) (by omega) ?_
                      refine am_ti (b := nI (T.vw j).st) u1 ?_
                      refine am_aloadn d_M_shape_91 rfl ?_
                      refine am_iloadn d_M_shape_92 rfl ?_
                      refine am_cpsV [.int (nI j)] [.int (nI (T.vw j).st), .ref (g.2.2.1 + 6)] d_M_shape_93 cV_M_117 rfl m0h rfl rfl (Nat.le_of_ble_eq_true rfl) (Nat.le_of_ble_eq_true rfl) (m_items hN1 hj ?_)
                      show am_W g (d + 3) mm_M_shape (96, [some (.ref (g.2.2.1 + 6)), some (.int (nI j)), some (.int x), some (.int y), some (.int z), some (.int (sv_if (sv_iv T (nI j)) 1 0)), some (.int 1)], [.int (nI (T.vw j).it), .int (nI (T.vw j).st), .ref (g.2.2.1 + 6)]) S6 _
                      refine am_ifne (tgt := 103) d_M_shape_96 (by decide) (fun hi0 => ?_) (fun hi0 => ?_)
                      · exact absurd (by rw [h0]; exact nI_0) hi0
                      · refine am_lconst 0 d_M_shape_99 (by decide) ?_
                        refine am_goto (tgt := 110) d_M_shape_100 (by decide) ?_
                        refine am_cpsV [.int (nI (T.vw j).st), .long 0] [] d_M_shape_110 cV_M_101 rfl m0h rfl rfl (Nat.le_of_ble_eq_true rfl) (Nat.le_of_ble_eq_true rfl) (m_add hN1 (a := ((T.vw j).st, (T.vw j).sa, p3.1, p3.2, fun _ => 0)) rfl (show p3.1 ≤ 4 by omega) (fun t ht => (hI2 t ht).1) (fun t ht => by rw [(hI2 t ht).2]; rfl) hOk (show sv_pr p3.2 p3.1 ≤ 3000 by omega) w1 (fun t ht => absurd ht (by show ¬ t < sv_pr p3.2 p3.1; omega)) hv8 (by rw [(w5 h0).1]; rfl) (fun S9 hN9 hf9 => ?_))
                        show am_W g (d + 3) mm_M_shape (113, [some (.ref (g.2.2.1 + 6)), some (.int (nI j)), some (.int x), some (.int y), some (.int z), some (.int (sv_if (sv_iv T (nI j)) 1 0)), some (.int 1)], [.int (nI T.nv)]) S9 _
                        rw [sv_kp, if_pos ⟨hv8, (show sv_pr p3.2 p3.1 ≤ 3000 by omega)⟩]
                        exact am_iret d_M_shape_113 rfl (sv_E.ok hN9 ((hf2.tr hf1).tr hf9))
                    · exact absurd hz (by decide)
              · obtain ⟨flk, fzk, fNk, fSk, fak, fxk, fek, fsk, ⟨m0k, m1k, m2k, m3k, m4k, m5k, m6k, m7k, m8k, m9k, m10k, m11k, m12k⟩, ⟨t1k, t2k, t3k⟩, hwk⟩ := id hN3
                show am_W g (d + 3) mm_M_shape (68, [some (.ref (g.2.2.1 + 6)), some (.int (nI j)), some (.int x), some (.int y), some (.int z), some (.int (sv_if (sv_iv T (nI j)) 1 0)), some (.int 1)], [.int (sv_if (∀ t, t < (T.vw j).it → (T.vw j).sa + sv_pl p3.2 (sv_gs (T.vw j) p3.1 p3.2) p3.1 t = (T.vw j).pl t) 1 0), .int 1, .int (sv_if (sv_iv T (nI j)) 1 0), .ref (g.2.2.1 + 6)]) S3 _
                refine am_ifeq (tgt := 75) d_M_shape_68 (by decide) (fun hq => ?_) (fun hq => ?_)
                · have hno := sv_b0 hq
                  refine am_iconst 0 d_M_shape_75 (by decide) ?_
                  refine am_cpsV [.int (sv_if (sv_iv T (nI j)) 1 0), .int 1, .int 0] [] d_M_shape_76 cV_M_109 rfl m0k rfl rfl (Nat.le_of_ble_eq_true rfl) (Nat.le_of_ble_eq_true rfl) (m_goes hN3 (fun b1 S5 hN1 hf1 => ?_) (fun b1 b2 S5 hN1 hf1 => ?_) (fun b1 b2 b3 S5 hN1 hf1 => ?_) (fun b1 b2 b3 S5 hN1 hf1 => ?_))
                  · show am_W g (d + 3) mm_M_shape (79, [some (.ref (g.2.2.1 + 6)), some (.int (nI j)), some (.int x), some (.int y), some (.int z), some (.int (sv_if (sv_iv T (nI j)) 1 0)), some (.int 1)], [.int 0]) S5 _
                    refine am_ifne (tgt := 84) d_M_shape_79 (by decide) (fun hz => ?_) (fun hz => ?_)
                    · exact absurd rfl hz
                    · exact absurd hiv (sv_b0 b1)
                  · show am_W g (d + 3) mm_M_shape (79, [some (.ref (g.2.2.1 + 6)), some (.int (nI j)), some (.int x), some (.int y), some (.int z), some (.int (sv_if (sv_iv T (nI j)) 1 0)), some (.int 1)], [.int 0]) S5 _
                    refine am_ifne (tgt := 84) d_M_shape_79 (by decide) (fun hz => ?_) (fun hz => ?_)
                    · exact absurd rfl hz
                    · exact absurd b2 (by decide)
                  · show am_W g (d + 3) mm_M_shape (79, [some (.ref (g.2.2.1 + 6)), some (.int (nI j)), some (.int x), some (.int y), some (.int z), some (.int (sv_if (sv_iv T (nI j)) 1 0)), some (.int 1)], [.int 0]) S5 _
                    refine am_ifne (tgt := 84) d_M_shape_79 (by decide) (fun hz => ?_) (fun hz => ?_)
                    · exact absurd rfl hz
                    · refine am_iconst 0 d_M_shape_82 (by decide) ?_
                      rw [sv_if_n hno]
                      exact am_iret d_M_shape_83 rfl (sv_E.no hN1 (hf2.tr (hf3.tr hf1)) (by decide))
                  · skip
                    show am_W g (d + 3) mm_M_shape (79, [some (.ref (g.2.2.1 + 6)), some (.int (nI j)), some (.int x), some (.int y), some (.int z), some (.int (sv_if (sv_iv T (nI j)) 1 0)), some (.int 1)], [.int 1]) S5 _
                    refine am_ifne (tgt := 84) d_M_shape_79 (by decide) (fun hz => ?_) (fun hz => ?_)
                    · skip
                      exact absurd rfl b3
                    · exact absurd hz (by decide)
                · have hfit := sv_b1 hq
                  refine am_iconst 1 d_M_shape_71 (by decide) ?_
                  refine am_goto (tgt := 76) d_M_shape_72 (by decide) ?_
                  refine am_cpsV [.int (sv_if (sv_iv T (nI j)) 1 0), .int 1, .int 1] [] d_M_shape_76 cV_M_109 rfl m0k rfl rfl (Nat.le_of_ble_eq_true rfl) (Nat.le_of_ble_eq_true rfl) (m_goes hN3 (fun b1 S6 hN1 hf1 => ?_) (fun b1 b2 S6 hN1 hf1 => ?_) (fun b1 b2 b3 S6 hN1 hf1 => ?_) (fun b1 b2 b3 S6 hN1 hf1 => ?_))
                  · show am_W g (d + 3) mm_M_shape (79, [some (.ref (g.2.2.1 + 6)), some (.int (nI j)), some (.int x), some (.int y), some (.int z), some (.int (sv_if (sv_iv T (nI j)) 1 0)), some (.int 1)], [.int 0]) S6 _
                    refine am_ifne (tgt := 84) d_M_shape_79 (by decide) (fun hz => ?_) (fun hz => ?_)
                    · exact absurd rfl hz
                    · exact absurd hiv (sv_b0 b1)
                  · show am_W g (d + 3) mm_M_shape (79, [some (.ref (g.2.2.1 + 6)), some (.int (nI j)), some (.int x), some (.int y), some (.int z), some (.int (sv_if (sv_iv T (nI j)) 1 0)), some (.int 1)], [.int 0]) S6 _
                    refine am_ifne (tgt := 84) d_M_shape_79 (by decide) (fun hz => ?_) (fun hz => ?_)
                    · exact absurd rfl hz
                    · exact absurd b2 (by decide)
                  · show am_W g (d + 3) mm_M_shape (79, [some (.ref (g.2.2.1 + 6)), some (.int (nI j)), some (.int x), some (.int y), some (.int z), some (.int (sv_if (sv_iv T (nI j)) 1 0)), some (.int 1)], [.int 0]) S6 _
                    refine am_ifne (tgt := 84) d_M_shape_79 (by decide) (fun hz => ?_) (fun hz => ?_)
                    · exact absurd rfl hz
                    · exact absurd b3 (by decide)
                  · skip
                    show am_W g (d + 3) mm_M_shape (79, [some (.ref (g.2.2.1 + 6)), some (.int (nI j)), some (.int x), some (.int y), some (.int z), some (.int (sv_if (sv_iv T (nI j)) 1 0)), some (.int 1)], [.int 1]) S6 _
                    refine am_ifne (tgt := 84) d_M_shape_79 (by decide) (fun hz => ?_) (fun hz => ?_)
                    · skip
                      rw [sv_if_y hfit]
                      obtain ⟨flh, fzh, fNh, fSh, fah, fxh, feh, fsh, ⟨m0h, m1h, m2h, m3h, m4h, m5h, m6h, m7h, m8h, m9h, m10h, m11h, m12h⟩, ⟨t1h, t2h, t3h⟩, hwh⟩ := id hN1
                      obtain ⟨u1, u2, u3, u4⟩ := t3h j hj
                      refine am_aloadn d_M_shape_84 rfl ?_
                      refine am_aloadn d_M_shape_85 rfl ?_
                      refine am_get d_M_shape_86 fl_M_20 m0h rfl ?_
                      refine am_iloadn d_M_shape_89 rfl ?_
                      refine am_ialdN (t := 0) (k := j) d_M_shape_90 rfl m4h (by omega) (by omega) ?_
                      refine am_ti (b := nI (T.vw j).st) u1 ?_
                      refine am_aloadn d_M_shape_91 rfl ?_
                      refine am_iloadn d_M_shape_92 rfl ?_
                      refine am_cpsV [.int (nI j)] [.int (nI (T.vw j).st), .ref (g.2.2.1 + 6)] d_M_shape_93 cV_M_117 rfl m0h rfl rfl (Nat.le_of_ble_eq_true rfl) (Nat.le_of_ble_eq_true rfl) (m_items hN1 hj ?_)
                      show am_W g (d + 3) mm_M_shape (96, [some (.ref (g.2.2.1 + 6)), some (.int (nI j)), some (.int x), some (.int y), some (.int z), some (.int (sv_if (sv_iv T (nI j)) 1 0)), some (.int 1)], [.int (nI (T.vw j).it), .int (nI (T.vw j).st), .ref (g.2.2.1 + 6)]) S6 _
                      refine am_ifne (tgt := 103) d_M_shape_96 (by decide) (fun hi0 => ?_) (fun hi0 => ?_)
                      · refine am_aloadn d_M_shape_103 rfl ?_
                        refine am_iloadn d_M_shape_104 rfl ?_
                        refine am_iconst 0 d_M_shape_105 (by decide) ?_
                        show am_W _ _ _ (_, _, .int (nI 0) :: _) _ _
                        refine am_cpsV [.int (nI j), .int (nI 0)] [.int (nI (T.vw j).st), .ref (g.2.2.1 + 6)] d_M_shape_106 cV_M_70 rfl m0h rfl rfl (Nat.le_of_ble_eq_true rfl) (Nat.le_of_ble_eq_true rfl) (m_place hN1 hj (i := 0) h0 ?_)
                        show am_W g (d + 3) mm_M_shape (109, [some (.ref (g.2.2.1 + 6)), some (.int (nI j)), some (.int x), some (.int y), some (.int z), some (.int (sv_if (sv_iv T (nI j)) 1 0)), some (.int 1)], [.int ((T.vw j).pl 0), .int (nI (T.vw j).st), .ref (g.2.2.1 + 6)]) S6 _
                        refine am_i2l d_M_shape_109 ?_
                        refine am_cpsV [.int (nI (T.vw j).st), .long (((T.vw j).pl 0).toInt64)] [] d_M_shape_110 cV_M_101 rfl m0h rfl rfl (Nat.le_of_ble_eq_true rfl) (Nat.le_of_ble_eq_true rfl) (m_add hN1 (a := ((T.vw j).st, (T.vw j).sa, p3.1, p3.2, sv_gs (T.vw j) p3.1 p3.2)) rfl (show p3.1 ≤ 4 by omega) (fun t ht => (hI2 t ht).1) (fun t ht => by rw [hI3 t ht]; exact sv_li2 _) hOk (show sv_pr p3.2 p3.1 ≤ 3000 by omega) w1 (fun t ht => by
                                have ht : t < (T.vw j).it := by rw [← hpr]; exact ht
                                show vp_in ((T.vw j).sa + sv_pl p3.2 (sv_gs (T.vw j) p3.1 p3.2) p3.1 t) (T.sz (T.vw j).st)
                                rw [hfit t ht]; exact w7 t ht) hv8 (by rw [sv_pl_0]; exact sv_li2 _) (fun S9 hN9 hf9 => ?_))
                        show am_W g (d + 3) mm_M_shape (113, [some (.ref (g.2.2.1 + 6)), some (.int (nI j)), some (.int x), some (.int y), some (.int z), some (.int (sv_if (sv_iv T (nI j)) 1 0)), some (.int 1)], [.int (nI T.nv)]) S9 _
                        rw [sv_kp, if_pos ⟨hv8, (show sv_pr p3.2 p3.1 ≤ 3000 by omega)⟩]
                        exact am_iret d_M_shape_113 rfl (sv_E.ok hN9 ((hf2.tr (hf3.tr hf1)).tr hf9))
                      · exact absurd ((nI_eq (b := 0) (by omega) (by decide)).mp (hi0.trans nI_0.symm)) (by omega)
                    · exact absurd hz (by decide)
  · refine am_iload d_M_shape_7 rfl ?_
    refine am_ifeq (tgt := 41) d_M_shape_9 (by decide) (fun hz => ?_) (fun hz => ?_)
    · refine am_iconst 0 d_M_shape_41 (by decide) ?_
      refine am_istore (L' := [some (.ref (g.2.2.1 + 6)), some (.int v), some (.int x), some (.int y), some (.int z), some (.int (sv_if (sv_iv T v) 1 0)), some (.int 0)]) d_M_shape_42 (by decide) rfl rfl ?_
      refine am_aloadn d_M_shape_44 rfl ?_
      refine am_iload d_M_shape_45 rfl ?_
      refine am_iload d_M_shape_47 rfl ?_
      refine am_iload d_M_shape_49 rfl ?_
      refine am_ifeq (tgt := 75) d_M_shape_51 (by decide) (fun hy => ?_) (fun hy => ?_)
      · refine am_iconst 0 d_M_shape_75 (by decide) ?_
        refine am_cpsV [.int (sv_if (sv_iv T v) 1 0), .int 0, .int 0] [] d_M_shape_76 cV_M_109 rfl m0 rfl rfl (Nat.le_of_ble_eq_true rfl) (Nat.le_of_ble_eq_true rfl) (m_goes hM (fun b1 S1 hN1 hf1 => ?_) (fun b1 b2 S1 hN1 hf1 => ?_) (fun b1 b2 b3 S1 hN1 hf1 => ?_) (fun b1 b2 b3 S1 hN1 hf1 => ?_))
        · show am_W g (d + 3) mm_M_shape (79, [some (.ref (g.2.2.1 + 6)), some (.int v), some (.int x), some (.int y), some (.int z), some (.int (sv_if (sv_iv T v) 1 0)), some (.int 0)], [.int 0]) S1 _
          refine am_ifne (tgt := 84) d_M_shape_79 (by decide) (fun hz => ?_) (fun hz => ?_)
          · exact absurd rfl hz
          · refine am_iconst 0 d_M_shape_82 (by decide) ?_
            rw [q_shape, sv_qv_no hiv]
            exact am_iret d_M_shape_83 rfl (sv_E.no hN1 hf1 (by decide))
        · show am_W g (d + 3) mm_M_shape (79, [some (.ref (g.2.2.1 + 6)), some (.int v), some (.int x), some (.int y), some (.int z), some (.int (sv_if (sv_iv T v) 1 0)), some (.int 0)], [.int 0]) S1 _
          refine am_ifne (tgt := 84) d_M_shape_79 (by decide) (fun hz => ?_) (fun hz => ?_)
          · exact absurd rfl hz
          · exact absurd (sv_b1 b1) hiv
        · show am_W g (d + 3) mm_M_shape (79, [some (.ref (g.2.2.1 + 6)), some (.int v), some (.int x), some (.int y), some (.int z), some (.int (sv_if (sv_iv T v) 1 0)), some (.int 0)], [.int 0]) S1 _
          refine am_ifne (tgt := 84) d_M_shape_79 (by decide) (fun hz => ?_) (fun hz => ?_)
          · exact absurd rfl hz
          · exact absurd (sv_b1 b1) hiv
        · skip
          show am_W g (d + 3) mm_M_shape (79, [some (.ref (g.2.2.1 + 6)), some (.int v), some (.int x), some (.int y), some (.int z), some (.int (sv_if (sv_iv T v) 1 0)), some (.int 0)], [.int 1]) S1 _
          refine am_ifne (tgt := 84) d_M_shape_79 (by decide) (fun hz => ?_) (fun hz => ?_)
          · skip
            exact absurd (sv_b1 b1) hiv
          · exact absurd hz (by decide)
      · exact absurd rfl hy
    · exact absurd (sv_b1 hz) hiv
