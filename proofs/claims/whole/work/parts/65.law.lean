/-! the law: call after call, what the class answers is what the reference answers -/
def lw_a (g : am_G) (k : Nat) : Int32 := g.2.2.2.2.2.2.2 k
def lw_I (g : am_G) (S : am_S) (T : sv_T) : Prop := (∃ (lo : Nat) (as av : Nat → Nat), sv_C g lo S T as av) ∧ (∃ (th : Int32) (na : Nat) (ne nw rd : Nat → Int64) (mt : Nat → Int32), sv_N g S.1 T th na ne nw rd mt) ∧ ∃ f : Nat → Int64, sv_oc g S.1 f
def lw_K (g : am_G) (d i : Nat) (S : am_S) (P : am_O → am_S → Prop) : Prop := ∀ (S1 : am_S) (T1 : sv_T), lw_I g S1 T1 → S1.2.1 ≤ S.2.1 + 16 → S1.2.2 ≤ S.2.2 + 700 → am_W g (d + 5) mm_L_law (1677, [some (.ref g.2.2.2.2.2.1), some (.ref g.2.2.1), some (.ref (g.2.2.1 + 6)), some (.ref (g.2.2.1 + 19)), some (.int (nI i)), none, none, none], []) S1 P
theorem sv_N.obj {g : am_G} {M : am_M} {T : sv_T} {th : Int32} {na : Nat} {ne nw rd : Nat → Int64} {mt : Nat → Int32} (h : sv_N g M T th na ne nw rd mt) : ∃ fs : List Value, M (g.2.2.1 + 6) = some (.inr (3, fs)) := by
  obtain ⟨fl, fz, fN, fS, fa, fx, fe, fs, ⟨m0, -⟩, -, -⟩ := h
  exact ⟨_, m0⟩
theorem lw_arg {g : am_G} {d pc i j : Nat} {L : List (Option Value)} {st : List Value} {S : am_S} {P : am_O → am_S → Prop} {n : Int} (d0 : decode code pc = .ok (.aload_n 0, 1)) (d1 : decode code (pc + 1) = .ok (.iload 4, 2)) (d3 : decode code (pc + 3) = .ok (.iconst n, 1)) (d4 : decode code (pc + 4) = .ok (.iadd, 1)) (d5 : decode code (pc + 5) = .ok (.iaload, 1)) (hv : Int32.ofInt n = nI j) (h0 : L[0]? = some (some (.ref g.2.2.2.2.2.1))) (h4 : L[4]? = some (some (.int (nI i)))) (hj : i + j < g.2.2.2.2.2.2.1) (hn : g.2.2.2.2.2.2.1 < 2 ^ 31) (k : am_W g d mm_L_law (pc + 6, L, .int (lw_a g (i + j)) :: st) S P) : am_W g d mm_L_law (pc, L, st) S P := by
  refine am_aloadn (n := 0) d0 h0 ?_
  refine am_iload d1 h4 ?_
  refine am_iconst (nI j) d3 hv ?_
  refine am_iadd d4 ?_
  refine am_ti (nI_add i j) ?_
  refine am_sld d5 (vp_in_nI hj hn) ?_
  rw [nI_clamp (Nat.lt_trans hj hn)]
  exact k
theorem lw_cmp {n i : Nat} (hn : n < 10000) (hi : i < 10000) : (nI n - 6 < nI i) ↔ n < i + 6 := by
  rcases Nat.lt_or_ge n 6 with h | h
  · refine ⟨fun _ => by omega, fun _ => ?_⟩
    have h1 : ∀ m : Nat, m < 6 → nI m - 6 < 0 := by decide +kernel
    exact Int32.lt_of_lt_of_le (h1 n h) (nI_pos' (by omega))
  · rw [show nI n - 6 = nI (n - 6) from nI_subN (b := 6) h rfl, nI_ltI (by omega) (by omega)]
    omega
def lw_T0 : sv_T := (0, fun _ => 0, fun _ => 0, fun _ _ => 0, 0, fun _ => (0, 0, 0, fun _ => 0, fun _ => 0))
theorem lw_wf0 : sv_wf lw_T0 := ⟨Nat.zero_le _, Nat.zero_le _, fun i hi => absurd hi (Nat.not_lt_zero i), fun i hi => absurd hi (Nat.not_lt_zero i)⟩
theorem lw_X {g : am_G} {M M2 : am_M} {ns nv : Nat} {qs qv : Nat → Option Nat} {fp : Nat → Int32} {fn : Nat → Int64} {fm : Nat → Int32} (h : sv_X g M ns nv qs qv fp fn fm) (hq : ∀ q, q < g.2.2.1 + 6 → M2 q = M q) : sv_X g M2 ns nv qs qv fp fn fm :=
  ⟨(hq _ (by omega)).trans h.1, (hq _ (by omega)).trans h.2.1, (hq _ (by omega)).trans h.2.2.1, (hq _ (by omega)).trans h.2.2.2.1, (hq _ (by omega)).trans h.2.2.2.2.1, (hq _ (by omega)).trans h.2.2.2.2.2⟩
set_option maxHeartbeats 4000000 in
set_option maxRecDepth 100000 in
/-- law, store -/
theorem lw_store {g : am_G} {d i : Nat} {S : am_S} {T : sv_T} {P : am_O → am_S → Prop} (hn : g.2.2.2.2.2.2.1 ≤ 3072) (hi : i + 6 ≤ g.2.2.2.2.2.2.1) (hI : lw_I g S T) (hr : sv_R g S 16 700) (k : lw_K g d i S P) : am_W g (d + 5) mm_L_law (136, [some (.ref g.2.2.2.2.2.1), some (.ref g.2.2.1), some (.ref (g.2.2.1 + 6)), some (.ref (g.2.2.1 + 19)), some (.int (nI i)), none, none, none], []) S P := by
  obtain ⟨⟨lo, as, av, hC⟩, ⟨th, na, ne, nw, rd, mt, hN⟩, f, ho⟩ := hI
  refine am_aloadn d_L_law_136 rfl ?_
  refine lw_arg (j := 1) d_L_law_137 d_L_law_138 d_L_law_140 d_L_law_141 d_L_law_142 (by decide) rfl rfl (by omega) (by omega) ?_
  refine lw_arg (j := 2) d_L_law_143 d_L_law_144 d_L_law_146 d_L_law_147 d_L_law_148 (by decide) rfl rfl (by omega) (by omega) ?_
  refine am_aloadn d_L_law_149 rfl ?_
  have hW : am_W g (d + 4) mm_L_store (0, am_ent [.ref g.2.2.1, .int (lw_a g (i + 1)), .int (lw_a g (i + 2)), .ref (g.2.2.1 + 19)] 5, []) S (sv_L g S (q_store T (lw_a g (i + 1)) (lw_a g (i + 2))) (sv_cd 5 6 9)) := w_store hC hr ho
  have hE : ∀ S1 : am_S, sv_N g S1.1 T th na ne nw rd mt → am_W g (d + 4) mm_M_store (0, am_ent [.ref (g.2.2.1 + 6), .int (lw_a g (i + 1)), .int (lw_a g (i + 2))] 3, []) S1 (sv_E g S1 (q_store T (lw_a g (i + 1)) (lw_a g (i + 2))) (sv_cd 5 6 9)) := fun S1 h => e_store (d := d + 2) h
  have hk := k_store (T := T) (ln := lw_a g (i + 1)) (n := lw_a g (i + 2))
  generalize q_store T (lw_a g (i + 1)) (lw_a g (i + 2)) = q at hW hE hk
  refine am_callS (P' := sv_L g S q (sv_cd 5 6 9)) [.ref g.2.2.1, .int (lw_a g (i + 1)), .int (lw_a g (i + 2)), .ref (g.2.2.1 + 19)] [] d_L_law_150 cS_L_87 rfl rfl (Nat.le_of_ble_eq_true rfl) (Nat.le_of_ble_eq_true rfl) hW (fun v1 S1 h1 => ?_) (fun x1 S1 h1 => ?_)
  · obtain ⟨⟨lo1, as1, av1, hC1⟩, ⟨hM1, hg1, hg2⟩, ⟨f1, ho1, hv1⟩, hr1⟩ := h1
    obtain rfl := Sum.inl.inj hr1
    have hN1 := hN.keep hM1
    obtain ⟨fs1, hm1⟩ := hN1.obj
    show am_W g (d + 5) mm_L_law (153, [some (.ref g.2.2.2.2.2.1), some (.ref g.2.2.1), some (.ref (g.2.2.1 + 6)), some (.ref (g.2.2.1 + 19)), some (.int (nI i)), none, none, none], [.int (sv_cd 5 6 9 q.1)]) S1 _
    refine am_istore (L' := [some (.ref g.2.2.2.2.2.1), some (.ref g.2.2.1), some (.ref (g.2.2.1 + 6)), some (.ref (g.2.2.1 + 19)), some (.int (nI i)), some (.int (sv_cd 5 6 9 q.1)), none, none]) d_L_law_153 (by decide) rfl rfl ?_
    refine am_aloadn d_L_law_155 rfl ?_
    refine lw_arg (j := 1) d_L_law_156 d_L_law_157 d_L_law_159 d_L_law_160 d_L_law_161 (by decide) rfl rfl (by omega) (by omega) ?_
    refine lw_arg (j := 2) d_L_law_162 d_L_law_163 d_L_law_165 d_L_law_166 d_L_law_167 (by decide) rfl rfl (by omega) (by omega) ?_
    refine am_callV (P' := sv_E g S1 q (sv_cd 5 6 9)) [.int (lw_a g (i + 1)), .int (lw_a g (i + 2))] [] d_L_law_168 cV_L_92 hm1 rfl rfl (Nat.le_of_ble_eq_true rfl) (Nat.le_of_ble_eq_true rfl) (hE S1 hN1) (fun v2 S2 h2 => ?_) (fun x2 S2 h2 => ?_)
    · obtain ⟨⟨na2, ne2, nw2, rd2, mt2, hN2⟩, ⟨hz2, hf2⟩, v, hr2, hq2⟩ := h2
      obtain rfl := Sum.inl.inj hr2
      have hC2 : sv_C g lo1 S2 q.2.2 as1 av1 := hC1.far (fun k hk => hf2 k (by omega)) (by rw [hz2]; exact hC1.base.2.1)
      have ho2 : sv_oc g S2.1 f1 := (hf2 _ (by omega)).trans ho1
      have hK := k S2 q.2.2 ⟨⟨lo1, as1, av1, hC2⟩, ⟨_, _, _, _, _, _, hN2⟩, f1, ho2⟩ (by rw [hz2]; exact hg1) (by rw [hz2]; exact hg2)
      obtain ⟨fs2, hm2⟩ := hN2.obj
      show am_W g (d + 5) mm_L_law (171, [some (.ref g.2.2.2.2.2.1), some (.ref g.2.2.1), some (.ref (g.2.2.1 + 6)), some (.ref (g.2.2.1 + 19)), some (.int (nI i)), some (.int (sv_cd 5 6 9 q.1)), none, none], [.int v]) S2 _
      refine am_istore (L' := [some (.ref g.2.2.2.2.2.1), some (.ref g.2.2.1), some (.ref (g.2.2.1 + 6)), some (.ref (g.2.2.1 + 19)), some (.int (nI i)), some (.int (sv_cd 5 6 9 q.1)), some (.int v), none]) d_L_law_171 (by decide) rfl rfl ?_
      refine am_aloadn d_L_law_173 rfl ?_
      refine am_cpsV [] [] d_L_law_174 cV_L_93 rfl hm2 rfl rfl (Nat.le_of_ble_eq_true rfl) (Nat.le_of_ble_eq_true rfl) (m_thrown hN2 ?_)
      show am_W g (d + 5) mm_L_law (177, [some (.ref g.2.2.2.2.2.1), some (.ref g.2.2.1), some (.ref (g.2.2.1 + 6)), some (.ref (g.2.2.1 + 19)), some (.int (nI i)), some (.int (sv_cd 5 6 9 q.1)), some (.int v), none], [.int (sv_cd 5 6 9 q.1)]) S2 _
      refine am_iload d_L_law_177 rfl ?_
      refine am_iceq (tgt := 184) d_L_law_179 (by decide) (fun hc => ?_) (fun hc => ?_)
      · refine am_iload d_L_law_184 rfl ?_
        refine am_ifne (tgt := 201) d_L_law_186 (by decide) (fun hz => ?_) (fun hz => ?_)
        · refine am_goto (tgt := 1677) d_L_law_201 (by decide) ?_
          refine am_drop (L' := [some (.ref g.2.2.2.2.2.1), some (.ref g.2.2.1), some (.ref (g.2.2.1 + 6)), some (.ref (g.2.2.1 + 19)), some (.int (nI i)), none, none, none]) (by simp [am_le]) ?_
          exact hK
        · have h0 := hk.zero (k := sv_cd 5 6 9) (fun h => h.elim) (fun _ => by decide) (fun _ => by decide) hz
          have he : f1 0 = v.toInt64 := (hv1 h0).1 v (hq2 h0).symm
          refine am_aloadn d_L_law_189 rfl ?_
          refine am_iconst 0 d_L_law_190 (by decide) ?_
          refine am_ti (b := nI 0) rfl ?_
          refine am_laldN (t := 1) (k := 0) d_L_law_191 rfl ho2 (by omega) (by omega) ?_
          refine am_iload d_L_law_192 rfl ?_
          refine am_i2l d_L_law_194 ?_
          refine am_lcmp d_L_law_195 ?_
          refine am_ifeq (tgt := 201) d_L_law_196 (by decide) (fun hd => ?_) (fun hd => ?_)
          · refine am_goto (tgt := 1677) d_L_law_201 (by decide) ?_
            refine am_drop (L' := [some (.ref g.2.2.2.2.2.1), some (.ref g.2.2.1), some (.ref (g.2.2.1 + 6)), some (.ref (g.2.2.1 + 19)), some (.int (nI i)), none, none, none]) (by simp [am_le]) ?_
            exact hK
          · exact absurd (by rw [he]; exact sv_cmp_self _) hd
      · exact absurd rfl hc
    · obtain ⟨-, -, v, hr2, -⟩ := h2
      cases hr2
  · obtain ⟨-, -, -, hr1⟩ := h1
    cases hr1
set_option maxHeartbeats 4000000 in
set_option maxRecDepth 100000 in
/-- law, slice -/
theorem lw_slice {g : am_G} {d i : Nat} {S : am_S} {T : sv_T} {P : am_O → am_S → Prop} (hn : g.2.2.2.2.2.2.1 ≤ 3072) (hi : i + 6 ≤ g.2.2.2.2.2.2.1) (hI : lw_I g S T) (hr : sv_R g S 16 700) (k : lw_K g d i S P) : am_W g (d + 5) mm_L_law (204, [some (.ref g.2.2.2.2.2.1), some (.ref g.2.2.1), some (.ref (g.2.2.1 + 6)), some (.ref (g.2.2.1 + 19)), some (.int (nI i)), none, none, none], []) S P := by
  obtain ⟨⟨lo, as, av, hC⟩, ⟨th, na, ne, nw, rd, mt, hN⟩, f, ho⟩ := hI
  refine am_aloadn d_L_law_204 rfl ?_
  refine lw_arg (j := 1) d_L_law_205 d_L_law_206 d_L_law_208 d_L_law_209 d_L_law_210 (by decide) rfl rfl (by omega) (by omega) ?_
  refine lw_arg (j := 2) d_L_law_211 d_L_law_212 d_L_law_214 d_L_law_215 d_L_law_216 (by decide) rfl rfl (by omega) (by omega) ?_
  refine lw_arg (j := 3) d_L_law_217 d_L_law_218 d_L_law_220 d_L_law_221 d_L_law_222 (by decide) rfl rfl (by omega) (by omega) ?_
  refine lw_arg (j := 4) d_L_law_223 d_L_law_224 d_L_law_226 d_L_law_227 d_L_law_228 (by decide) rfl rfl (by omega) (by omega) ?_
  refine lw_arg (j := 5) d_L_law_229 d_L_law_230 d_L_law_232 d_L_law_233 d_L_law_234 (by decide) rfl rfl (by omega) (by omega) ?_
  refine am_aloadn d_L_law_235 rfl ?_
  have hW : am_W g (d + 4) mm_L_slice (0, am_ent [.ref g.2.2.1, .int (lw_a g (i + 1)), .int (lw_a g (i + 2)), .int (lw_a g (i + 3)), .int (lw_a g (i + 4)), .int (lw_a g (i + 5)), .ref (g.2.2.1 + 19)] 8, []) S (sv_L g S (q_slice T (lw_a g (i + 1)) (lw_a g (i + 2)) (lw_a g (i + 3)) (lw_a g (i + 4)) (lw_a g (i + 5))) (sv_cd 4 5 6)) := w_slice hC hr ho
  have hE : ∀ S1 : am_S, sv_N g S1.1 T th na ne nw rd mt → am_W g (d + 4) mm_M_slice (0, am_ent [.ref (g.2.2.1 + 6), .int (lw_a g (i + 1)), .int (lw_a g (i + 2)), .int (lw_a g (i + 3)), .int (lw_a g (i + 4)), .int (lw_a g (i + 5))] 12, []) S1 (sv_E g S1 (q_slice T (lw_a g (i + 1)) (lw_a g (i + 2)) (lw_a g (i + 3)) (lw_a g (i + 4)) (lw_a g (i + 5))) (sv_cd 4 5 6)) := fun S1 h => e_slice (d := d + 2) h
  have hk := k_slice (T := T) (v := lw_a g (i + 1)) (x := lw_a g (i + 2)) (s := lw_a g (i + 3)) (t := lw_a g (i + 4)) (n := lw_a g (i + 5))
  generalize q_slice T (lw_a g (i + 1)) (lw_a g (i + 2)) (lw_a g (i + 3)) (lw_a g (i + 4)) (lw_a g (i + 5)) = q at hW hE hk
  refine am_callS (P' := sv_L g S q (sv_cd 4 5 6)) [.ref g.2.2.1, .int (lw_a g (i + 1)), .int (lw_a g (i + 2)), .int (lw_a g (i + 3)), .int (lw_a g (i + 4)), .int (lw_a g (i + 5)), .ref (g.2.2.1 + 19)] [] d_L_law_236 cS_L_97 rfl rfl (Nat.le_of_ble_eq_true rfl) (Nat.le_of_ble_eq_true rfl) hW (fun v1 S1 h1 => ?_) (fun x1 S1 h1 => ?_)
  · obtain ⟨⟨lo1, as1, av1, hC1⟩, ⟨hM1, hg1, hg2⟩, ⟨f1, ho1, hv1⟩, hr1⟩ := h1
    obtain rfl := Sum.inl.inj hr1
    have hN1 := hN.keep hM1
    obtain ⟨fs1, hm1⟩ := hN1.obj
    show am_W g (d + 5) mm_L_law (239, [some (.ref g.2.2.2.2.2.1), some (.ref g.2.2.1), some (.ref (g.2.2.1 + 6)), some (.ref (g.2.2.1 + 19)), some (.int (nI i)), none, none, none], [.int (sv_cd 4 5 6 q.1)]) S1 _
    refine am_istore (L' := [some (.ref g.2.2.2.2.2.1), some (.ref g.2.2.1), some (.ref (g.2.2.1 + 6)), some (.ref (g.2.2.1 + 19)), some (.int (nI i)), some (.int (sv_cd 4 5 6 q.1)), none, none]) d_L_law_239 (by decide) rfl rfl ?_
    refine am_aloadn d_L_law_241 rfl ?_
    refine lw_arg (j := 1) d_L_law_242 d_L_law_243 d_L_law_245 d_L_law_246 d_L_law_247 (by decide) rfl rfl (by omega) (by omega) ?_
    refine lw_arg (j := 2) d_L_law_248 d_L_law_249 d_L_law_251 d_L_law_252 d_L_law_253 (by decide) rfl rfl (by omega) (by omega) ?_
    refine lw_arg (j := 3) d_L_law_254 d_L_law_255 d_L_law_257 d_L_law_258 d_L_law_259 (by decide) rfl rfl (by omega) (by omega) ?_
    refine lw_arg (j := 4) d_L_law_260 d_L_law_261 d_L_law_263 d_L_law_264 d_L_law_265 (by decide) rfl rfl (by omega) (by omega) ?_
    refine lw_arg (j := 5) d_L_law_266 d_L_law_267 d_L_law_269 d_L_law_270 d_L_law_271 (by decide) rfl rfl (by omega) (by omega) ?_
    refine am_callV (P' := sv_E g S1 q (sv_cd 4 5 6)) [.int (lw_a g (i + 1)), .int (lw_a g (i + 2)), .int (lw_a g (i + 3)), .int (lw_a g (i + 4)), .int (lw_a g (i + 5))] [] d_L_law_272 cV_L_100 hm1 rfl rfl (Nat.le_of_ble_eq_true rfl) (Nat.le_of_ble_eq_true rfl) (hE S1 hN1) (fun v2 S2 h2 => ?_) (fun x2 S2 h2 => ?_)
    · obtain ⟨⟨na2, ne2, nw2, rd2, mt2, hN2⟩, ⟨hz2, hf2⟩, v, hr2, hq2⟩ := h2
      obtain rfl := Sum.inl.inj hr2
      have hC2 : sv_C g lo1 S2 q.2.2 as1 av1 := hC1.far (fun k hk => hf2 k (by omega)) (by rw [hz2]; exact hC1.base.2.1)
      have ho2 : sv_oc g S2.1 f1 := (hf2 _ (by omega)).trans ho1
      have hK := k S2 q.2.2 ⟨⟨lo1, as1, av1, hC2⟩, ⟨_, _, _, _, _, _, hN2⟩, f1, ho2⟩ (by rw [hz2]; exact hg1) (by rw [hz2]; exact hg2)
      obtain ⟨fs2, hm2⟩ := hN2.obj
      show am_W g (d + 5) mm_L_law (275, [some (.ref g.2.2.2.2.2.1), some (.ref g.2.2.1), some (.ref (g.2.2.1 + 6)), some (.ref (g.2.2.1 + 19)), some (.int (nI i)), some (.int (sv_cd 4 5 6 q.1)), none, none], [.int v]) S2 _
      refine am_istore (L' := [some (.ref g.2.2.2.2.2.1), some (.ref g.2.2.1), some (.ref (g.2.2.1 + 6)), some (.ref (g.2.2.1 + 19)), some (.int (nI i)), some (.int (sv_cd 4 5 6 q.1)), some (.int v), none]) d_L_law_275 (by decide) rfl rfl ?_
      refine am_aloadn d_L_law_277 rfl ?_
      refine am_cpsV [] [] d_L_law_278 cV_L_93 rfl hm2 rfl rfl (Nat.le_of_ble_eq_true rfl) (Nat.le_of_ble_eq_true rfl) (m_thrown hN2 ?_)
      show am_W g (d + 5) mm_L_law (281, [some (.ref g.2.2.2.2.2.1), some (.ref g.2.2.1), some (.ref (g.2.2.1 + 6)), some (.ref (g.2.2.1 + 19)), some (.int (nI i)), some (.int (sv_cd 4 5 6 q.1)), some (.int v), none], [.int (sv_cd 4 5 6 q.1)]) S2 _
      refine am_iload d_L_law_281 rfl ?_
      refine am_iceq (tgt := 288) d_L_law_283 (by decide) (fun hc => ?_) (fun hc => ?_)
      · refine am_iload d_L_law_288 rfl ?_
        refine am_ifne (tgt := 305) d_L_law_290 (by decide) (fun hz => ?_) (fun hz => ?_)
        · refine am_goto (tgt := 1677) d_L_law_305 (by decide) ?_
          refine am_drop (L' := [some (.ref g.2.2.2.2.2.1), some (.ref g.2.2.1), some (.ref (g.2.2.1 + 6)), some (.ref (g.2.2.1 + 19)), some (.int (nI i)), none, none, none]) (by simp [am_le]) ?_
          exact hK
        · have h0 := hk.zero (k := sv_cd 4 5 6) (fun _ => by decide) (fun _ => by decide) (fun _ => by decide) hz
          have he : f1 0 = v.toInt64 := (hv1 h0).1 v (hq2 h0).symm
          refine am_aloadn d_L_law_293 rfl ?_
          refine am_iconst 0 d_L_law_294 (by decide) ?_
          refine am_ti (b := nI 0) rfl ?_
          refine am_laldN (t := 1) (k := 0) d_L_law_295 rfl ho2 (by omega) (by omega) ?_
          refine am_iload d_L_law_296 rfl ?_
          refine am_i2l d_L_law_298 ?_
          refine am_lcmp d_L_law_299 ?_
          refine am_ifeq (tgt := 305) d_L_law_300 (by decide) (fun hd => ?_) (fun hd => ?_)
          · refine am_goto (tgt := 1677) d_L_law_305 (by decide) ?_
            refine am_drop (L' := [some (.ref g.2.2.2.2.2.1), some (.ref g.2.2.1), some (.ref (g.2.2.1 + 6)), some (.ref (g.2.2.1 + 19)), some (.int (nI i)), none, none, none]) (by simp [am_le]) ?_
            exact hK
          · exact absurd (by rw [he]; exact sv_cmp_self _) hd
      · exact absurd rfl hc
    · obtain ⟨-, -, v, hr2, -⟩ := h2
      cases hr2
  · obtain ⟨-, -, -, hr1⟩ := h1
    cases hr1
set_option maxHeartbeats 4000000 in
set_option maxRecDepth 100000 in
/-- law, pick -/
theorem lw_pick {g : am_G} {d i : Nat} {S : am_S} {T : sv_T} {P : am_O → am_S → Prop} (hn : g.2.2.2.2.2.2.1 ≤ 3072) (hi : i + 6 ≤ g.2.2.2.2.2.2.1) (hI : lw_I g S T) (hr : sv_R g S 16 700) (k : lw_K g d i S P) : am_W g (d + 5) mm_L_law (308, [some (.ref g.2.2.2.2.2.1), some (.ref g.2.2.1), some (.ref (g.2.2.1 + 6)), some (.ref (g.2.2.1 + 19)), some (.int (nI i)), none, none, none], []) S P := by
  obtain ⟨⟨lo, as, av, hC⟩, ⟨th, na, ne, nw, rd, mt, hN⟩, f, ho⟩ := hI
  refine am_aloadn d_L_law_308 rfl ?_
  refine lw_arg (j := 1) d_L_law_309 d_L_law_310 d_L_law_312 d_L_law_313 d_L_law_314 (by decide) rfl rfl (by omega) (by omega) ?_
  refine lw_arg (j := 2) d_L_law_315 d_L_law_316 d_L_law_318 d_L_law_319 d_L_law_320 (by decide) rfl rfl (by omega) (by omega) ?_
  refine lw_arg (j := 3) d_L_law_321 d_L_law_322 d_L_law_324 d_L_law_325 d_L_law_326 (by decide) rfl rfl (by omega) (by omega) ?_
  refine am_aloadn d_L_law_327 rfl ?_
  have hW : am_W g (d + 4) mm_L_pick (0, am_ent [.ref g.2.2.1, .int (lw_a g (i + 1)), .int (lw_a g (i + 2)), .int (lw_a g (i + 3)), .ref (g.2.2.1 + 19)] 6, []) S (sv_L g S (q_pick T (lw_a g (i + 1)) (lw_a g (i + 2)) (lw_a g (i + 3))) (sv_cd 4 6 9)) := w_pick hC hr ho
  have hE : ∀ S1 : am_S, sv_N g S1.1 T th na ne nw rd mt → am_W g (d + 4) mm_M_pick (0, am_ent [.ref (g.2.2.1 + 6), .int (lw_a g (i + 1)), .int (lw_a g (i + 2)), .int (lw_a g (i + 3))] 5, []) S1 (sv_E g S1 (q_pick T (lw_a g (i + 1)) (lw_a g (i + 2)) (lw_a g (i + 3))) (sv_cd 4 6 9)) := fun S1 h => e_pick (d := d + 2) h
  have hk := k_pick (T := T) (v := lw_a g (i + 1)) (x := lw_a g (i + 2)) (i := lw_a g (i + 3))
  generalize q_pick T (lw_a g (i + 1)) (lw_a g (i + 2)) (lw_a g (i + 3)) = q at hW hE hk
  refine am_callS (P' := sv_L g S q (sv_cd 4 6 9)) [.ref g.2.2.1, .int (lw_a g (i + 1)), .int (lw_a g (i + 2)), .int (lw_a g (i + 3)), .ref (g.2.2.1 + 19)] [] d_L_law_328 cS_L_101 rfl rfl (Nat.le_of_ble_eq_true rfl) (Nat.le_of_ble_eq_true rfl) hW (fun v1 S1 h1 => ?_) (fun x1 S1 h1 => ?_)
  · obtain ⟨⟨lo1, as1, av1, hC1⟩, ⟨hM1, hg1, hg2⟩, ⟨f1, ho1, hv1⟩, hr1⟩ := h1
    obtain rfl := Sum.inl.inj hr1
    have hN1 := hN.keep hM1
    obtain ⟨fs1, hm1⟩ := hN1.obj
    show am_W g (d + 5) mm_L_law (331, [some (.ref g.2.2.2.2.2.1), some (.ref g.2.2.1), some (.ref (g.2.2.1 + 6)), some (.ref (g.2.2.1 + 19)), some (.int (nI i)), none, none, none], [.int (sv_cd 4 6 9 q.1)]) S1 _
    refine am_istore (L' := [some (.ref g.2.2.2.2.2.1), some (.ref g.2.2.1), some (.ref (g.2.2.1 + 6)), some (.ref (g.2.2.1 + 19)), some (.int (nI i)), some (.int (sv_cd 4 6 9 q.1)), none, none]) d_L_law_331 (by decide) rfl rfl ?_
    refine am_aloadn d_L_law_333 rfl ?_
    refine lw_arg (j := 1) d_L_law_334 d_L_law_335 d_L_law_337 d_L_law_338 d_L_law_339 (by decide) rfl rfl (by omega) (by omega) ?_
    refine lw_arg (j := 2) d_L_law_340 d_L_law_341 d_L_law_343 d_L_law_344 d_L_law_345 (by decide) rfl rfl (by omega) (by omega) ?_
    refine lw_arg (j := 3) d_L_law_346 d_L_law_347 d_L_law_349 d_L_law_350 d_L_law_351 (by decide) rfl rfl (by omega) (by omega) ?_
    refine am_callV (P' := sv_E g S1 q (sv_cd 4 6 9)) [.int (lw_a g (i + 1)), .int (lw_a g (i + 2)), .int (lw_a g (i + 3))] [] d_L_law_352 cV_L_104 hm1 rfl rfl (Nat.le_of_ble_eq_true rfl) (Nat.le_of_ble_eq_true rfl) (hE S1 hN1) (fun v2 S2 h2 => ?_) (fun x2 S2 h2 => ?_)
    · obtain ⟨⟨na2, ne2, nw2, rd2, mt2, hN2⟩, ⟨hz2, hf2⟩, v, hr2, hq2⟩ := h2
      obtain rfl := Sum.inl.inj hr2
      have hC2 : sv_C g lo1 S2 q.2.2 as1 av1 := hC1.far (fun k hk => hf2 k (by omega)) (by rw [hz2]; exact hC1.base.2.1)
      have ho2 : sv_oc g S2.1 f1 := (hf2 _ (by omega)).trans ho1
      have hK := k S2 q.2.2 ⟨⟨lo1, as1, av1, hC2⟩, ⟨_, _, _, _, _, _, hN2⟩, f1, ho2⟩ (by rw [hz2]; exact hg1) (by rw [hz2]; exact hg2)
      obtain ⟨fs2, hm2⟩ := hN2.obj
      show am_W g (d + 5) mm_L_law (355, [some (.ref g.2.2.2.2.2.1), some (.ref g.2.2.1), some (.ref (g.2.2.1 + 6)), some (.ref (g.2.2.1 + 19)), some (.int (nI i)), some (.int (sv_cd 4 6 9 q.1)), none, none], [.int v]) S2 _
      refine am_istore (L' := [some (.ref g.2.2.2.2.2.1), some (.ref g.2.2.1), some (.ref (g.2.2.1 + 6)), some (.ref (g.2.2.1 + 19)), some (.int (nI i)), some (.int (sv_cd 4 6 9 q.1)), some (.int v), none]) d_L_law_355 (by decide) rfl rfl ?_
      refine am_aloadn d_L_law_357 rfl ?_
      refine am_cpsV [] [] d_L_law_358 cV_L_93 rfl hm2 rfl rfl (Nat.le_of_ble_eq_true rfl) (Nat.le_of_ble_eq_true rfl) (m_thrown hN2 ?_)
      show am_W g (d + 5) mm_L_law (361, [some (.ref g.2.2.2.2.2.1), some (.ref g.2.2.1), some (.ref (g.2.2.1 + 6)), some (.ref (g.2.2.1 + 19)), some (.int (nI i)), some (.int (sv_cd 4 6 9 q.1)), some (.int v), none], [.int (sv_cd 4 6 9 q.1)]) S2 _
      refine am_iload d_L_law_361 rfl ?_
      refine am_iceq (tgt := 368) d_L_law_363 (by decide) (fun hc => ?_) (fun hc => ?_)
      · refine am_iload d_L_law_368 rfl ?_
        refine am_ifne (tgt := 385) d_L_law_370 (by decide) (fun hz => ?_) (fun hz => ?_)
        · refine am_goto (tgt := 1677) d_L_law_385 (by decide) ?_
          refine am_drop (L' := [some (.ref g.2.2.2.2.2.1), some (.ref g.2.2.1), some (.ref (g.2.2.1 + 6)), some (.ref (g.2.2.1 + 19)), some (.int (nI i)), none, none, none]) (by simp [am_le]) ?_
          exact hK
        · have h0 := hk.zero (k := sv_cd 4 6 9) (fun _ => by decide) (fun h => h.elim) (fun _ => by decide) hz
          have he : f1 0 = v.toInt64 := (hv1 h0).1 v (hq2 h0).symm
          refine am_aloadn d_L_law_373 rfl ?_
          refine am_iconst 0 d_L_law_374 (by decide) ?_
          refine am_ti (b := nI 0) rfl ?_
          refine am_laldN (t := 1) (k := 0) d_L_law_375 rfl ho2 (by omega) (by omega) ?_
          refine am_iload d_L_law_376 rfl ?_
          refine am_i2l d_L_law_378 ?_
          refine am_lcmp d_L_law_379 ?_
          refine am_ifeq (tgt := 385) d_L_law_380 (by decide) (fun hd => ?_) (fun hd => ?_)
          · refine am_goto (tgt := 1677) d_L_law_385 (by decide) ?_
            refine am_drop (L' := [some (.ref g.2.2.2.2.2.1), some (.ref g.2.2.1), some (.ref (g.2.2.1 + 6)), some (.ref (g.2.2.1 + 19)), some (.int (nI i)), none, none, none]) (by simp [am_le]) ?_
            exact hK
          · exact absurd (by rw [he]; exact sv_cmp_self _) hd
      · exact absurd rfl hc
    · obtain ⟨-, -, v, hr2, -⟩ := h2
      cases hr2
  · obtain ⟨-, -, -, hr1⟩ := h1
    cases hr1
set_option maxHeartbeats 4000000 in
set_option maxRecDepth 100000 in
/-- law, turn -/
theorem lw_turn {g : am_G} {d i : Nat} {S : am_S} {T : sv_T} {P : am_O → am_S → Prop} (hn : g.2.2.2.2.2.2.1 ≤ 3072) (hi : i + 6 ≤ g.2.2.2.2.2.2.1) (hI : lw_I g S T) (hr : sv_R g S 16 700) (k : lw_K g d i S P) : am_W g (d + 5) mm_L_law (388, [some (.ref g.2.2.2.2.2.1), some (.ref g.2.2.1), some (.ref (g.2.2.1 + 6)), some (.ref (g.2.2.1 + 19)), some (.int (nI i)), none, none, none], []) S P := by
  obtain ⟨⟨lo, as, av, hC⟩, ⟨th, na, ne, nw, rd, mt, hN⟩, f, ho⟩ := hI
  refine am_aloadn d_L_law_388 rfl ?_
  refine lw_arg (j := 1) d_L_law_389 d_L_law_390 d_L_law_392 d_L_law_393 d_L_law_394 (by decide) rfl rfl (by omega) (by omega) ?_
  refine lw_arg (j := 2) d_L_law_395 d_L_law_396 d_L_law_398 d_L_law_399 d_L_law_400 (by decide) rfl rfl (by omega) (by omega) ?_
  refine lw_arg (j := 3) d_L_law_401 d_L_law_402 d_L_law_404 d_L_law_405 d_L_law_406 (by decide) rfl rfl (by omega) (by omega) ?_
  refine am_aloadn d_L_law_407 rfl ?_
  have hW : am_W g (d + 4) mm_L_turn (0, am_ent [.ref g.2.2.1, .int (lw_a g (i + 1)), .int (lw_a g (i + 2)), .int (lw_a g (i + 3)), .ref (g.2.2.1 + 19)] 6, []) S (sv_L g S (q_turn T (lw_a g (i + 1)) (lw_a g (i + 2)) (lw_a g (i + 3))) (sv_cd 4 6 9)) := w_turn hC hr ho
  have hE : ∀ S1 : am_S, sv_N g S1.1 T th na ne nw rd mt → am_W g (d + 4) mm_M_turn (0, am_ent [.ref (g.2.2.1 + 6), .int (lw_a g (i + 1)), .int (lw_a g (i + 2)), .int (lw_a g (i + 3))] 4, []) S1 (sv_E g S1 (q_turn T (lw_a g (i + 1)) (lw_a g (i + 2)) (lw_a g (i + 3))) (sv_cd 4 6 9)) := fun S1 h => e_turn (d := d + 2) h
  have hk := k_turn (T := T) (v := lw_a g (i + 1)) (x := lw_a g (i + 2)) (y := lw_a g (i + 3))
  generalize q_turn T (lw_a g (i + 1)) (lw_a g (i + 2)) (lw_a g (i + 3)) = q at hW hE hk
  refine am_callS (P' := sv_L g S q (sv_cd 4 6 9)) [.ref g.2.2.1, .int (lw_a g (i + 1)), .int (lw_a g (i + 2)), .int (lw_a g (i + 3)), .ref (g.2.2.1 + 19)] [] d_L_law_408 cS_L_105 rfl rfl (Nat.le_of_ble_eq_true rfl) (Nat.le_of_ble_eq_true rfl) hW (fun v1 S1 h1 => ?_) (fun x1 S1 h1 => ?_)
  · obtain ⟨⟨lo1, as1, av1, hC1⟩, ⟨hM1, hg1, hg2⟩, ⟨f1, ho1, hv1⟩, hr1⟩ := h1
    obtain rfl := Sum.inl.inj hr1
    have hN1 := hN.keep hM1
    obtain ⟨fs1, hm1⟩ := hN1.obj
    show am_W g (d + 5) mm_L_law (411, [some (.ref g.2.2.2.2.2.1), some (.ref g.2.2.1), some (.ref (g.2.2.1 + 6)), some (.ref (g.2.2.1 + 19)), some (.int (nI i)), none, none, none], [.int (sv_cd 4 6 9 q.1)]) S1 _
    refine am_istore (L' := [some (.ref g.2.2.2.2.2.1), some (.ref g.2.2.1), some (.ref (g.2.2.1 + 6)), some (.ref (g.2.2.1 + 19)), some (.int (nI i)), some (.int (sv_cd 4 6 9 q.1)), none, none]) d_L_law_411 (by decide) rfl rfl ?_
    refine am_aloadn d_L_law_413 rfl ?_
    refine lw_arg (j := 1) d_L_law_414 d_L_law_415 d_L_law_417 d_L_law_418 d_L_law_419 (by decide) rfl rfl (by omega) (by omega) ?_
    refine lw_arg (j := 2) d_L_law_420 d_L_law_421 d_L_law_423 d_L_law_424 d_L_law_425 (by decide) rfl rfl (by omega) (by omega) ?_
    refine lw_arg (j := 3) d_L_law_426 d_L_law_427 d_L_law_429 d_L_law_430 d_L_law_431 (by decide) rfl rfl (by omega) (by omega) ?_
    refine am_callV (P' := sv_E g S1 q (sv_cd 4 6 9)) [.int (lw_a g (i + 1)), .int (lw_a g (i + 2)), .int (lw_a g (i + 3))] [] d_L_law_432 cV_L_107 hm1 rfl rfl (Nat.le_of_ble_eq_true rfl) (Nat.le_of_ble_eq_true rfl) (hE S1 hN1) (fun v2 S2 h2 => ?_) (fun x2 S2 h2 => ?_)
    · obtain ⟨⟨na2, ne2, nw2, rd2, mt2, hN2⟩, ⟨hz2, hf2⟩, v, hr2, hq2⟩ := h2
      obtain rfl := Sum.inl.inj hr2
      have hC2 : sv_C g lo1 S2 q.2.2 as1 av1 := hC1.far (fun k hk => hf2 k (by omega)) (by rw [hz2]; exact hC1.base.2.1)
      have ho2 : sv_oc g S2.1 f1 := (hf2 _ (by omega)).trans ho1
      have hK := k S2 q.2.2 ⟨⟨lo1, as1, av1, hC2⟩, ⟨_, _, _, _, _, _, hN2⟩, f1, ho2⟩ (by rw [hz2]; exact hg1) (by rw [hz2]; exact hg2)
      obtain ⟨fs2, hm2⟩ := hN2.obj
      show am_W g (d + 5) mm_L_law (435, [some (.ref g.2.2.2.2.2.1), some (.ref g.2.2.1), some (.ref (g.2.2.1 + 6)), some (.ref (g.2.2.1 + 19)), some (.int (nI i)), some (.int (sv_cd 4 6 9 q.1)), none, none], [.int v]) S2 _
      refine am_istore (L' := [some (.ref g.2.2.2.2.2.1), some (.ref g.2.2.1), some (.ref (g.2.2.1 + 6)), some (.ref (g.2.2.1 + 19)), some (.int (nI i)), some (.int (sv_cd 4 6 9 q.1)), some (.int v), none]) d_L_law_435 (by decide) rfl rfl ?_
      refine am_aloadn d_L_law_437 rfl ?_
      refine am_cpsV [] [] d_L_law_438 cV_L_93 rfl hm2 rfl rfl (Nat.le_of_ble_eq_true rfl) (Nat.le_of_ble_eq_true rfl) (m_thrown hN2 ?_)
      show am_W g (d + 5) mm_L_law (441, [some (.ref g.2.2.2.2.2.1), some (.ref g.2.2.1), some (.ref (g.2.2.1 + 6)), some (.ref (g.2.2.1 + 19)), some (.int (nI i)), some (.int (sv_cd 4 6 9 q.1)), some (.int v), none], [.int (sv_cd 4 6 9 q.1)]) S2 _
      refine am_iload d_L_law_441 rfl ?_
      refine am_iceq (tgt := 448) d_L_law_443 (by decide) (fun hc => ?_) (fun hc => ?_)
      · refine am_iload d_L_law_448 rfl ?_
        refine am_ifne (tgt := 465) d_L_law_450 (by decide) (fun hz => ?_) (fun hz => ?_)
        · refine am_goto (tgt := 1677) d_L_law_465 (by decide) ?_
          refine am_drop (L' := [some (.ref g.2.2.2.2.2.1), some (.ref g.2.2.1), some (.ref (g.2.2.1 + 6)), some (.ref (g.2.2.1 + 19)), some (.int (nI i)), none, none, none]) (by simp [am_le]) ?_
          exact hK
        · have h0 := hk.zero (k := sv_cd 4 6 9) (fun _ => by decide) (fun h => h.elim) (fun _ => by decide) hz
          have he : f1 0 = v.toInt64 := (hv1 h0).1 v (hq2 h0).symm
          refine am_aloadn d_L_law_453 rfl ?_
          refine am_iconst 0 d_L_law_454 (by decide) ?_
          refine am_ti (b := nI 0) rfl ?_
          refine am_laldN (t := 1) (k := 0) d_L_law_455 rfl ho2 (by omega) (by omega) ?_
          refine am_iload d_L_law_456 rfl ?_
          refine am_i2l d_L_law_458 ?_
          refine am_lcmp d_L_law_459 ?_
          refine am_ifeq (tgt := 465) d_L_law_460 (by decide) (fun hd => ?_) (fun hd => ?_)
          · refine am_goto (tgt := 1677) d_L_law_465 (by decide) ?_
            refine am_drop (L' := [some (.ref g.2.2.2.2.2.1), some (.ref g.2.2.1), some (.ref (g.2.2.1 + 6)), some (.ref (g.2.2.1 + 19)), some (.int (nI i)), none, none, none]) (by simp [am_le]) ?_
            exact hK
          · exact absurd (by rw [he]; exact sv_cmp_self _) hd
      · exact absurd rfl hc
    · obtain ⟨-, -, v, hr2, -⟩ := h2
      cases hr2
  · obtain ⟨-, -, -, hr1⟩ := h1
    cases hr1
set_option maxHeartbeats 4000000 in
set_option maxRecDepth 100000 in
/-- law, spread -/
theorem lw_spread {g : am_G} {d i : Nat} {S : am_S} {T : sv_T} {P : am_O → am_S → Prop} (hn : g.2.2.2.2.2.2.1 ≤ 3072) (hi : i + 6 ≤ g.2.2.2.2.2.2.1) (hI : lw_I g S T) (hr : sv_R g S 16 700) (k : lw_K g d i S P) : am_W g (d + 5) mm_L_law (468, [some (.ref g.2.2.2.2.2.1), some (.ref g.2.2.1), some (.ref (g.2.2.1 + 6)), some (.ref (g.2.2.1 + 19)), some (.int (nI i)), none, none, none], []) S P := by
  obtain ⟨⟨lo, as, av, hC⟩, ⟨th, na, ne, nw, rd, mt, hN⟩, f, ho⟩ := hI
  refine am_aloadn d_L_law_468 rfl ?_
  refine lw_arg (j := 1) d_L_law_469 d_L_law_470 d_L_law_472 d_L_law_473 d_L_law_474 (by decide) rfl rfl (by omega) (by omega) ?_
  refine lw_arg (j := 2) d_L_law_475 d_L_law_476 d_L_law_478 d_L_law_479 d_L_law_480 (by decide) rfl rfl (by omega) (by omega) ?_
  refine lw_arg (j := 3) d_L_law_481 d_L_law_482 d_L_law_484 d_L_law_485 d_L_law_486 (by decide) rfl rfl (by omega) (by omega) ?_
  refine am_aloadn d_L_law_487 rfl ?_
  have hW : am_W g (d + 4) mm_L_spread (0, am_ent [.ref g.2.2.1, .int (lw_a g (i + 1)), .int (lw_a g (i + 2)), .int (lw_a g (i + 3)), .ref (g.2.2.1 + 19)] 6, []) S (sv_L g S (q_spread T (lw_a g (i + 1)) (lw_a g (i + 2)) (lw_a g (i + 3))) (sv_cd 4 5 6)) := w_spread hC hr ho
  have hE : ∀ S1 : am_S, sv_N g S1.1 T th na ne nw rd mt → am_W g (d + 4) mm_M_spread (0, am_ent [.ref (g.2.2.1 + 6), .int (lw_a g (i + 1)), .int (lw_a g (i + 2)), .int (lw_a g (i + 3))] 7, []) S1 (sv_E g S1 (q_spread T (lw_a g (i + 1)) (lw_a g (i + 2)) (lw_a g (i + 3))) (sv_cd 4 5 6)) := fun S1 h => e_spread (d := d + 2) h
  have hk := k_spread (T := T) (v := lw_a g (i + 1)) (x := lw_a g (i + 2)) (n := lw_a g (i + 3))
  generalize q_spread T (lw_a g (i + 1)) (lw_a g (i + 2)) (lw_a g (i + 3)) = q at hW hE hk
  refine am_callS (P' := sv_L g S q (sv_cd 4 5 6)) [.ref g.2.2.1, .int (lw_a g (i + 1)), .int (lw_a g (i + 2)), .int (lw_a g (i + 3)), .ref (g.2.2.1 + 19)] [] d_L_law_488 cS_L_108 rfl rfl (Nat.le_of_ble_eq_true rfl) (Nat.le_of_ble_eq_true rfl) hW (fun v1 S1 h1 => ?_) (fun x1 S1 h1 => ?_)
  · obtain ⟨⟨lo1, as1, av1, hC1⟩, ⟨hM1, hg1, hg2⟩, ⟨f1, ho1, hv1⟩, hr1⟩ := h1
    obtain rfl := Sum.inl.inj hr1
    have hN1 := hN.keep hM1
    obtain ⟨fs1, hm1⟩ := hN1.obj
    show am_W g (d + 5) mm_L_law (491, [some (.ref g.2.2.2.2.2.1), some (.ref g.2.2.1), some (.ref (g.2.2.1 + 6)), some (.ref (g.2.2.1 + 19)), some (.int (nI i)), none, none, none], [.int (sv_cd 4 5 6 q.1)]) S1 _
    refine am_istore (L' := [some (.ref g.2.2.2.2.2.1), some (.ref g.2.2.1), some (.ref (g.2.2.1 + 6)), some (.ref (g.2.2.1 + 19)), some (.int (nI i)), some (.int (sv_cd 4 5 6 q.1)), none, none]) d_L_law_491 (by decide) rfl rfl ?_
    refine am_aloadn d_L_law_493 rfl ?_
    refine lw_arg (j := 1) d_L_law_494 d_L_law_495 d_L_law_497 d_L_law_498 d_L_law_499 (by decide) rfl rfl (by omega) (by omega) ?_
    refine lw_arg (j := 2) d_L_law_500 d_L_law_501 d_L_law_503 d_L_law_504 d_L_law_505 (by decide) rfl rfl (by omega) (by omega) ?_
    refine lw_arg (j := 3) d_L_law_506 d_L_law_507 d_L_law_509 d_L_law_510 d_L_law_511 (by decide) rfl rfl (by omega) (by omega) ?_
    refine am_callV (P' := sv_E g S1 q (sv_cd 4 5 6)) [.int (lw_a g (i + 1)), .int (lw_a g (i + 2)), .int (lw_a g (i + 3))] [] d_L_law_512 cV_L_110 hm1 rfl rfl (Nat.le_of_ble_eq_true rfl) (Nat.le_of_ble_eq_true rfl) (hE S1 hN1) (fun v2 S2 h2 => ?_) (fun x2 S2 h2 => ?_)
    · obtain ⟨⟨na2, ne2, nw2, rd2, mt2, hN2⟩, ⟨hz2, hf2⟩, v, hr2, hq2⟩ := h2
      obtain rfl := Sum.inl.inj hr2
      have hC2 : sv_C g lo1 S2 q.2.2 as1 av1 := hC1.far (fun k hk => hf2 k (by omega)) (by rw [hz2]; exact hC1.base.2.1)
      have ho2 : sv_oc g S2.1 f1 := (hf2 _ (by omega)).trans ho1
      have hK := k S2 q.2.2 ⟨⟨lo1, as1, av1, hC2⟩, ⟨_, _, _, _, _, _, hN2⟩, f1, ho2⟩ (by rw [hz2]; exact hg1) (by rw [hz2]; exact hg2)
      obtain ⟨fs2, hm2⟩ := hN2.obj
      show am_W g (d + 5) mm_L_law (515, [some (.ref g.2.2.2.2.2.1), some (.ref g.2.2.1), some (.ref (g.2.2.1 + 6)), some (.ref (g.2.2.1 + 19)), some (.int (nI i)), some (.int (sv_cd 4 5 6 q.1)), none, none], [.int v]) S2 _
      refine am_istore (L' := [some (.ref g.2.2.2.2.2.1), some (.ref g.2.2.1), some (.ref (g.2.2.1 + 6)), some (.ref (g.2.2.1 + 19)), some (.int (nI i)), some (.int (sv_cd 4 5 6 q.1)), some (.int v), none]) d_L_law_515 (by decide) rfl rfl ?_
      refine am_aloadn d_L_law_517 rfl ?_
      refine am_cpsV [] [] d_L_law_518 cV_L_93 rfl hm2 rfl rfl (Nat.le_of_ble_eq_true rfl) (Nat.le_of_ble_eq_true rfl) (m_thrown hN2 ?_)
      show am_W g (d + 5) mm_L_law (521, [some (.ref g.2.2.2.2.2.1), some (.ref g.2.2.1), some (.ref (g.2.2.1 + 6)), some (.ref (g.2.2.1 + 19)), some (.int (nI i)), some (.int (sv_cd 4 5 6 q.1)), some (.int v), none], [.int (sv_cd 4 5 6 q.1)]) S2 _
      refine am_iload d_L_law_521 rfl ?_
      refine am_iceq (tgt := 528) d_L_law_523 (by decide) (fun hc => ?_) (fun hc => ?_)
      · refine am_iload d_L_law_528 rfl ?_
        refine am_ifne (tgt := 545) d_L_law_530 (by decide) (fun hz => ?_) (fun hz => ?_)
        · refine am_goto (tgt := 1677) d_L_law_545 (by decide) ?_
          refine am_drop (L' := [some (.ref g.2.2.2.2.2.1), some (.ref g.2.2.1), some (.ref (g.2.2.1 + 6)), some (.ref (g.2.2.1 + 19)), some (.int (nI i)), none, none, none]) (by simp [am_le]) ?_
          exact hK
        · have h0 := hk.zero (k := sv_cd 4 5 6) (fun _ => by decide) (fun _ => by decide) (fun _ => by decide) hz
          have he : f1 0 = v.toInt64 := (hv1 h0).1 v (hq2 h0).symm
          refine am_aloadn d_L_law_533 rfl ?_
          refine am_iconst 0 d_L_law_534 (by decide) ?_
          refine am_ti (b := nI 0) rfl ?_
          refine am_laldN (t := 1) (k := 0) d_L_law_535 rfl ho2 (by omega) (by omega) ?_
          refine am_iload d_L_law_536 rfl ?_
          refine am_i2l d_L_law_538 ?_
          refine am_lcmp d_L_law_539 ?_
          refine am_ifeq (tgt := 545) d_L_law_540 (by decide) (fun hd => ?_) (fun hd => ?_)
          · refine am_goto (tgt := 1677) d_L_law_545 (by decide) ?_
            refine am_drop (L' := [some (.ref g.2.2.2.2.2.1), some (.ref g.2.2.1), some (.ref (g.2.2.1 + 6)), some (.ref (g.2.2.1 + 19)), some (.int (nI i)), none, none, none]) (by simp [am_le]) ?_
            exact hK
          · exact absurd (by rw [he]; exact sv_cmp_self _) hd
      · exact absurd rfl hc
    · obtain ⟨-, -, v, hr2, -⟩ := h2
      cases hr2
  · obtain ⟨-, -, -, hr1⟩ := h1
    cases hr1
set_option maxHeartbeats 4000000 in
set_option maxRecDepth 100000 in
/-- law, diagonal -/
theorem lw_diagonal {g : am_G} {d i : Nat} {S : am_S} {T : sv_T} {P : am_O → am_S → Prop} (hn : g.2.2.2.2.2.2.1 ≤ 3072) (hi : i + 6 ≤ g.2.2.2.2.2.2.1) (hI : lw_I g S T) (hr : sv_R g S 16 700) (k : lw_K g d i S P) : am_W g (d + 5) mm_L_law (548, [some (.ref g.2.2.2.2.2.1), some (.ref g.2.2.1), some (.ref (g.2.2.1 + 6)), some (.ref (g.2.2.1 + 19)), some (.int (nI i)), none, none, none], []) S P := by
  obtain ⟨⟨lo, as, av, hC⟩, ⟨th, na, ne, nw, rd, mt, hN⟩, f, ho⟩ := hI
  refine am_aloadn d_L_law_548 rfl ?_
  refine lw_arg (j := 1) d_L_law_549 d_L_law_550 d_L_law_552 d_L_law_553 d_L_law_554 (by decide) rfl rfl (by omega) (by omega) ?_
  refine lw_arg (j := 2) d_L_law_555 d_L_law_556 d_L_law_558 d_L_law_559 d_L_law_560 (by decide) rfl rfl (by omega) (by omega) ?_
  refine lw_arg (j := 3) d_L_law_561 d_L_law_562 d_L_law_564 d_L_law_565 d_L_law_566 (by decide) rfl rfl (by omega) (by omega) ?_
  refine am_aloadn d_L_law_567 rfl ?_
  have hW : am_W g (d + 4) mm_L_diagonal (0, am_ent [.ref g.2.2.1, .int (lw_a g (i + 1)), .int (lw_a g (i + 2)), .int (lw_a g (i + 3)), .ref (g.2.2.1 + 19)] 6, []) S (sv_L g S (q_diagonal T (lw_a g (i + 1)) (lw_a g (i + 2)) (lw_a g (i + 3))) (sv_cd 4 5 6)) := w_diagonal hC hr ho
  have hE : ∀ S1 : am_S, sv_N g S1.1 T th na ne nw rd mt → am_W g (d + 4) mm_M_diagonal (0, am_ent [.ref (g.2.2.1 + 6), .int (lw_a g (i + 1)), .int (lw_a g (i + 2)), .int (lw_a g (i + 3))] 6, []) S1 (sv_E g S1 (q_diagonal T (lw_a g (i + 1)) (lw_a g (i + 2)) (lw_a g (i + 3))) (sv_cd 4 5 6)) := fun S1 h => e_diagonal (d := d + 2) h
  have hk := k_diagonal (T := T) (v := lw_a g (i + 1)) (x := lw_a g (i + 2)) (y := lw_a g (i + 3))
  generalize q_diagonal T (lw_a g (i + 1)) (lw_a g (i + 2)) (lw_a g (i + 3)) = q at hW hE hk
  refine am_callS (P' := sv_L g S q (sv_cd 4 5 6)) [.ref g.2.2.1, .int (lw_a g (i + 1)), .int (lw_a g (i + 2)), .int (lw_a g (i + 3)), .ref (g.2.2.1 + 19)] [] d_L_law_568 cS_L_111 rfl rfl (Nat.le_of_ble_eq_true rfl) (Nat.le_of_ble_eq_true rfl) hW (fun v1 S1 h1 => ?_) (fun x1 S1 h1 => ?_)
  · obtain ⟨⟨lo1, as1, av1, hC1⟩, ⟨hM1, hg1, hg2⟩, ⟨f1, ho1, hv1⟩, hr1⟩ := h1
    obtain rfl := Sum.inl.inj hr1
    have hN1 := hN.keep hM1
    obtain ⟨fs1, hm1⟩ := hN1.obj
    show am_W g (d + 5) mm_L_law (571, [some (.ref g.2.2.2.2.2.1), some (.ref g.2.2.1), some (.ref (g.2.2.1 + 6)), some (.ref (g.2.2.1 + 19)), some (.int (nI i)), none, none, none], [.int (sv_cd 4 5 6 q.1)]) S1 _
    refine am_istore (L' := [some (.ref g.2.2.2.2.2.1), some (.ref g.2.2.1), some (.ref (g.2.2.1 + 6)), some (.ref (g.2.2.1 + 19)), some (.int (nI i)), some (.int (sv_cd 4 5 6 q.1)), none, none]) d_L_law_571 (by decide) rfl rfl ?_
    refine am_aloadn d_L_law_573 rfl ?_
    refine lw_arg (j := 1) d_L_law_574 d_L_law_575 d_L_law_577 d_L_law_578 d_L_law_579 (by decide) rfl rfl (by omega) (by omega) ?_
    refine lw_arg (j := 2) d_L_law_580 d_L_law_581 d_L_law_583 d_L_law_584 d_L_law_585 (by decide) rfl rfl (by omega) (by omega) ?_
    refine lw_arg (j := 3) d_L_law_586 d_L_law_587 d_L_law_589 d_L_law_590 d_L_law_591 (by decide) rfl rfl (by omega) (by omega) ?_
    refine am_callV (P' := sv_E g S1 q (sv_cd 4 5 6)) [.int (lw_a g (i + 1)), .int (lw_a g (i + 2)), .int (lw_a g (i + 3))] [] d_L_law_592 cV_L_113 hm1 rfl rfl (Nat.le_of_ble_eq_true rfl) (Nat.le_of_ble_eq_true rfl) (hE S1 hN1) (fun v2 S2 h2 => ?_) (fun x2 S2 h2 => ?_)
    · obtain ⟨⟨na2, ne2, nw2, rd2, mt2, hN2⟩, ⟨hz2, hf2⟩, v, hr2, hq2⟩ := h2
      obtain rfl := Sum.inl.inj hr2
      have hC2 : sv_C g lo1 S2 q.2.2 as1 av1 := hC1.far (fun k hk => hf2 k (by omega)) (by rw [hz2]; exact hC1.base.2.1)
      have ho2 : sv_oc g S2.1 f1 := (hf2 _ (by omega)).trans ho1
      have hK := k S2 q.2.2 ⟨⟨lo1, as1, av1, hC2⟩, ⟨_, _, _, _, _, _, hN2⟩, f1, ho2⟩ (by rw [hz2]; exact hg1) (by rw [hz2]; exact hg2)
      obtain ⟨fs2, hm2⟩ := hN2.obj
      show am_W g (d + 5) mm_L_law (595, [some (.ref g.2.2.2.2.2.1), some (.ref g.2.2.1), some (.ref (g.2.2.1 + 6)), some (.ref (g.2.2.1 + 19)), some (.int (nI i)), some (.int (sv_cd 4 5 6 q.1)), none, none], [.int v]) S2 _
      refine am_istore (L' := [some (.ref g.2.2.2.2.2.1), some (.ref g.2.2.1), some (.ref (g.2.2.1 + 6)), some (.ref (g.2.2.1 + 19)), some (.int (nI i)), some (.int (sv_cd 4 5 6 q.1)), some (.int v), none]) d_L_law_595 (by decide) rfl rfl ?_
      refine am_aloadn d_L_law_597 rfl ?_
      refine am_cpsV [] [] d_L_law_598 cV_L_93 rfl hm2 rfl rfl (Nat.le_of_ble_eq_true rfl) (Nat.le_of_ble_eq_true rfl) (m_thrown hN2 ?_)
      show am_W g (d + 5) mm_L_law (601, [some (.ref g.2.2.2.2.2.1), some (.ref g.2.2.1), some (.ref (g.2.2.1 + 6)), some (.ref (g.2.2.1 + 19)), some (.int (nI i)), some (.int (sv_cd 4 5 6 q.1)), some (.int v), none], [.int (sv_cd 4 5 6 q.1)]) S2 _
      refine am_iload d_L_law_601 rfl ?_
      refine am_iceq (tgt := 608) d_L_law_603 (by decide) (fun hc => ?_) (fun hc => ?_)
      · refine am_iload d_L_law_608 rfl ?_
        refine am_ifne (tgt := 625) d_L_law_610 (by decide) (fun hz => ?_) (fun hz => ?_)
        · refine am_goto (tgt := 1677) d_L_law_625 (by decide) ?_
          refine am_drop (L' := [some (.ref g.2.2.2.2.2.1), some (.ref g.2.2.1), some (.ref (g.2.2.1 + 6)), some (.ref (g.2.2.1 + 19)), some (.int (nI i)), none, none, none]) (by simp [am_le]) ?_
          exact hK
        · have h0 := hk.zero (k := sv_cd 4 5 6) (fun _ => by decide) (fun _ => by decide) (fun _ => by decide) hz
          have he : f1 0 = v.toInt64 := (hv1 h0).1 v (hq2 h0).symm
          refine am_aloadn d_L_law_613 rfl ?_
          refine am_iconst 0 d_L_law_614 (by decide) ?_
          refine am_ti (b := nI 0) rfl ?_
          refine am_laldN (t := 1) (k := 0) d_L_law_615 rfl ho2 (by omega) (by omega) ?_
          refine am_iload d_L_law_616 rfl ?_
          refine am_i2l d_L_law_618 ?_
          refine am_lcmp d_L_law_619 ?_
          refine am_ifeq (tgt := 625) d_L_law_620 (by decide) (fun hd => ?_) (fun hd => ?_)
          · refine am_goto (tgt := 1677) d_L_law_625 (by decide) ?_
            refine am_drop (L' := [some (.ref g.2.2.2.2.2.1), some (.ref g.2.2.1), some (.ref (g.2.2.1 + 6)), some (.ref (g.2.2.1 + 19)), some (.int (nI i)), none, none, none]) (by simp [am_le]) ?_
            exact hK
          · exact absurd (by rw [he]; exact sv_cmp_self _) hd
      · exact absurd rfl hc
    · obtain ⟨-, -, v, hr2, -⟩ := h2
      cases hr2
  · obtain ⟨-, -, -, hr1⟩ := h1
    cases hr1
set_option maxHeartbeats 4000000 in
set_option maxRecDepth 100000 in
/-- law, shape -/
theorem lw_shape {g : am_G} {d i : Nat} {S : am_S} {T : sv_T} {P : am_O → am_S → Prop} (hn : g.2.2.2.2.2.2.1 ≤ 3072) (hi : i + 6 ≤ g.2.2.2.2.2.2.1) (hI : lw_I g S T) (hr : sv_R g S 16 700) (k : lw_K g d i S P) : am_W g (d + 5) mm_L_law (628, [some (.ref g.2.2.2.2.2.1), some (.ref g.2.2.1), some (.ref (g.2.2.1 + 6)), some (.ref (g.2.2.1 + 19)), some (.int (nI i)), none, none, none], []) S P := by
  obtain ⟨⟨lo, as, av, hC⟩, ⟨th, na, ne, nw, rd, mt, hN⟩, f, ho⟩ := hI
  refine am_aloadn d_L_law_628 rfl ?_
  refine lw_arg (j := 1) d_L_law_629 d_L_law_630 d_L_law_632 d_L_law_633 d_L_law_634 (by decide) rfl rfl (by omega) (by omega) ?_
  refine lw_arg (j := 2) d_L_law_635 d_L_law_636 d_L_law_638 d_L_law_639 d_L_law_640 (by decide) rfl rfl (by omega) (by omega) ?_
  refine lw_arg (j := 3) d_L_law_641 d_L_law_642 d_L_law_644 d_L_law_645 d_L_law_646 (by decide) rfl rfl (by omega) (by omega) ?_
  refine lw_arg (j := 4) d_L_law_647 d_L_law_648 d_L_law_650 d_L_law_651 d_L_law_652 (by decide) rfl rfl (by omega) (by omega) ?_
  refine am_aloadn d_L_law_653 rfl ?_
  have hW : am_W g (d + 4) mm_L_shape (0, am_ent [.ref g.2.2.1, .int (lw_a g (i + 1)), .int (lw_a g (i + 2)), .int (lw_a g (i + 3)), .int (lw_a g (i + 4)), .ref (g.2.2.1 + 19)] 7, []) S (sv_L g S (q_shape T (lw_a g (i + 1)) (lw_a g (i + 2)) (lw_a g (i + 3)) (lw_a g (i + 4))) (sv_cd 4 5 6)) := w_shape hC hr ho
  have hE : ∀ S1 : am_S, sv_N g S1.1 T th na ne nw rd mt → am_W g (d + 4) mm_M_shape (0, am_ent [.ref (g.2.2.1 + 6), .int (lw_a g (i + 1)), .int (lw_a g (i + 2)), .int (lw_a g (i + 3)), .int (lw_a g (i + 4))] 7, []) S1 (sv_E g S1 (q_shape T (lw_a g (i + 1)) (lw_a g (i + 2)) (lw_a g (i + 3)) (lw_a g (i + 4))) (sv_cd 4 5 6)) := fun S1 h => e_shape (d := d + 1) h
  have hk := k_shape (T := T) (v := lw_a g (i + 1)) (x := lw_a g (i + 2)) (y := lw_a g (i + 3)) (z := lw_a g (i + 4))
  generalize q_shape T (lw_a g (i + 1)) (lw_a g (i + 2)) (lw_a g (i + 3)) (lw_a g (i + 4)) = q at hW hE hk
  refine am_callS (P' := sv_L g S q (sv_cd 4 5 6)) [.ref g.2.2.1, .int (lw_a g (i + 1)), .int (lw_a g (i + 2)), .int (lw_a g (i + 3)), .int (lw_a g (i + 4)), .ref (g.2.2.1 + 19)] [] d_L_law_654 cS_L_114 rfl rfl (Nat.le_of_ble_eq_true rfl) (Nat.le_of_ble_eq_true rfl) hW (fun v1 S1 h1 => ?_) (fun x1 S1 h1 => ?_)
  · obtain ⟨⟨lo1, as1, av1, hC1⟩, ⟨hM1, hg1, hg2⟩, ⟨f1, ho1, hv1⟩, hr1⟩ := h1
    obtain rfl := Sum.inl.inj hr1
    have hN1 := hN.keep hM1
    obtain ⟨fs1, hm1⟩ := hN1.obj
    show am_W g (d + 5) mm_L_law (657, [some (.ref g.2.2.2.2.2.1), some (.ref g.2.2.1), some (.ref (g.2.2.1 + 6)), some (.ref (g.2.2.1 + 19)), some (.int (nI i)), none, none, none], [.int (sv_cd 4 5 6 q.1)]) S1 _
    refine am_istore (L' := [some (.ref g.2.2.2.2.2.1), some (.ref g.2.2.1), some (.ref (g.2.2.1 + 6)), some (.ref (g.2.2.1 + 19)), some (.int (nI i)), some (.int (sv_cd 4 5 6 q.1)), none, none]) d_L_law_657 (by decide) rfl rfl ?_
    refine am_aloadn d_L_law_659 rfl ?_
    refine lw_arg (j := 1) d_L_law_660 d_L_law_661 d_L_law_663 d_L_law_664 d_L_law_665 (by decide) rfl rfl (by omega) (by omega) ?_
    refine lw_arg (j := 2) d_L_law_666 d_L_law_667 d_L_law_669 d_L_law_670 d_L_law_671 (by decide) rfl rfl (by omega) (by omega) ?_
    refine lw_arg (j := 3) d_L_law_672 d_L_law_673 d_L_law_675 d_L_law_676 d_L_law_677 (by decide) rfl rfl (by omega) (by omega) ?_
    refine lw_arg (j := 4) d_L_law_678 d_L_law_679 d_L_law_681 d_L_law_682 d_L_law_683 (by decide) rfl rfl (by omega) (by omega) ?_
    refine am_callV (P' := sv_E g S1 q (sv_cd 4 5 6)) [.int (lw_a g (i + 1)), .int (lw_a g (i + 2)), .int (lw_a g (i + 3)), .int (lw_a g (i + 4))] [] d_L_law_684 cV_L_117 hm1 rfl rfl (Nat.le_of_ble_eq_true rfl) (Nat.le_of_ble_eq_true rfl) (hE S1 hN1) (fun v2 S2 h2 => ?_) (fun x2 S2 h2 => ?_)
    · obtain ⟨⟨na2, ne2, nw2, rd2, mt2, hN2⟩, ⟨hz2, hf2⟩, v, hr2, hq2⟩ := h2
      obtain rfl := Sum.inl.inj hr2
      have hC2 : sv_C g lo1 S2 q.2.2 as1 av1 := hC1.far (fun k hk => hf2 k (by omega)) (by rw [hz2]; exact hC1.base.2.1)
      have ho2 : sv_oc g S2.1 f1 := (hf2 _ (by omega)).trans ho1
      have hK := k S2 q.2.2 ⟨⟨lo1, as1, av1, hC2⟩, ⟨_, _, _, _, _, _, hN2⟩, f1, ho2⟩ (by rw [hz2]; exact hg1) (by rw [hz2]; exact hg2)
      obtain ⟨fs2, hm2⟩ := hN2.obj
      show am_W g (d + 5) mm_L_law (687, [some (.ref g.2.2.2.2.2.1), some (.ref g.2.2.1), some (.ref (g.2.2.1 + 6)), some (.ref (g.2.2.1 + 19)), some (.int (nI i)), some (.int (sv_cd 4 5 6 q.1)), none, none], [.int v]) S2 _
      refine am_istore (L' := [some (.ref g.2.2.2.2.2.1), some (.ref g.2.2.1), some (.ref (g.2.2.1 + 6)), some (.ref (g.2.2.1 + 19)), some (.int (nI i)), some (.int (sv_cd 4 5 6 q.1)), some (.int v), none]) d_L_law_687 (by decide) rfl rfl ?_
      refine am_aloadn d_L_law_689 rfl ?_
      refine am_cpsV [] [] d_L_law_690 cV_L_93 rfl hm2 rfl rfl (Nat.le_of_ble_eq_true rfl) (Nat.le_of_ble_eq_true rfl) (m_thrown hN2 ?_)
      show am_W g (d + 5) mm_L_law (693, [some (.ref g.2.2.2.2.2.1), some (.ref g.2.2.1), some (.ref (g.2.2.1 + 6)), some (.ref (g.2.2.1 + 19)), some (.int (nI i)), some (.int (sv_cd 4 5 6 q.1)), some (.int v), none], [.int (sv_cd 4 5 6 q.1)]) S2 _
      refine am_iload d_L_law_693 rfl ?_
      refine am_iceq (tgt := 700) d_L_law_695 (by decide) (fun hc => ?_) (fun hc => ?_)
      · refine am_iload d_L_law_700 rfl ?_
        refine am_ifne (tgt := 717) d_L_law_702 (by decide) (fun hz => ?_) (fun hz => ?_)
        · refine am_goto (tgt := 1677) d_L_law_717 (by decide) ?_
          refine am_drop (L' := [some (.ref g.2.2.2.2.2.1), some (.ref g.2.2.1), some (.ref (g.2.2.1 + 6)), some (.ref (g.2.2.1 + 19)), some (.int (nI i)), none, none, none]) (by simp [am_le]) ?_
          exact hK
        · have h0 := hk.zero (k := sv_cd 4 5 6) (fun _ => by decide) (fun _ => by decide) (fun _ => by decide) hz
          have he : f1 0 = v.toInt64 := (hv1 h0).1 v (hq2 h0).symm
          refine am_aloadn d_L_law_705 rfl ?_
          refine am_iconst 0 d_L_law_706 (by decide) ?_
          refine am_ti (b := nI 0) rfl ?_
          refine am_laldN (t := 1) (k := 0) d_L_law_707 rfl ho2 (by omega) (by omega) ?_
          refine am_iload d_L_law_708 rfl ?_
          refine am_i2l d_L_law_710 ?_
          refine am_lcmp d_L_law_711 ?_
          refine am_ifeq (tgt := 717) d_L_law_712 (by decide) (fun hd => ?_) (fun hd => ?_)
          · refine am_goto (tgt := 1677) d_L_law_717 (by decide) ?_
            refine am_drop (L' := [some (.ref g.2.2.2.2.2.1), some (.ref g.2.2.1), some (.ref (g.2.2.1 + 6)), some (.ref (g.2.2.1 + 19)), some (.int (nI i)), none, none, none]) (by simp [am_le]) ?_
            exact hK
          · exact absurd (by rw [he]; exact sv_cmp_self _) hd
      · exact absurd rfl hc
    · obtain ⟨-, -, v, hr2, -⟩ := h2
      cases hr2
  · obtain ⟨-, -, -, hr1⟩ := h1
    cases hr1
set_option maxHeartbeats 4000000 in
set_option maxRecDepth 100000 in
/-- law, compact -/
theorem lw_compact {g : am_G} {d i : Nat} {S : am_S} {T : sv_T} {P : am_O → am_S → Prop} (hn : g.2.2.2.2.2.2.1 ≤ 3072) (hi : i + 6 ≤ g.2.2.2.2.2.2.1) (hI : lw_I g S T) (hr : sv_R g S 16 700) (k : lw_K g d i S P) : am_W g (d + 5) mm_L_law (720, [some (.ref g.2.2.2.2.2.1), some (.ref g.2.2.1), some (.ref (g.2.2.1 + 6)), some (.ref (g.2.2.1 + 19)), some (.int (nI i)), none, none, none], []) S P := by
  obtain ⟨⟨lo, as, av, hC⟩, ⟨th, na, ne, nw, rd, mt, hN⟩, f, ho⟩ := hI
  refine am_aloadn d_L_law_720 rfl ?_
  refine lw_arg (j := 1) d_L_law_721 d_L_law_722 d_L_law_724 d_L_law_725 d_L_law_726 (by decide) rfl rfl (by omega) (by omega) ?_
  refine lw_arg (j := 2) d_L_law_727 d_L_law_728 d_L_law_730 d_L_law_731 d_L_law_732 (by decide) rfl rfl (by omega) (by omega) ?_
  refine am_aloadn d_L_law_733 rfl ?_
  have hW : am_W g (d + 4) mm_L_compact (0, am_ent [.ref g.2.2.1, .int (lw_a g (i + 1)), .int (lw_a g (i + 2)), .ref (g.2.2.1 + 19)] 5, []) S (sv_L g S (q_compact T (lw_a g (i + 1)) (lw_a g (i + 2))) (sv_cd 4 5 6)) := w_compact hC hr ho
  have hE : ∀ S1 : am_S, sv_N g S1.1 T th na ne nw rd mt → am_W g (d + 4) mm_M_compact (0, am_ent [.ref (g.2.2.1 + 6), .int (lw_a g (i + 1)), .int (lw_a g (i + 2))] 8, []) S1 (sv_E g S1 (q_compact T (lw_a g (i + 1)) (lw_a g (i + 2))) (sv_cd 4 5 6)) := fun S1 h => e_compact (d := d + 1) h
  have hk := k_compact (T := T) (v := lw_a g (i + 1)) (ln := lw_a g (i + 2))
  generalize q_compact T (lw_a g (i + 1)) (lw_a g (i + 2)) = q at hW hE hk
  refine am_callS (P' := sv_L g S q (sv_cd 4 5 6)) [.ref g.2.2.1, .int (lw_a g (i + 1)), .int (lw_a g (i + 2)), .ref (g.2.2.1 + 19)] [] d_L_law_734 cS_L_118 rfl rfl (Nat.le_of_ble_eq_true rfl) (Nat.le_of_ble_eq_true rfl) hW (fun v1 S1 h1 => ?_) (fun x1 S1 h1 => ?_)
  · obtain ⟨⟨lo1, as1, av1, hC1⟩, ⟨hM1, hg1, hg2⟩, ⟨f1, ho1, hv1⟩, hr1⟩ := h1
    obtain rfl := Sum.inl.inj hr1
    have hN1 := hN.keep hM1
    obtain ⟨fs1, hm1⟩ := hN1.obj
    show am_W g (d + 5) mm_L_law (737, [some (.ref g.2.2.2.2.2.1), some (.ref g.2.2.1), some (.ref (g.2.2.1 + 6)), some (.ref (g.2.2.1 + 19)), some (.int (nI i)), none, none, none], [.int (sv_cd 4 5 6 q.1)]) S1 _
    refine am_istore (L' := [some (.ref g.2.2.2.2.2.1), some (.ref g.2.2.1), some (.ref (g.2.2.1 + 6)), some (.ref (g.2.2.1 + 19)), some (.int (nI i)), some (.int (sv_cd 4 5 6 q.1)), none, none]) d_L_law_737 (by decide) rfl rfl ?_
    refine am_aloadn d_L_law_739 rfl ?_
    refine lw_arg (j := 1) d_L_law_740 d_L_law_741 d_L_law_743 d_L_law_744 d_L_law_745 (by decide) rfl rfl (by omega) (by omega) ?_
    refine lw_arg (j := 2) d_L_law_746 d_L_law_747 d_L_law_749 d_L_law_750 d_L_law_751 (by decide) rfl rfl (by omega) (by omega) ?_
    refine am_callV (P' := sv_E g S1 q (sv_cd 4 5 6)) [.int (lw_a g (i + 1)), .int (lw_a g (i + 2))] [] d_L_law_752 cV_L_120 hm1 rfl rfl (Nat.le_of_ble_eq_true rfl) (Nat.le_of_ble_eq_true rfl) (hE S1 hN1) (fun v2 S2 h2 => ?_) (fun x2 S2 h2 => ?_)
    · obtain ⟨⟨na2, ne2, nw2, rd2, mt2, hN2⟩, ⟨hz2, hf2⟩, v, hr2, hq2⟩ := h2
      obtain rfl := Sum.inl.inj hr2
      have hC2 : sv_C g lo1 S2 q.2.2 as1 av1 := hC1.far (fun k hk => hf2 k (by omega)) (by rw [hz2]; exact hC1.base.2.1)
      have ho2 : sv_oc g S2.1 f1 := (hf2 _ (by omega)).trans ho1
      have hK := k S2 q.2.2 ⟨⟨lo1, as1, av1, hC2⟩, ⟨_, _, _, _, _, _, hN2⟩, f1, ho2⟩ (by rw [hz2]; exact hg1) (by rw [hz2]; exact hg2)
      obtain ⟨fs2, hm2⟩ := hN2.obj
      show am_W g (d + 5) mm_L_law (755, [some (.ref g.2.2.2.2.2.1), some (.ref g.2.2.1), some (.ref (g.2.2.1 + 6)), some (.ref (g.2.2.1 + 19)), some (.int (nI i)), some (.int (sv_cd 4 5 6 q.1)), none, none], [.int v]) S2 _
      refine am_istore (L' := [some (.ref g.2.2.2.2.2.1), some (.ref g.2.2.1), some (.ref (g.2.2.1 + 6)), some (.ref (g.2.2.1 + 19)), some (.int (nI i)), some (.int (sv_cd 4 5 6 q.1)), some (.int v), none]) d_L_law_755 (by decide) rfl rfl ?_
      refine am_aloadn d_L_law_757 rfl ?_
      refine am_cpsV [] [] d_L_law_758 cV_L_93 rfl hm2 rfl rfl (Nat.le_of_ble_eq_true rfl) (Nat.le_of_ble_eq_true rfl) (m_thrown hN2 ?_)
      show am_W g (d + 5) mm_L_law (761, [some (.ref g.2.2.2.2.2.1), some (.ref g.2.2.1), some (.ref (g.2.2.1 + 6)), some (.ref (g.2.2.1 + 19)), some (.int (nI i)), some (.int (sv_cd 4 5 6 q.1)), some (.int v), none], [.int (sv_cd 4 5 6 q.1)]) S2 _
      refine am_iload d_L_law_761 rfl ?_
      refine am_iceq (tgt := 768) d_L_law_763 (by decide) (fun hc => ?_) (fun hc => ?_)
      · refine am_iload d_L_law_768 rfl ?_
        refine am_ifne (tgt := 785) d_L_law_770 (by decide) (fun hz => ?_) (fun hz => ?_)
        · refine am_goto (tgt := 1677) d_L_law_785 (by decide) ?_
          refine am_drop (L' := [some (.ref g.2.2.2.2.2.1), some (.ref g.2.2.1), some (.ref (g.2.2.1 + 6)), some (.ref (g.2.2.1 + 19)), some (.int (nI i)), none, none, none]) (by simp [am_le]) ?_
          exact hK
        · have h0 := hk.zero (k := sv_cd 4 5 6) (fun _ => by decide) (fun _ => by decide) (fun _ => by decide) hz
          have he : f1 0 = v.toInt64 := (hv1 h0).1 v (hq2 h0).symm
          refine am_aloadn d_L_law_773 rfl ?_
          refine am_iconst 0 d_L_law_774 (by decide) ?_
          refine am_ti (b := nI 0) rfl ?_
          refine am_laldN (t := 1) (k := 0) d_L_law_775 rfl ho2 (by omega) (by omega) ?_
          refine am_iload d_L_law_776 rfl ?_
          refine am_i2l d_L_law_778 ?_
          refine am_lcmp d_L_law_779 ?_
          refine am_ifeq (tgt := 785) d_L_law_780 (by decide) (fun hd => ?_) (fun hd => ?_)
          · refine am_goto (tgt := 1677) d_L_law_785 (by decide) ?_
            refine am_drop (L' := [some (.ref g.2.2.2.2.2.1), some (.ref g.2.2.1), some (.ref (g.2.2.1 + 6)), some (.ref (g.2.2.1 + 19)), some (.int (nI i)), none, none, none]) (by simp [am_le]) ?_
            exact hK
          · exact absurd (by rw [he]; exact sv_cmp_self _) hd
      · exact absurd rfl hc
    · obtain ⟨-, -, v, hr2, -⟩ := h2
      cases hr2
  · obtain ⟨-, -, -, hr1⟩ := h1
    cases hr1
set_option maxHeartbeats 4000000 in
set_option maxRecDepth 100000 in
/-- law, at -/
theorem lw_at {g : am_G} {d i : Nat} {S : am_S} {T : sv_T} {P : am_O → am_S → Prop} (hn : g.2.2.2.2.2.2.1 ≤ 3072) (hi : i + 6 ≤ g.2.2.2.2.2.2.1) (hI : lw_I g S T) (hr : sv_R g S 16 700) (k : lw_K g d i S P) : am_W g (d + 5) mm_L_law (788, [some (.ref g.2.2.2.2.2.1), some (.ref g.2.2.1), some (.ref (g.2.2.1 + 6)), some (.ref (g.2.2.1 + 19)), some (.int (nI i)), none, none, none], []) S P := by
  obtain ⟨⟨lo, as, av, hC⟩, ⟨th, na, ne, nw, rd, mt, hN⟩, f, ho⟩ := hI
  refine am_aloadn d_L_law_788 rfl ?_
  refine lw_arg (j := 1) d_L_law_789 d_L_law_790 d_L_law_792 d_L_law_793 d_L_law_794 (by decide) rfl rfl (by omega) (by omega) ?_
  refine lw_arg (j := 2) d_L_law_795 d_L_law_796 d_L_law_798 d_L_law_799 d_L_law_800 (by decide) rfl rfl (by omega) (by omega) ?_
  refine am_aloadn d_L_law_801 rfl ?_
  have hW : am_W g (d + 4) mm_L_at (0, am_ent [.ref g.2.2.1, .int (lw_a g (i + 1)), .int (lw_a g (i + 2)), .ref (g.2.2.1 + 19)] 5, []) S (sv_L g S (q_at T (lw_a g (i + 1)) (lw_a g (i + 2))) (sv_cd 4 6 9)) := w_at hC hr ho
  have hE : ∀ S1 : am_S, sv_N g S1.1 T th na ne nw rd mt → am_W g (d + 4) mm_M_at (0, am_ent [.ref (g.2.2.1 + 6), .int (lw_a g (i + 1)), .int (lw_a g (i + 2))] 3, []) S1 (sv_EL g S1 (q_at T (lw_a g (i + 1)) (lw_a g (i + 2))) (sv_cd 4 6 9)) := fun S1 h => e_at (d := d + 1) h
  have hk := k_at (T := T) (v := lw_a g (i + 1)) (i := lw_a g (i + 2))
  generalize q_at T (lw_a g (i + 1)) (lw_a g (i + 2)) = q at hW hE hk
  refine am_callS (P' := sv_L g S q (sv_cd 4 6 9)) [.ref g.2.2.1, .int (lw_a g (i + 1)), .int (lw_a g (i + 2)), .ref (g.2.2.1 + 19)] [] d_L_law_802 cS_L_121 rfl rfl (Nat.le_of_ble_eq_true rfl) (Nat.le_of_ble_eq_true rfl) hW (fun v1 S1 h1 => ?_) (fun x1 S1 h1 => ?_)
  · obtain ⟨⟨lo1, as1, av1, hC1⟩, ⟨hM1, hg1, hg2⟩, ⟨f1, ho1, hv1⟩, hr1⟩ := h1
    obtain rfl := Sum.inl.inj hr1
    have hN1 := hN.keep hM1
    obtain ⟨fs1, hm1⟩ := hN1.obj
    show am_W g (d + 5) mm_L_law (805, [some (.ref g.2.2.2.2.2.1), some (.ref g.2.2.1), some (.ref (g.2.2.1 + 6)), some (.ref (g.2.2.1 + 19)), some (.int (nI i)), none, none, none], [.int (sv_cd 4 6 9 q.1)]) S1 _
    refine am_istore (L' := [some (.ref g.2.2.2.2.2.1), some (.ref g.2.2.1), some (.ref (g.2.2.1 + 6)), some (.ref (g.2.2.1 + 19)), some (.int (nI i)), some (.int (sv_cd 4 6 9 q.1)), none, none]) d_L_law_805 (by decide) rfl rfl ?_
    refine am_aloadn d_L_law_807 rfl ?_
    refine lw_arg (j := 1) d_L_law_808 d_L_law_809 d_L_law_811 d_L_law_812 d_L_law_813 (by decide) rfl rfl (by omega) (by omega) ?_
    refine lw_arg (j := 2) d_L_law_814 d_L_law_815 d_L_law_817 d_L_law_818 d_L_law_819 (by decide) rfl rfl (by omega) (by omega) ?_
    refine am_callV (P' := sv_EL g S1 q (sv_cd 4 6 9)) [.int (lw_a g (i + 1)), .int (lw_a g (i + 2))] [] d_L_law_820 cV_L_123 hm1 rfl rfl (Nat.le_of_ble_eq_true rfl) (Nat.le_of_ble_eq_true rfl) (hE S1 hN1) (fun v2 S2 h2 => ?_) (fun x2 S2 h2 => ?_)
    · obtain ⟨⟨na2, ne2, nw2, rd2, mt2, hN2⟩, ⟨hz2, hf2⟩, v, hr2, hq2⟩ := h2
      obtain rfl := Sum.inl.inj hr2
      have hC2 : sv_C g lo1 S2 q.2.2 as1 av1 := hC1.far (fun k hk => hf2 k (by omega)) (by rw [hz2]; exact hC1.base.2.1)
      have ho2 : sv_oc g S2.1 f1 := (hf2 _ (by omega)).trans ho1
      have hK := k S2 q.2.2 ⟨⟨lo1, as1, av1, hC2⟩, ⟨_, _, _, _, _, _, hN2⟩, f1, ho2⟩ (by rw [hz2]; exact hg1) (by rw [hz2]; exact hg2)
      obtain ⟨fs2, hm2⟩ := hN2.obj
      show am_W g (d + 5) mm_L_law (823, [some (.ref g.2.2.2.2.2.1), some (.ref g.2.2.1), some (.ref (g.2.2.1 + 6)), some (.ref (g.2.2.1 + 19)), some (.int (nI i)), some (.int (sv_cd 4 6 9 q.1)), none, none], [.long v]) S2 _
      refine am_lstore (L' := [some (.ref g.2.2.2.2.2.1), some (.ref g.2.2.1), some (.ref (g.2.2.1 + 6)), some (.ref (g.2.2.1 + 19)), some (.int (nI i)), some (.int (sv_cd 4 6 9 q.1)), some (.long v), none]) d_L_law_823 (by decide) rfl rfl ?_
      refine am_aloadn d_L_law_825 rfl ?_
      refine am_cpsV [] [] d_L_law_826 cV_L_93 rfl hm2 rfl rfl (Nat.le_of_ble_eq_true rfl) (Nat.le_of_ble_eq_true rfl) (m_thrown hN2 ?_)
      show am_W g (d + 5) mm_L_law (829, [some (.ref g.2.2.2.2.2.1), some (.ref g.2.2.1), some (.ref (g.2.2.1 + 6)), some (.ref (g.2.2.1 + 19)), some (.int (nI i)), some (.int (sv_cd 4 6 9 q.1)), some (.long v), none], [.int (sv_cd 4 6 9 q.1)]) S2 _
      refine am_iload d_L_law_829 rfl ?_
      refine am_iceq (tgt := 836) d_L_law_831 (by decide) (fun hc => ?_) (fun hc => ?_)
      · refine am_iload d_L_law_836 rfl ?_
        refine am_ifne (tgt := 852) d_L_law_838 (by decide) (fun hz => ?_) (fun hz => ?_)
        · refine am_goto (tgt := 1677) d_L_law_852 (by decide) ?_
          refine am_drop (L' := [some (.ref g.2.2.2.2.2.1), some (.ref g.2.2.1), some (.ref (g.2.2.1 + 6)), some (.ref (g.2.2.1 + 19)), some (.int (nI i)), none, none, none]) (by simp [am_le]) ?_
          exact hK
        · have h0 := hk.zero (k := sv_cd 4 6 9) (fun _ => by decide) (fun h => h.elim) (fun h => h.elim) hz
          have he : f1 0 = v := (hv1 h0).2 v (hq2 h0).symm
          refine am_aloadn d_L_law_841 rfl ?_
          refine am_iconst 0 d_L_law_842 (by decide) ?_
          refine am_ti (b := nI 0) rfl ?_
          refine am_laldN (t := 1) (k := 0) d_L_law_843 rfl ho2 (by omega) (by omega) ?_
          refine am_lload d_L_law_844 rfl ?_
          refine am_lcmp d_L_law_846 ?_
          refine am_ifeq (tgt := 852) d_L_law_847 (by decide) (fun hd => ?_) (fun hd => ?_)
          · refine am_goto (tgt := 1677) d_L_law_852 (by decide) ?_
            refine am_drop (L' := [some (.ref g.2.2.2.2.2.1), some (.ref g.2.2.1), some (.ref (g.2.2.1 + 6)), some (.ref (g.2.2.1 + 19)), some (.int (nI i)), none, none, none]) (by simp [am_le]) ?_
            exact hK
          · exact absurd (by rw [he]; exact sv_cmp_self _) hd
      · exact absurd rfl hc
    · obtain ⟨-, -, v, hr2, -⟩ := h2
      cases hr2
  · obtain ⟨-, -, -, hr1⟩ := h1
    cases hr1
set_option maxHeartbeats 4000000 in
set_option maxRecDepth 100000 in
/-- law, put -/
theorem lw_put {g : am_G} {d i : Nat} {S : am_S} {T : sv_T} {P : am_O → am_S → Prop} (hn : g.2.2.2.2.2.2.1 ≤ 3072) (hi : i + 6 ≤ g.2.2.2.2.2.2.1) (hI : lw_I g S T) (hr : sv_R g S 16 700) (k : lw_K g d i S P) : am_W g (d + 5) mm_L_law (855, [some (.ref g.2.2.2.2.2.1), some (.ref g.2.2.1), some (.ref (g.2.2.1 + 6)), some (.ref (g.2.2.1 + 19)), some (.int (nI i)), none, none, none], []) S P := by
  obtain ⟨⟨lo, as, av, hC⟩, ⟨th, na, ne, nw, rd, mt, hN⟩, f, ho⟩ := hI
  refine am_aloadn d_L_law_855 rfl ?_
  refine lw_arg (j := 1) d_L_law_856 d_L_law_857 d_L_law_859 d_L_law_860 d_L_law_861 (by decide) rfl rfl (by omega) (by omega) ?_
  refine lw_arg (j := 2) d_L_law_862 d_L_law_863 d_L_law_865 d_L_law_866 d_L_law_867 (by decide) rfl rfl (by omega) (by omega) ?_
  refine lw_arg (j := 3) d_L_law_868 d_L_law_869 d_L_law_871 d_L_law_872 d_L_law_873 (by decide) rfl rfl (by omega) (by omega) ?_
  refine am_i2l d_L_law_874 ?_
  refine am_bipush 32 d_L_law_875 (by decide) ?_
  refine am_lshl d_L_law_877 ?_
  refine lw_arg (j := 4) d_L_law_878 d_L_law_879 d_L_law_881 d_L_law_882 d_L_law_883 (by decide) rfl rfl (by omega) (by omega) ?_
  refine am_i2l d_L_law_884 ?_
  refine am_ldc2 4294967295 d_L_law_885 (am_in 763 (by decide +kernel) rfl) ?_
  refine am_land d_L_law_888 ?_
  refine am_lor d_L_law_889 ?_
  obtain ⟨y9, hy9⟩ : ∃ z : Int64, z = (((lw_a g (i + 3)).toInt64) <<< ((32 : Int32).toInt64 &&& 63)) ||| (((lw_a g (i + 4)).toInt64) &&& 4294967295) := ⟨_, rfl⟩
  refine am_tl (b := y9) hy9.symm ?_
  refine am_aloadn d_L_law_890 rfl ?_
  have hW : am_W g (d + 4) mm_L_put (0, am_ent [.ref g.2.2.1, .int (lw_a g (i + 1)), .int (lw_a g (i + 2)), .long y9, .ref (g.2.2.1 + 19)] 7, []) S (sv_L g S (q_put T (lw_a g (i + 1)) (lw_a g (i + 2)) y9) (sv_cd 4 6 9)) := w_put hC hr ho
  have hE : ∀ S1 : am_S, sv_N g S1.1 T th na ne nw rd mt → am_W g (d + 4) mm_M_put (0, am_ent [.ref (g.2.2.1 + 6), .int (lw_a g (i + 1)), .int (lw_a g (i + 2)), .long y9] 8, []) S1 (sv_EL g S1 (q_put T (lw_a g (i + 1)) (lw_a g (i + 2)) y9) (sv_cd 4 6 9)) := fun S1 h => e_put (d := d) h
  have hk := k_put (T := T) (v := lw_a g (i + 1)) (i := lw_a g (i + 2)) (y := y9)
  generalize q_put T (lw_a g (i + 1)) (lw_a g (i + 2)) y9 = q at hW hE hk
  refine am_callS (P' := sv_L g S q (sv_cd 4 6 9)) [.ref g.2.2.1, .int (lw_a g (i + 1)), .int (lw_a g (i + 2)), .long y9, .ref (g.2.2.1 + 19)] [] d_L_law_891 cS_L_126 rfl rfl (Nat.le_of_ble_eq_true rfl) (Nat.le_of_ble_eq_true rfl) hW (fun v1 S1 h1 => ?_) (fun x1 S1 h1 => ?_)
  · obtain ⟨⟨lo1, as1, av1, hC1⟩, ⟨hM1, hg1, hg2⟩, ⟨f1, ho1, hv1⟩, hr1⟩ := h1
    obtain rfl := Sum.inl.inj hr1
    have hN1 := hN.keep hM1
    obtain ⟨fs1, hm1⟩ := hN1.obj
    show am_W g (d + 5) mm_L_law (894, [some (.ref g.2.2.2.2.2.1), some (.ref g.2.2.1), some (.ref (g.2.2.1 + 6)), some (.ref (g.2.2.1 + 19)), some (.int (nI i)), none, none, none], [.int (sv_cd 4 6 9 q.1)]) S1 _
    refine am_istore (L' := [some (.ref g.2.2.2.2.2.1), some (.ref g.2.2.1), some (.ref (g.2.2.1 + 6)), some (.ref (g.2.2.1 + 19)), some (.int (nI i)), some (.int (sv_cd 4 6 9 q.1)), none, none]) d_L_law_894 (by decide) rfl rfl ?_
    refine am_aloadn d_L_law_896 rfl ?_
    refine lw_arg (j := 1) d_L_law_897 d_L_law_898 d_L_law_900 d_L_law_901 d_L_law_902 (by decide) rfl rfl (by omega) (by omega) ?_
    refine lw_arg (j := 2) d_L_law_903 d_L_law_904 d_L_law_906 d_L_law_907 d_L_law_908 (by decide) rfl rfl (by omega) (by omega) ?_
    refine lw_arg (j := 3) d_L_law_909 d_L_law_910 d_L_law_912 d_L_law_913 d_L_law_914 (by decide) rfl rfl (by omega) (by omega) ?_
    refine am_i2l d_L_law_915 ?_
    refine am_bipush 32 d_L_law_916 (by decide) ?_
    refine am_lshl d_L_law_918 ?_
    refine lw_arg (j := 4) d_L_law_919 d_L_law_920 d_L_law_922 d_L_law_923 d_L_law_924 (by decide) rfl rfl (by omega) (by omega) ?_
    refine am_i2l d_L_law_925 ?_
    refine am_ldc2 4294967295 d_L_law_926 (am_in 763 (by decide +kernel) rfl) ?_
    refine am_land d_L_law_929 ?_
    refine am_lor d_L_law_930 ?_
    refine am_tl (b := y9) hy9.symm ?_
    refine am_callV (P' := sv_EL g S1 q (sv_cd 4 6 9)) [.int (lw_a g (i + 1)), .int (lw_a g (i + 2)), .long y9] [] d_L_law_931 cV_L_129 hm1 rfl rfl (Nat.le_of_ble_eq_true rfl) (Nat.le_of_ble_eq_true rfl) (hE S1 hN1) (fun v2 S2 h2 => ?_) (fun x2 S2 h2 => ?_)
    · obtain ⟨⟨na2, ne2, nw2, rd2, mt2, hN2⟩, ⟨hz2, hf2⟩, v, hr2, hq2⟩ := h2
      obtain rfl := Sum.inl.inj hr2
      have hC2 : sv_C g lo1 S2 q.2.2 as1 av1 := hC1.far (fun k hk => hf2 k (by omega)) (by rw [hz2]; exact hC1.base.2.1)
      have ho2 : sv_oc g S2.1 f1 := (hf2 _ (by omega)).trans ho1
      have hK := k S2 q.2.2 ⟨⟨lo1, as1, av1, hC2⟩, ⟨_, _, _, _, _, _, hN2⟩, f1, ho2⟩ (by rw [hz2]; exact hg1) (by rw [hz2]; exact hg2)
      obtain ⟨fs2, hm2⟩ := hN2.obj
      show am_W g (d + 5) mm_L_law (934, [some (.ref g.2.2.2.2.2.1), some (.ref g.2.2.1), some (.ref (g.2.2.1 + 6)), some (.ref (g.2.2.1 + 19)), some (.int (nI i)), some (.int (sv_cd 4 6 9 q.1)), none, none], [.long v]) S2 _
      refine am_lstore (L' := [some (.ref g.2.2.2.2.2.1), some (.ref g.2.2.1), some (.ref (g.2.2.1 + 6)), some (.ref (g.2.2.1 + 19)), some (.int (nI i)), some (.int (sv_cd 4 6 9 q.1)), some (.long v), none]) d_L_law_934 (by decide) rfl rfl ?_
      refine am_aloadn d_L_law_936 rfl ?_
      refine am_cpsV [] [] d_L_law_937 cV_L_93 rfl hm2 rfl rfl (Nat.le_of_ble_eq_true rfl) (Nat.le_of_ble_eq_true rfl) (m_thrown hN2 ?_)
      show am_W g (d + 5) mm_L_law (940, [some (.ref g.2.2.2.2.2.1), some (.ref g.2.2.1), some (.ref (g.2.2.1 + 6)), some (.ref (g.2.2.1 + 19)), some (.int (nI i)), some (.int (sv_cd 4 6 9 q.1)), some (.long v), none], [.int (sv_cd 4 6 9 q.1)]) S2 _
      refine am_iload d_L_law_940 rfl ?_
      refine am_iceq (tgt := 947) d_L_law_942 (by decide) (fun hc => ?_) (fun hc => ?_)
      · refine am_iload d_L_law_947 rfl ?_
        refine am_ifne (tgt := 963) d_L_law_949 (by decide) (fun hz => ?_) (fun hz => ?_)
        · refine am_goto (tgt := 1677) d_L_law_963 (by decide) ?_
          refine am_drop (L' := [some (.ref g.2.2.2.2.2.1), some (.ref g.2.2.1), some (.ref (g.2.2.1 + 6)), some (.ref (g.2.2.1 + 19)), some (.int (nI i)), none, none, none]) (by simp [am_le]) ?_
          exact hK
        · have h0 := hk.zero (k := sv_cd 4 6 9) (fun _ => by decide) (fun h => h.elim) (fun _ => by decide) hz
          have he : f1 0 = v := (hv1 h0).2 v (hq2 h0).symm
          refine am_aloadn d_L_law_952 rfl ?_
          refine am_iconst 0 d_L_law_953 (by decide) ?_
          refine am_ti (b := nI 0) rfl ?_
          refine am_laldN (t := 1) (k := 0) d_L_law_954 rfl ho2 (by omega) (by omega) ?_
          refine am_lload d_L_law_955 rfl ?_
          refine am_lcmp d_L_law_957 ?_
          refine am_ifeq (tgt := 963) d_L_law_958 (by decide) (fun hd => ?_) (fun hd => ?_)
          · refine am_goto (tgt := 1677) d_L_law_963 (by decide) ?_
            refine am_drop (L' := [some (.ref g.2.2.2.2.2.1), some (.ref g.2.2.1), some (.ref (g.2.2.1 + 6)), some (.ref (g.2.2.1 + 19)), some (.int (nI i)), none, none, none]) (by simp [am_le]) ?_
            exact hK
          · exact absurd (by rw [he]; exact sv_cmp_self _) hd
      · exact absurd rfl hc
    · obtain ⟨-, -, v, hr2, -⟩ := h2
      cases hr2
  · obtain ⟨-, -, -, hr1⟩ := h1
    cases hr1
set_option maxHeartbeats 4000000 in
set_option maxRecDepth 100000 in
/-- law, copy -/
theorem lw_copy {g : am_G} {d i : Nat} {S : am_S} {T : sv_T} {P : am_O → am_S → Prop} (hn : g.2.2.2.2.2.2.1 ≤ 3072) (hi : i + 6 ≤ g.2.2.2.2.2.2.1) (hI : lw_I g S T) (hr : sv_R g S 16 700) (k : lw_K g d i S P) : am_W g (d + 5) mm_L_law (966, [some (.ref g.2.2.2.2.2.1), some (.ref g.2.2.1), some (.ref (g.2.2.1 + 6)), some (.ref (g.2.2.1 + 19)), some (.int (nI i)), none, none, none], []) S P := by
  obtain ⟨⟨lo, as, av, hC⟩, ⟨th, na, ne, nw, rd, mt, hN⟩, f, ho⟩ := hI
  refine am_aloadn d_L_law_966 rfl ?_
  refine lw_arg (j := 1) d_L_law_967 d_L_law_968 d_L_law_970 d_L_law_971 d_L_law_972 (by decide) rfl rfl (by omega) (by omega) ?_
  refine lw_arg (j := 2) d_L_law_973 d_L_law_974 d_L_law_976 d_L_law_977 d_L_law_978 (by decide) rfl rfl (by omega) (by omega) ?_
  refine am_aloadn d_L_law_979 rfl ?_
  have hW : am_W g (d + 4) mm_L_copy (0, am_ent [.ref g.2.2.1, .int (lw_a g (i + 1)), .int (lw_a g (i + 2)), .ref (g.2.2.1 + 19)] 5, []) S (sv_L g S (q_copy T (lw_a g (i + 1)) (lw_a g (i + 2))) (sv_cd 4 5 6)) := w_copy hC hr ho
  have hE : ∀ S1 : am_S, sv_N g S1.1 T th na ne nw rd mt → am_W g (d + 4) mm_M_copy (0, am_ent [.ref (g.2.2.1 + 6), .int (lw_a g (i + 1)), .int (lw_a g (i + 2))] 6, []) S1 (sv_E g S1 (q_copy T (lw_a g (i + 1)) (lw_a g (i + 2))) (sv_cd 4 5 6)) := fun S1 h => e_copy (d := d) h
  have hk := k_copy (T := T) (v := lw_a g (i + 1)) (w := lw_a g (i + 2))
  generalize q_copy T (lw_a g (i + 1)) (lw_a g (i + 2)) = q at hW hE hk
  refine am_callS (P' := sv_L g S q (sv_cd 4 5 6)) [.ref g.2.2.1, .int (lw_a g (i + 1)), .int (lw_a g (i + 2)), .ref (g.2.2.1 + 19)] [] d_L_law_980 cS_L_130 rfl rfl (Nat.le_of_ble_eq_true rfl) (Nat.le_of_ble_eq_true rfl) hW (fun v1 S1 h1 => ?_) (fun x1 S1 h1 => ?_)
  · obtain ⟨⟨lo1, as1, av1, hC1⟩, ⟨hM1, hg1, hg2⟩, ⟨f1, ho1, hv1⟩, hr1⟩ := h1
    obtain rfl := Sum.inl.inj hr1
    have hN1 := hN.keep hM1
    obtain ⟨fs1, hm1⟩ := hN1.obj
    show am_W g (d + 5) mm_L_law (983, [some (.ref g.2.2.2.2.2.1), some (.ref g.2.2.1), some (.ref (g.2.2.1 + 6)), some (.ref (g.2.2.1 + 19)), some (.int (nI i)), none, none, none], [.int (sv_cd 4 5 6 q.1)]) S1 _
    refine am_istore (L' := [some (.ref g.2.2.2.2.2.1), some (.ref g.2.2.1), some (.ref (g.2.2.1 + 6)), some (.ref (g.2.2.1 + 19)), some (.int (nI i)), some (.int (sv_cd 4 5 6 q.1)), none, none]) d_L_law_983 (by decide) rfl rfl ?_
    refine am_aloadn d_L_law_985 rfl ?_
    refine lw_arg (j := 1) d_L_law_986 d_L_law_987 d_L_law_989 d_L_law_990 d_L_law_991 (by decide) rfl rfl (by omega) (by omega) ?_
    refine lw_arg (j := 2) d_L_law_992 d_L_law_993 d_L_law_995 d_L_law_996 d_L_law_997 (by decide) rfl rfl (by omega) (by omega) ?_
    refine am_callV (P' := sv_E g S1 q (sv_cd 4 5 6)) [.int (lw_a g (i + 1)), .int (lw_a g (i + 2))] [] d_L_law_998 cV_L_132 hm1 rfl rfl (Nat.le_of_ble_eq_true rfl) (Nat.le_of_ble_eq_true rfl) (hE S1 hN1) (fun v2 S2 h2 => ?_) (fun x2 S2 h2 => ?_)
    · obtain ⟨⟨na2, ne2, nw2, rd2, mt2, hN2⟩, ⟨hz2, hf2⟩, v, hr2, hq2⟩ := h2
      obtain rfl := Sum.inl.inj hr2
      have hC2 : sv_C g lo1 S2 q.2.2 as1 av1 := hC1.far (fun k hk => hf2 k (by omega)) (by rw [hz2]; exact hC1.base.2.1)
      have ho2 : sv_oc g S2.1 f1 := (hf2 _ (by omega)).trans ho1
      have hK := k S2 q.2.2 ⟨⟨lo1, as1, av1, hC2⟩, ⟨_, _, _, _, _, _, hN2⟩, f1, ho2⟩ (by rw [hz2]; exact hg1) (by rw [hz2]; exact hg2)
      obtain ⟨fs2, hm2⟩ := hN2.obj
      show am_W g (d + 5) mm_L_law (1001, [some (.ref g.2.2.2.2.2.1), some (.ref g.2.2.1), some (.ref (g.2.2.1 + 6)), some (.ref (g.2.2.1 + 19)), some (.int (nI i)), some (.int (sv_cd 4 5 6 q.1)), none, none], [.int v]) S2 _
      refine am_istore (L' := [some (.ref g.2.2.2.2.2.1), some (.ref g.2.2.1), some (.ref (g.2.2.1 + 6)), some (.ref (g.2.2.1 + 19)), some (.int (nI i)), some (.int (sv_cd 4 5 6 q.1)), some (.int v), none]) d_L_law_1001 (by decide) rfl rfl ?_
      refine am_aloadn d_L_law_1003 rfl ?_
      refine am_cpsV [] [] d_L_law_1004 cV_L_93 rfl hm2 rfl rfl (Nat.le_of_ble_eq_true rfl) (Nat.le_of_ble_eq_true rfl) (m_thrown hN2 ?_)
      show am_W g (d + 5) mm_L_law (1007, [some (.ref g.2.2.2.2.2.1), some (.ref g.2.2.1), some (.ref (g.2.2.1 + 6)), some (.ref (g.2.2.1 + 19)), some (.int (nI i)), some (.int (sv_cd 4 5 6 q.1)), some (.int v), none], [.int (sv_cd 4 5 6 q.1)]) S2 _
      refine am_iload d_L_law_1007 rfl ?_
      refine am_iceq (tgt := 1014) d_L_law_1009 (by decide) (fun hc => ?_) (fun hc => ?_)
      · refine am_iload d_L_law_1014 rfl ?_
        refine am_ifne (tgt := 1031) d_L_law_1016 (by decide) (fun hz => ?_) (fun hz => ?_)
        · refine am_goto (tgt := 1677) d_L_law_1031 (by decide) ?_
          refine am_drop (L' := [some (.ref g.2.2.2.2.2.1), some (.ref g.2.2.1), some (.ref (g.2.2.1 + 6)), some (.ref (g.2.2.1 + 19)), some (.int (nI i)), none, none, none]) (by simp [am_le]) ?_
          exact hK
        · have h0 := hk.zero (k := sv_cd 4 5 6) (fun _ => by decide) (fun _ => by decide) (fun _ => by decide) hz
          have he : f1 0 = v.toInt64 := (hv1 h0).1 v (hq2 h0).symm
          refine am_aloadn d_L_law_1019 rfl ?_
          refine am_iconst 0 d_L_law_1020 (by decide) ?_
          refine am_ti (b := nI 0) rfl ?_
          refine am_laldN (t := 1) (k := 0) d_L_law_1021 rfl ho2 (by omega) (by omega) ?_
          refine am_iload d_L_law_1022 rfl ?_
          refine am_i2l d_L_law_1024 ?_
          refine am_lcmp d_L_law_1025 ?_
          refine am_ifeq (tgt := 1031) d_L_law_1026 (by decide) (fun hd => ?_) (fun hd => ?_)
          · refine am_goto (tgt := 1677) d_L_law_1031 (by decide) ?_
            refine am_drop (L' := [some (.ref g.2.2.2.2.2.1), some (.ref g.2.2.1), some (.ref (g.2.2.1 + 6)), some (.ref (g.2.2.1 + 19)), some (.int (nI i)), none, none, none]) (by simp [am_le]) ?_
            exact hK
          · exact absurd (by rw [he]; exact sv_cmp_self _) hd
      · exact absurd rfl hc
    · obtain ⟨-, -, v, hr2, -⟩ := h2
      cases hr2
  · obtain ⟨-, -, -, hr1⟩ := h1
    cases hr1
set_option maxHeartbeats 4000000 in
set_option maxRecDepth 100000 in
/-- law, act -/
theorem lw_act {g : am_G} {d i : Nat} {S : am_S} {T : sv_T} {P : am_O → am_S → Prop} (hn : g.2.2.2.2.2.2.1 ≤ 3072) (hi : i + 6 ≤ g.2.2.2.2.2.2.1) (hI : lw_I g S T) (hr : sv_R g S 16 700) (k : lw_K g d i S P) : am_W g (d + 5) mm_L_law (1034, [some (.ref g.2.2.2.2.2.1), some (.ref g.2.2.1), some (.ref (g.2.2.1 + 6)), some (.ref (g.2.2.1 + 19)), some (.int (nI i)), none, none, none], []) S P := by
  obtain ⟨⟨lo, as, av, hC⟩, ⟨th, na, ne, nw, rd, mt, hN⟩, f, ho⟩ := hI
  refine am_aloadn d_L_law_1034 rfl ?_
  refine lw_arg (j := 1) d_L_law_1035 d_L_law_1036 d_L_law_1038 d_L_law_1039 d_L_law_1040 (by decide) rfl rfl (by omega) (by omega) ?_
  refine lw_arg (j := 2) d_L_law_1041 d_L_law_1042 d_L_law_1044 d_L_law_1045 d_L_law_1046 (by decide) rfl rfl (by omega) (by omega) ?_
  refine lw_arg (j := 3) d_L_law_1047 d_L_law_1048 d_L_law_1050 d_L_law_1051 d_L_law_1052 (by decide) rfl rfl (by omega) (by omega) ?_
  refine lw_arg (j := 4) d_L_law_1053 d_L_law_1054 d_L_law_1056 d_L_law_1057 d_L_law_1058 (by decide) rfl rfl (by omega) (by omega) ?_
  refine am_aloadn d_L_law_1059 rfl ?_
  have hW : am_W g (d + 4) mm_L_act (0, am_ent [.ref g.2.2.1, .int (lw_a g (i + 1)), .int (lw_a g (i + 2)), .int (lw_a g (i + 3)), .int (lw_a g (i + 4)), .ref (g.2.2.1 + 19)] 7, []) S (sv_L g S (q_act T (lw_a g (i + 1)) (lw_a g (i + 2)) (lw_a g (i + 3)) (lw_a g (i + 4))) (sv_cd 4 5 6)) := w_act hC hr ho
  have hE : ∀ S1 : am_S, sv_N g S1.1 T th na ne nw rd mt → am_W g (d + 4) mm_M_act (0, am_ent [.ref (g.2.2.1 + 6), .int (lw_a g (i + 1)), .int (lw_a g (i + 2)), .int (lw_a g (i + 3)), .int (lw_a g (i + 4))] 9, []) S1 (sv_E g S1 (q_act T (lw_a g (i + 1)) (lw_a g (i + 2)) (lw_a g (i + 3)) (lw_a g (i + 4))) (sv_cd 4 5 6)) := fun S1 h => e_act (d := d) h
  have hk := k_act (T := T) (t := lw_a g (i + 1)) (v := lw_a g (i + 2)) (w := lw_a g (i + 3)) (u := lw_a g (i + 4))
  generalize q_act T (lw_a g (i + 1)) (lw_a g (i + 2)) (lw_a g (i + 3)) (lw_a g (i + 4)) = q at hW hE hk
  refine am_callS (P' := sv_L g S q (sv_cd 4 5 6)) [.ref g.2.2.1, .int (lw_a g (i + 1)), .int (lw_a g (i + 2)), .int (lw_a g (i + 3)), .int (lw_a g (i + 4)), .ref (g.2.2.1 + 19)] [] d_L_law_1060 cS_L_133 rfl rfl (Nat.le_of_ble_eq_true rfl) (Nat.le_of_ble_eq_true rfl) hW (fun v1 S1 h1 => ?_) (fun x1 S1 h1 => ?_)
  · obtain ⟨⟨lo1, as1, av1, hC1⟩, ⟨hM1, hg1, hg2⟩, ⟨f1, ho1, hv1⟩, hr1⟩ := h1
    obtain rfl := Sum.inl.inj hr1
    have hN1 := hN.keep hM1
    obtain ⟨fs1, hm1⟩ := hN1.obj
    show am_W g (d + 5) mm_L_law (1063, [some (.ref g.2.2.2.2.2.1), some (.ref g.2.2.1), some (.ref (g.2.2.1 + 6)), some (.ref (g.2.2.1 + 19)), some (.int (nI i)), none, none, none], [.int (sv_cd 4 5 6 q.1)]) S1 _
    refine am_istore (L' := [some (.ref g.2.2.2.2.2.1), some (.ref g.2.2.1), some (.ref (g.2.2.1 + 6)), some (.ref (g.2.2.1 + 19)), some (.int (nI i)), some (.int (sv_cd 4 5 6 q.1)), none, none]) d_L_law_1063 (by decide) rfl rfl ?_
    refine am_aloadn d_L_law_1065 rfl ?_
    refine lw_arg (j := 1) d_L_law_1066 d_L_law_1067 d_L_law_1069 d_L_law_1070 d_L_law_1071 (by decide) rfl rfl (by omega) (by omega) ?_
    refine lw_arg (j := 2) d_L_law_1072 d_L_law_1073 d_L_law_1075 d_L_law_1076 d_L_law_1077 (by decide) rfl rfl (by omega) (by omega) ?_
    refine lw_arg (j := 3) d_L_law_1078 d_L_law_1079 d_L_law_1081 d_L_law_1082 d_L_law_1083 (by decide) rfl rfl (by omega) (by omega) ?_
    refine lw_arg (j := 4) d_L_law_1084 d_L_law_1085 d_L_law_1087 d_L_law_1088 d_L_law_1089 (by decide) rfl rfl (by omega) (by omega) ?_
    refine am_callV (P' := sv_E g S1 q (sv_cd 4 5 6)) [.int (lw_a g (i + 1)), .int (lw_a g (i + 2)), .int (lw_a g (i + 3)), .int (lw_a g (i + 4))] [] d_L_law_1090 cV_L_135 hm1 rfl rfl (Nat.le_of_ble_eq_true rfl) (Nat.le_of_ble_eq_true rfl) (hE S1 hN1) (fun v2 S2 h2 => ?_) (fun x2 S2 h2 => ?_)
    · obtain ⟨⟨na2, ne2, nw2, rd2, mt2, hN2⟩, ⟨hz2, hf2⟩, v, hr2, hq2⟩ := h2
      obtain rfl := Sum.inl.inj hr2
      have hC2 : sv_C g lo1 S2 q.2.2 as1 av1 := hC1.far (fun k hk => hf2 k (by omega)) (by rw [hz2]; exact hC1.base.2.1)
      have ho2 : sv_oc g S2.1 f1 := (hf2 _ (by omega)).trans ho1
      have hK := k S2 q.2.2 ⟨⟨lo1, as1, av1, hC2⟩, ⟨_, _, _, _, _, _, hN2⟩, f1, ho2⟩ (by rw [hz2]; exact hg1) (by rw [hz2]; exact hg2)
      obtain ⟨fs2, hm2⟩ := hN2.obj
      show am_W g (d + 5) mm_L_law (1093, [some (.ref g.2.2.2.2.2.1), some (.ref g.2.2.1), some (.ref (g.2.2.1 + 6)), some (.ref (g.2.2.1 + 19)), some (.int (nI i)), some (.int (sv_cd 4 5 6 q.1)), none, none], [.int v]) S2 _
      refine am_istore (L' := [some (.ref g.2.2.2.2.2.1), some (.ref g.2.2.1), some (.ref (g.2.2.1 + 6)), some (.ref (g.2.2.1 + 19)), some (.int (nI i)), some (.int (sv_cd 4 5 6 q.1)), some (.int v), none]) d_L_law_1093 (by decide) rfl rfl ?_
      refine am_aloadn d_L_law_1095 rfl ?_
      refine am_cpsV [] [] d_L_law_1096 cV_L_93 rfl hm2 rfl rfl (Nat.le_of_ble_eq_true rfl) (Nat.le_of_ble_eq_true rfl) (m_thrown hN2 ?_)
      show am_W g (d + 5) mm_L_law (1099, [some (.ref g.2.2.2.2.2.1), some (.ref g.2.2.1), some (.ref (g.2.2.1 + 6)), some (.ref (g.2.2.1 + 19)), some (.int (nI i)), some (.int (sv_cd 4 5 6 q.1)), some (.int v), none], [.int (sv_cd 4 5 6 q.1)]) S2 _
      refine am_iload d_L_law_1099 rfl ?_
      refine am_iceq (tgt := 1106) d_L_law_1101 (by decide) (fun hc => ?_) (fun hc => ?_)
      · refine am_iload d_L_law_1106 rfl ?_
        refine am_ifne (tgt := 1123) d_L_law_1108 (by decide) (fun hz => ?_) (fun hz => ?_)
        · refine am_goto (tgt := 1677) d_L_law_1123 (by decide) ?_
          refine am_drop (L' := [some (.ref g.2.2.2.2.2.1), some (.ref g.2.2.1), some (.ref (g.2.2.1 + 6)), some (.ref (g.2.2.1 + 19)), some (.int (nI i)), none, none, none]) (by simp [am_le]) ?_
          exact hK
        · have h0 := hk.zero (k := sv_cd 4 5 6) (fun _ => by decide) (fun _ => by decide) (fun _ => by decide) hz
          have he : f1 0 = v.toInt64 := (hv1 h0).1 v (hq2 h0).symm
          refine am_aloadn d_L_law_1111 rfl ?_
          refine am_iconst 0 d_L_law_1112 (by decide) ?_
          refine am_ti (b := nI 0) rfl ?_
          refine am_laldN (t := 1) (k := 0) d_L_law_1113 rfl ho2 (by omega) (by omega) ?_
          refine am_iload d_L_law_1114 rfl ?_
          refine am_i2l d_L_law_1116 ?_
          refine am_lcmp d_L_law_1117 ?_
          refine am_ifeq (tgt := 1123) d_L_law_1118 (by decide) (fun hd => ?_) (fun hd => ?_)
          · refine am_goto (tgt := 1677) d_L_law_1123 (by decide) ?_
            refine am_drop (L' := [some (.ref g.2.2.2.2.2.1), some (.ref g.2.2.1), some (.ref (g.2.2.1 + 6)), some (.ref (g.2.2.1 + 19)), some (.int (nI i)), none, none, none]) (by simp [am_le]) ?_
            exact hK
          · exact absurd (by rw [he]; exact sv_cmp_self _) hd
      · exact absurd rfl hc
    · obtain ⟨-, -, v, hr2, -⟩ := h2
      cases hr2
  · obtain ⟨-, -, -, hr1⟩ := h1
    cases hr1
set_option maxHeartbeats 4000000 in
set_option maxRecDepth 100000 in
/-- law, fold -/
theorem lw_fold {g : am_G} {d i : Nat} {S : am_S} {T : sv_T} {P : am_O → am_S → Prop} (hn : g.2.2.2.2.2.2.1 ≤ 3072) (hi : i + 6 ≤ g.2.2.2.2.2.2.1) (hI : lw_I g S T) (hr : sv_R g S 16 700) (k : lw_K g d i S P) : am_W g (d + 5) mm_L_law (1126, [some (.ref g.2.2.2.2.2.1), some (.ref g.2.2.1), some (.ref (g.2.2.1 + 6)), some (.ref (g.2.2.1 + 19)), some (.int (nI i)), none, none, none], []) S P := by
  obtain ⟨⟨lo, as, av, hC⟩, ⟨th, na, ne, nw, rd, mt, hN⟩, f, ho⟩ := hI
  refine am_aloadn d_L_law_1126 rfl ?_
  refine lw_arg (j := 1) d_L_law_1127 d_L_law_1128 d_L_law_1130 d_L_law_1131 d_L_law_1132 (by decide) rfl rfl (by omega) (by omega) ?_
  refine lw_arg (j := 2) d_L_law_1133 d_L_law_1134 d_L_law_1136 d_L_law_1137 d_L_law_1138 (by decide) rfl rfl (by omega) (by omega) ?_
  refine lw_arg (j := 3) d_L_law_1139 d_L_law_1140 d_L_law_1142 d_L_law_1143 d_L_law_1144 (by decide) rfl rfl (by omega) (by omega) ?_
  refine am_aloadn d_L_law_1145 rfl ?_
  have hW : am_W g (d + 4) mm_L_fold (0, am_ent [.ref g.2.2.1, .int (lw_a g (i + 1)), .int (lw_a g (i + 2)), .int (lw_a g (i + 3)), .ref (g.2.2.1 + 19)] 6, []) S (sv_L g S (q_fold T (lw_a g (i + 1)) (lw_a g (i + 2)) (lw_a g (i + 3))) (sv_cd 4 5 6)) := w_fold hC hr ho
  have hE : ∀ S1 : am_S, sv_N g S1.1 T th na ne nw rd mt → am_W g (d + 4) mm_M_fold (0, am_ent [.ref (g.2.2.1 + 6), .int (lw_a g (i + 1)), .int (lw_a g (i + 2)), .int (lw_a g (i + 3))] 13, []) S1 (sv_E g S1 (q_fold T (lw_a g (i + 1)) (lw_a g (i + 2)) (lw_a g (i + 3))) (sv_cd 4 5 6)) := fun S1 h => e_fold (d := d + 1) h
  have hk := k_fold (T := T) (t := lw_a g (i + 1)) (v := lw_a g (i + 2)) (x := lw_a g (i + 3))
  generalize q_fold T (lw_a g (i + 1)) (lw_a g (i + 2)) (lw_a g (i + 3)) = q at hW hE hk
  refine am_callS (P' := sv_L g S q (sv_cd 4 5 6)) [.ref g.2.2.1, .int (lw_a g (i + 1)), .int (lw_a g (i + 2)), .int (lw_a g (i + 3)), .ref (g.2.2.1 + 19)] [] d_L_law_1146 cS_L_136 rfl rfl (Nat.le_of_ble_eq_true rfl) (Nat.le_of_ble_eq_true rfl) hW (fun v1 S1 h1 => ?_) (fun x1 S1 h1 => ?_)
  · obtain ⟨⟨lo1, as1, av1, hC1⟩, ⟨hM1, hg1, hg2⟩, ⟨f1, ho1, hv1⟩, hr1⟩ := h1
    obtain rfl := Sum.inl.inj hr1
    have hN1 := hN.keep hM1
    obtain ⟨fs1, hm1⟩ := hN1.obj
    show am_W g (d + 5) mm_L_law (1149, [some (.ref g.2.2.2.2.2.1), some (.ref g.2.2.1), some (.ref (g.2.2.1 + 6)), some (.ref (g.2.2.1 + 19)), some (.int (nI i)), none, none, none], [.int (sv_cd 4 5 6 q.1)]) S1 _
    refine am_istore (L' := [some (.ref g.2.2.2.2.2.1), some (.ref g.2.2.1), some (.ref (g.2.2.1 + 6)), some (.ref (g.2.2.1 + 19)), some (.int (nI i)), some (.int (sv_cd 4 5 6 q.1)), none, none]) d_L_law_1149 (by decide) rfl rfl ?_
    refine am_aloadn d_L_law_1151 rfl ?_
    refine lw_arg (j := 1) d_L_law_1152 d_L_law_1153 d_L_law_1155 d_L_law_1156 d_L_law_1157 (by decide) rfl rfl (by omega) (by omega) ?_
    refine lw_arg (j := 2) d_L_law_1158 d_L_law_1159 d_L_law_1161 d_L_law_1162 d_L_law_1163 (by decide) rfl rfl (by omega) (by omega) ?_
    refine lw_arg (j := 3) d_L_law_1164 d_L_law_1165 d_L_law_1167 d_L_law_1168 d_L_law_1169 (by decide) rfl rfl (by omega) (by omega) ?_
    refine am_callV (P' := sv_E g S1 q (sv_cd 4 5 6)) [.int (lw_a g (i + 1)), .int (lw_a g (i + 2)), .int (lw_a g (i + 3))] [] d_L_law_1170 cV_L_138 hm1 rfl rfl (Nat.le_of_ble_eq_true rfl) (Nat.le_of_ble_eq_true rfl) (hE S1 hN1) (fun v2 S2 h2 => ?_) (fun x2 S2 h2 => ?_)
    · obtain ⟨⟨na2, ne2, nw2, rd2, mt2, hN2⟩, ⟨hz2, hf2⟩, v, hr2, hq2⟩ := h2
      obtain rfl := Sum.inl.inj hr2
      have hC2 : sv_C g lo1 S2 q.2.2 as1 av1 := hC1.far (fun k hk => hf2 k (by omega)) (by rw [hz2]; exact hC1.base.2.1)
      have ho2 : sv_oc g S2.1 f1 := (hf2 _ (by omega)).trans ho1
      have hK := k S2 q.2.2 ⟨⟨lo1, as1, av1, hC2⟩, ⟨_, _, _, _, _, _, hN2⟩, f1, ho2⟩ (by rw [hz2]; exact hg1) (by rw [hz2]; exact hg2)
      obtain ⟨fs2, hm2⟩ := hN2.obj
      show am_W g (d + 5) mm_L_law (1173, [some (.ref g.2.2.2.2.2.1), some (.ref g.2.2.1), some (.ref (g.2.2.1 + 6)), some (.ref (g.2.2.1 + 19)), some (.int (nI i)), some (.int (sv_cd 4 5 6 q.1)), none, none], [.int v]) S2 _
      refine am_istore (L' := [some (.ref g.2.2.2.2.2.1), some (.ref g.2.2.1), some (.ref (g.2.2.1 + 6)), some (.ref (g.2.2.1 + 19)), some (.int (nI i)), some (.int (sv_cd 4 5 6 q.1)), some (.int v), none]) d_L_law_1173 (by decide) rfl rfl ?_
      refine am_aloadn d_L_law_1175 rfl ?_
      refine am_cpsV [] [] d_L_law_1176 cV_L_93 rfl hm2 rfl rfl (Nat.le_of_ble_eq_true rfl) (Nat.le_of_ble_eq_true rfl) (m_thrown hN2 ?_)
      show am_W g (d + 5) mm_L_law (1179, [some (.ref g.2.2.2.2.2.1), some (.ref g.2.2.1), some (.ref (g.2.2.1 + 6)), some (.ref (g.2.2.1 + 19)), some (.int (nI i)), some (.int (sv_cd 4 5 6 q.1)), some (.int v), none], [.int (sv_cd 4 5 6 q.1)]) S2 _
      refine am_iload d_L_law_1179 rfl ?_
      refine am_iceq (tgt := 1186) d_L_law_1181 (by decide) (fun hc => ?_) (fun hc => ?_)
      · refine am_iload d_L_law_1186 rfl ?_
        refine am_ifne (tgt := 1203) d_L_law_1188 (by decide) (fun hz => ?_) (fun hz => ?_)
        · refine am_goto (tgt := 1677) d_L_law_1203 (by decide) ?_
          refine am_drop (L' := [some (.ref g.2.2.2.2.2.1), some (.ref g.2.2.1), some (.ref (g.2.2.1 + 6)), some (.ref (g.2.2.1 + 19)), some (.int (nI i)), none, none, none]) (by simp [am_le]) ?_
          exact hK
        · have h0 := hk.zero (k := sv_cd 4 5 6) (fun _ => by decide) (fun _ => by decide) (fun _ => by decide) hz
          have he : f1 0 = v.toInt64 := (hv1 h0).1 v (hq2 h0).symm
          refine am_aloadn d_L_law_1191 rfl ?_
          refine am_iconst 0 d_L_law_1192 (by decide) ?_
          refine am_ti (b := nI 0) rfl ?_
          refine am_laldN (t := 1) (k := 0) d_L_law_1193 rfl ho2 (by omega) (by omega) ?_
          refine am_iload d_L_law_1194 rfl ?_
          refine am_i2l d_L_law_1196 ?_
          refine am_lcmp d_L_law_1197 ?_
          refine am_ifeq (tgt := 1203) d_L_law_1198 (by decide) (fun hd => ?_) (fun hd => ?_)
          · refine am_goto (tgt := 1677) d_L_law_1203 (by decide) ?_
            refine am_drop (L' := [some (.ref g.2.2.2.2.2.1), some (.ref g.2.2.1), some (.ref (g.2.2.1 + 6)), some (.ref (g.2.2.1 + 19)), some (.int (nI i)), none, none, none]) (by simp [am_le]) ?_
            exact hK
          · exact absurd (by rw [he]; exact sv_cmp_self _) hd
      · exact absurd rfl hc
    · obtain ⟨-, -, v, hr2, -⟩ := h2
      cases hr2
  · obtain ⟨-, -, -, hr1⟩ := h1
    cases hr1
set_option maxHeartbeats 4000000 in
set_option maxRecDepth 100000 in
/-- law, shared -/
theorem lw_shared {g : am_G} {d i : Nat} {S : am_S} {T : sv_T} {P : am_O → am_S → Prop} (hn : g.2.2.2.2.2.2.1 ≤ 3072) (hi : i + 6 ≤ g.2.2.2.2.2.2.1) (hI : lw_I g S T) (hr : sv_R g S 16 700) (k : lw_K g d i S P) : am_W g (d + 5) mm_L_law (1206, [some (.ref g.2.2.2.2.2.1), some (.ref g.2.2.1), some (.ref (g.2.2.1 + 6)), some (.ref (g.2.2.1 + 19)), some (.int (nI i)), none, none, none], []) S P := by
  obtain ⟨⟨lo, as, av, hC⟩, ⟨th, na, ne, nw, rd, mt, hN⟩, f, ho⟩ := hI
  refine am_aloadn d_L_law_1206 rfl ?_
  refine lw_arg (j := 1) d_L_law_1207 d_L_law_1208 d_L_law_1210 d_L_law_1211 d_L_law_1212 (by decide) rfl rfl (by omega) (by omega) ?_
  refine lw_arg (j := 2) d_L_law_1213 d_L_law_1214 d_L_law_1216 d_L_law_1217 d_L_law_1218 (by decide) rfl rfl (by omega) (by omega) ?_
  refine am_aloadn d_L_law_1219 rfl ?_
  have hW : am_W g (d + 4) mm_L_shared (0, am_ent [.ref g.2.2.1, .int (lw_a g (i + 1)), .int (lw_a g (i + 2)), .ref (g.2.2.1 + 19)] 5, []) S (sv_L g S (q_shared T (lw_a g (i + 1)) (lw_a g (i + 2))) (sv_cd 4 6 9)) := w_shared hC hr ho
  have hE : ∀ S1 : am_S, sv_N g S1.1 T th na ne nw rd mt → am_W g (d + 4) mm_M_shared (0, am_ent [.ref (g.2.2.1 + 6), .int (lw_a g (i + 1)), .int (lw_a g (i + 2))] 7, []) S1 (sv_E g S1 (q_shared T (lw_a g (i + 1)) (lw_a g (i + 2))) (sv_cd 4 6 9)) := fun S1 h => e_shared (d := d + 2) h
  have hk := k_shared (T := T) (v := lw_a g (i + 1)) (w := lw_a g (i + 2))
  generalize q_shared T (lw_a g (i + 1)) (lw_a g (i + 2)) = q at hW hE hk
  refine am_callS (P' := sv_L g S q (sv_cd 4 6 9)) [.ref g.2.2.1, .int (lw_a g (i + 1)), .int (lw_a g (i + 2)), .ref (g.2.2.1 + 19)] [] d_L_law_1220 cS_L_139 rfl rfl (Nat.le_of_ble_eq_true rfl) (Nat.le_of_ble_eq_true rfl) hW (fun v1 S1 h1 => ?_) (fun x1 S1 h1 => ?_)
  · obtain ⟨⟨lo1, as1, av1, hC1⟩, ⟨hM1, hg1, hg2⟩, ⟨f1, ho1, hv1⟩, hr1⟩ := h1
    obtain rfl := Sum.inl.inj hr1
    have hN1 := hN.keep hM1
    obtain ⟨fs1, hm1⟩ := hN1.obj
    show am_W g (d + 5) mm_L_law (1223, [some (.ref g.2.2.2.2.2.1), some (.ref g.2.2.1), some (.ref (g.2.2.1 + 6)), some (.ref (g.2.2.1 + 19)), some (.int (nI i)), none, none, none], [.int (sv_cd 4 6 9 q.1)]) S1 _
    refine am_istore (L' := [some (.ref g.2.2.2.2.2.1), some (.ref g.2.2.1), some (.ref (g.2.2.1 + 6)), some (.ref (g.2.2.1 + 19)), some (.int (nI i)), some (.int (sv_cd 4 6 9 q.1)), none, none]) d_L_law_1223 (by decide) rfl rfl ?_
    refine am_aloadn d_L_law_1225 rfl ?_
    refine lw_arg (j := 1) d_L_law_1226 d_L_law_1227 d_L_law_1229 d_L_law_1230 d_L_law_1231 (by decide) rfl rfl (by omega) (by omega) ?_
    refine lw_arg (j := 2) d_L_law_1232 d_L_law_1233 d_L_law_1235 d_L_law_1236 d_L_law_1237 (by decide) rfl rfl (by omega) (by omega) ?_
    refine am_callV (P' := sv_E g S1 q (sv_cd 4 6 9)) [.int (lw_a g (i + 1)), .int (lw_a g (i + 2))] [] d_L_law_1238 cV_L_141 hm1 rfl rfl (Nat.le_of_ble_eq_true rfl) (Nat.le_of_ble_eq_true rfl) (hE S1 hN1) (fun v2 S2 h2 => ?_) (fun x2 S2 h2 => ?_)
    · obtain ⟨⟨na2, ne2, nw2, rd2, mt2, hN2⟩, ⟨hz2, hf2⟩, v, hr2, hq2⟩ := h2
      obtain rfl := Sum.inl.inj hr2
      have hC2 : sv_C g lo1 S2 q.2.2 as1 av1 := hC1.far (fun k hk => hf2 k (by omega)) (by rw [hz2]; exact hC1.base.2.1)
      have ho2 : sv_oc g S2.1 f1 := (hf2 _ (by omega)).trans ho1
      have hK := k S2 q.2.2 ⟨⟨lo1, as1, av1, hC2⟩, ⟨_, _, _, _, _, _, hN2⟩, f1, ho2⟩ (by rw [hz2]; exact hg1) (by rw [hz2]; exact hg2)
      obtain ⟨fs2, hm2⟩ := hN2.obj
      show am_W g (d + 5) mm_L_law (1241, [some (.ref g.2.2.2.2.2.1), some (.ref g.2.2.1), some (.ref (g.2.2.1 + 6)), some (.ref (g.2.2.1 + 19)), some (.int (nI i)), some (.int (sv_cd 4 6 9 q.1)), none, none], [.int v]) S2 _
      refine am_istore (L' := [some (.ref g.2.2.2.2.2.1), some (.ref g.2.2.1), some (.ref (g.2.2.1 + 6)), some (.ref (g.2.2.1 + 19)), some (.int (nI i)), some (.int (sv_cd 4 6 9 q.1)), some (.int v), none]) d_L_law_1241 (by decide) rfl rfl ?_
      refine am_aloadn d_L_law_1243 rfl ?_
      refine am_cpsV [] [] d_L_law_1244 cV_L_93 rfl hm2 rfl rfl (Nat.le_of_ble_eq_true rfl) (Nat.le_of_ble_eq_true rfl) (m_thrown hN2 ?_)
      show am_W g (d + 5) mm_L_law (1247, [some (.ref g.2.2.2.2.2.1), some (.ref g.2.2.1), some (.ref (g.2.2.1 + 6)), some (.ref (g.2.2.1 + 19)), some (.int (nI i)), some (.int (sv_cd 4 6 9 q.1)), some (.int v), none], [.int (sv_cd 4 6 9 q.1)]) S2 _
      refine am_iload d_L_law_1247 rfl ?_
      refine am_iceq (tgt := 1254) d_L_law_1249 (by decide) (fun hc => ?_) (fun hc => ?_)
      · refine am_iload d_L_law_1254 rfl ?_
        refine am_ifne (tgt := 1271) d_L_law_1256 (by decide) (fun hz => ?_) (fun hz => ?_)
        · refine am_goto (tgt := 1677) d_L_law_1271 (by decide) ?_
          refine am_drop (L' := [some (.ref g.2.2.2.2.2.1), some (.ref g.2.2.1), some (.ref (g.2.2.1 + 6)), some (.ref (g.2.2.1 + 19)), some (.int (nI i)), none, none, none]) (by simp [am_le]) ?_
          exact hK
        · have h0 := hk.zero (k := sv_cd 4 6 9) (fun _ => by decide) (fun h => h.elim) (fun h => h.elim) hz
          have he : f1 0 = v.toInt64 := (hv1 h0).1 v (hq2 h0).symm
          refine am_aloadn d_L_law_1259 rfl ?_
          refine am_iconst 0 d_L_law_1260 (by decide) ?_
          refine am_ti (b := nI 0) rfl ?_
          refine am_laldN (t := 1) (k := 0) d_L_law_1261 rfl ho2 (by omega) (by omega) ?_
          refine am_iload d_L_law_1262 rfl ?_
          refine am_i2l d_L_law_1264 ?_
          refine am_lcmp d_L_law_1265 ?_
          refine am_ifeq (tgt := 1271) d_L_law_1266 (by decide) (fun hd => ?_) (fun hd => ?_)
          · refine am_goto (tgt := 1677) d_L_law_1271 (by decide) ?_
            refine am_drop (L' := [some (.ref g.2.2.2.2.2.1), some (.ref g.2.2.1), some (.ref (g.2.2.1 + 6)), some (.ref (g.2.2.1 + 19)), some (.int (nI i)), none, none, none]) (by simp [am_le]) ?_
            exact hK
          · exact absurd (by rw [he]; exact sv_cmp_self _) hd
      · exact absurd rfl hc
    · obtain ⟨-, -, v, hr2, -⟩ := h2
      cases hr2
  · obtain ⟨-, -, -, hr1⟩ := h1
    cases hr1
set_option maxHeartbeats 4000000 in
set_option maxRecDepth 100000 in
/-- law, same -/
theorem lw_same {g : am_G} {d i : Nat} {S : am_S} {T : sv_T} {P : am_O → am_S → Prop} (hn : g.2.2.2.2.2.2.1 ≤ 3072) (hi : i + 6 ≤ g.2.2.2.2.2.2.1) (hI : lw_I g S T) (hr : sv_R g S 16 700) (k : lw_K g d i S P) : am_W g (d + 5) mm_L_law (1274, [some (.ref g.2.2.2.2.2.1), some (.ref g.2.2.1), some (.ref (g.2.2.1 + 6)), some (.ref (g.2.2.1 + 19)), some (.int (nI i)), none, none, none], []) S P := by
  obtain ⟨⟨lo, as, av, hC⟩, ⟨th, na, ne, nw, rd, mt, hN⟩, f, ho⟩ := hI
  refine am_aloadn d_L_law_1274 rfl ?_
  refine lw_arg (j := 1) d_L_law_1275 d_L_law_1276 d_L_law_1278 d_L_law_1279 d_L_law_1280 (by decide) rfl rfl (by omega) (by omega) ?_
  refine lw_arg (j := 2) d_L_law_1281 d_L_law_1282 d_L_law_1284 d_L_law_1285 d_L_law_1286 (by decide) rfl rfl (by omega) (by omega) ?_
  refine am_aloadn d_L_law_1287 rfl ?_
  have hW : am_W g (d + 4) mm_L_same (0, am_ent [.ref g.2.2.1, .int (lw_a g (i + 1)), .int (lw_a g (i + 2)), .ref (g.2.2.1 + 19)] 5, []) S (sv_L g S (q_same T (lw_a g (i + 1)) (lw_a g (i + 2))) (sv_cd 4 6 9)) := w_same hC hr ho
  have hE : ∀ S1 : am_S, sv_N g S1.1 T th na ne nw rd mt → am_W g (d + 4) mm_M_same (0, am_ent [.ref (g.2.2.1 + 6), .int (lw_a g (i + 1)), .int (lw_a g (i + 2))] 5, []) S1 (sv_E g S1 (q_same T (lw_a g (i + 1)) (lw_a g (i + 2))) (sv_cd 4 6 9)) := fun S1 h => e_same (d := d + 1) h
  have hk := k_same (T := T) (v := lw_a g (i + 1)) (w := lw_a g (i + 2))
  generalize q_same T (lw_a g (i + 1)) (lw_a g (i + 2)) = q at hW hE hk
  refine am_callS (P' := sv_L g S q (sv_cd 4 6 9)) [.ref g.2.2.1, .int (lw_a g (i + 1)), .int (lw_a g (i + 2)), .ref (g.2.2.1 + 19)] [] d_L_law_1288 cS_L_142 rfl rfl (Nat.le_of_ble_eq_true rfl) (Nat.le_of_ble_eq_true rfl) hW (fun v1 S1 h1 => ?_) (fun x1 S1 h1 => ?_)
  · obtain ⟨⟨lo1, as1, av1, hC1⟩, ⟨hM1, hg1, hg2⟩, ⟨f1, ho1, hv1⟩, hr1⟩ := h1
    obtain rfl := Sum.inl.inj hr1
    have hN1 := hN.keep hM1
    obtain ⟨fs1, hm1⟩ := hN1.obj
    show am_W g (d + 5) mm_L_law (1291, [some (.ref g.2.2.2.2.2.1), some (.ref g.2.2.1), some (.ref (g.2.2.1 + 6)), some (.ref (g.2.2.1 + 19)), some (.int (nI i)), none, none, none], [.int (sv_cd 4 6 9 q.1)]) S1 _
    refine am_istore (L' := [some (.ref g.2.2.2.2.2.1), some (.ref g.2.2.1), some (.ref (g.2.2.1 + 6)), some (.ref (g.2.2.1 + 19)), some (.int (nI i)), some (.int (sv_cd 4 6 9 q.1)), none, none]) d_L_law_1291 (by decide) rfl rfl ?_
    refine am_aloadn d_L_law_1293 rfl ?_
    refine lw_arg (j := 1) d_L_law_1294 d_L_law_1295 d_L_law_1297 d_L_law_1298 d_L_law_1299 (by decide) rfl rfl (by omega) (by omega) ?_
    refine lw_arg (j := 2) d_L_law_1300 d_L_law_1301 d_L_law_1303 d_L_law_1304 d_L_law_1305 (by decide) rfl rfl (by omega) (by omega) ?_
    refine am_callV (P' := sv_E g S1 q (sv_cd 4 6 9)) [.int (lw_a g (i + 1)), .int (lw_a g (i + 2))] [] d_L_law_1306 cV_L_144 hm1 rfl rfl (Nat.le_of_ble_eq_true rfl) (Nat.le_of_ble_eq_true rfl) (hE S1 hN1) (fun v2 S2 h2 => ?_) (fun x2 S2 h2 => ?_)
    · obtain ⟨⟨na2, ne2, nw2, rd2, mt2, hN2⟩, ⟨hz2, hf2⟩, v, hr2, hq2⟩ := h2
      obtain rfl := Sum.inl.inj hr2
      have hC2 : sv_C g lo1 S2 q.2.2 as1 av1 := hC1.far (fun k hk => hf2 k (by omega)) (by rw [hz2]; exact hC1.base.2.1)
      have ho2 : sv_oc g S2.1 f1 := (hf2 _ (by omega)).trans ho1
      have hK := k S2 q.2.2 ⟨⟨lo1, as1, av1, hC2⟩, ⟨_, _, _, _, _, _, hN2⟩, f1, ho2⟩ (by rw [hz2]; exact hg1) (by rw [hz2]; exact hg2)
      obtain ⟨fs2, hm2⟩ := hN2.obj
      show am_W g (d + 5) mm_L_law (1309, [some (.ref g.2.2.2.2.2.1), some (.ref g.2.2.1), some (.ref (g.2.2.1 + 6)), some (.ref (g.2.2.1 + 19)), some (.int (nI i)), some (.int (sv_cd 4 6 9 q.1)), none, none], [.int v]) S2 _
      refine am_istore (L' := [some (.ref g.2.2.2.2.2.1), some (.ref g.2.2.1), some (.ref (g.2.2.1 + 6)), some (.ref (g.2.2.1 + 19)), some (.int (nI i)), some (.int (sv_cd 4 6 9 q.1)), some (.int v), none]) d_L_law_1309 (by decide) rfl rfl ?_
      refine am_aloadn d_L_law_1311 rfl ?_
      refine am_cpsV [] [] d_L_law_1312 cV_L_93 rfl hm2 rfl rfl (Nat.le_of_ble_eq_true rfl) (Nat.le_of_ble_eq_true rfl) (m_thrown hN2 ?_)
      show am_W g (d + 5) mm_L_law (1315, [some (.ref g.2.2.2.2.2.1), some (.ref g.2.2.1), some (.ref (g.2.2.1 + 6)), some (.ref (g.2.2.1 + 19)), some (.int (nI i)), some (.int (sv_cd 4 6 9 q.1)), some (.int v), none], [.int (sv_cd 4 6 9 q.1)]) S2 _
      refine am_iload d_L_law_1315 rfl ?_
      refine am_iceq (tgt := 1322) d_L_law_1317 (by decide) (fun hc => ?_) (fun hc => ?_)
      · refine am_iload d_L_law_1322 rfl ?_
        refine am_ifne (tgt := 1346) d_L_law_1324 (by decide) (fun hz => ?_) (fun hz => ?_)
        · refine am_goto (tgt := 1677) d_L_law_1346 (by decide) ?_
          refine am_drop (L' := [some (.ref g.2.2.2.2.2.1), some (.ref g.2.2.1), some (.ref (g.2.2.1 + 6)), some (.ref (g.2.2.1 + 19)), some (.int (nI i)), none, none, none]) (by simp [am_le]) ?_
          exact hK
        · have h0 := hk.zero (k := sv_cd 4 6 9) (fun _ => by decide) (fun h => h.elim) (fun h => h.elim) hz
          have he : f1 0 = v.toInt64 := (hv1 h0).1 v (hq2 h0).symm
          refine am_aloadn d_L_law_1327 rfl ?_
          refine am_iconst 0 d_L_law_1328 (by decide) ?_
          refine am_ti (b := nI 0) rfl ?_
          refine am_laldN (t := 1) (k := 0) d_L_law_1329 rfl ho2 (by omega) (by omega) ?_
          refine am_iload d_L_law_1330 rfl ?_
          rcases hk.val h0 with hy | hy
          · obtain rfl : v = 0 := by have h9 := (hq2 h0).trans hy; cases h9; rfl
            refine am_ifeq (tgt := 1339) d_L_law_1332 (by decide) (fun hu => ?_) (fun hu => ?_)
            · refine am_lconst 0 d_L_law_1339 (by decide) ?_
              refine am_lcmp d_L_law_1340 ?_
              refine am_ifeq (tgt := 1346) d_L_law_1341 (by decide) (fun hd => ?_) (fun hd => ?_)
              · refine am_goto (tgt := 1677) d_L_law_1346 (by decide) ?_
                refine am_drop (L' := [some (.ref g.2.2.2.2.2.1), some (.ref g.2.2.1), some (.ref (g.2.2.1 + 6)), some (.ref (g.2.2.1 + 19)), some (.int (nI i)), none, none, none]) (by simp [am_le]) ?_
                exact hK
              · exact absurd (by rw [he]; exact (by decide)) hd
            · exact absurd rfl hu
          · obtain rfl : v = 1 := by have h9 := (hq2 h0).trans hy; cases h9; rfl
            refine am_ifeq (tgt := 1339) d_L_law_1332 (by decide) (fun hu => ?_) (fun hu => ?_)
            · exact absurd hu (by decide)
            · refine am_lconst 1 d_L_law_1335 (by decide) ?_
              refine am_goto (tgt := 1340) d_L_law_1336 (by decide) ?_
              refine am_lcmp d_L_law_1340 ?_
              refine am_ifeq (tgt := 1346) d_L_law_1341 (by decide) (fun hd => ?_) (fun hd => ?_)
              · refine am_goto (tgt := 1677) d_L_law_1346 (by decide) ?_
                refine am_drop (L' := [some (.ref g.2.2.2.2.2.1), some (.ref g.2.2.1), some (.ref (g.2.2.1 + 6)), some (.ref (g.2.2.1 + 19)), some (.int (nI i)), none, none, none]) (by simp [am_le]) ?_
                exact hK
              · exact absurd (by rw [he]; exact (by decide)) hd
      · exact absurd rfl hc
    · obtain ⟨-, -, v, hr2, -⟩ := h2
      cases hr2
  · obtain ⟨-, -, -, hr1⟩ := h1
    cases hr1
set_option maxHeartbeats 4000000 in
set_option maxRecDepth 100000 in
/-- law, runs -/
theorem lw_runs {g : am_G} {d i : Nat} {S : am_S} {T : sv_T} {P : am_O → am_S → Prop} (hn : g.2.2.2.2.2.2.1 ≤ 3072) (hi : i + 6 ≤ g.2.2.2.2.2.2.1) (hI : lw_I g S T) (hr : sv_R g S 16 700) (k : lw_K g d i S P) : am_W g (d + 5) mm_L_law (1349, [some (.ref g.2.2.2.2.2.1), some (.ref g.2.2.1), some (.ref (g.2.2.1 + 6)), some (.ref (g.2.2.1 + 19)), some (.int (nI i)), none, none, none], []) S P := by
  obtain ⟨⟨lo, as, av, hC⟩, ⟨th, na, ne, nw, rd, mt, hN⟩, f, ho⟩ := hI
  refine am_aloadn d_L_law_1349 rfl ?_
  refine lw_arg (j := 1) d_L_law_1350 d_L_law_1351 d_L_law_1353 d_L_law_1354 d_L_law_1355 (by decide) rfl rfl (by omega) (by omega) ?_
  refine am_aloadn d_L_law_1356 rfl ?_
  have hW : am_W g (d + 4) mm_L_runs (0, am_ent [.ref g.2.2.1, .int (lw_a g (i + 1)), .ref (g.2.2.1 + 19)] 4, []) S (sv_L g S (q_runs T (lw_a g (i + 1))) (sv_cd 4 6 9)) := w_runs hC hr ho
  have hE : ∀ S1 : am_S, sv_N g S1.1 T th na ne nw rd mt → am_W g (d + 4) mm_M_runs (0, am_ent [.ref (g.2.2.1 + 6), .int (lw_a g (i + 1))] 5, []) S1 (sv_E g S1 (q_runs T (lw_a g (i + 1))) (sv_cd 4 6 9)) := fun S1 h => e_runs (d := d + 2) h
  have hk := k_runs (T := T) (v := lw_a g (i + 1))
  generalize q_runs T (lw_a g (i + 1)) = q at hW hE hk
  refine am_callS (P' := sv_L g S q (sv_cd 4 6 9)) [.ref g.2.2.1, .int (lw_a g (i + 1)), .ref (g.2.2.1 + 19)] [] d_L_law_1357 cS_L_145 rfl rfl (Nat.le_of_ble_eq_true rfl) (Nat.le_of_ble_eq_true rfl) hW (fun v1 S1 h1 => ?_) (fun x1 S1 h1 => ?_)
  · obtain ⟨⟨lo1, as1, av1, hC1⟩, ⟨hM1, hg1, hg2⟩, ⟨f1, ho1, hv1⟩, hr1⟩ := h1
    obtain rfl := Sum.inl.inj hr1
    have hN1 := hN.keep hM1
    obtain ⟨fs1, hm1⟩ := hN1.obj
    show am_W g (d + 5) mm_L_law (1360, [some (.ref g.2.2.2.2.2.1), some (.ref g.2.2.1), some (.ref (g.2.2.1 + 6)), some (.ref (g.2.2.1 + 19)), some (.int (nI i)), none, none, none], [.int (sv_cd 4 6 9 q.1)]) S1 _
    refine am_istore (L' := [some (.ref g.2.2.2.2.2.1), some (.ref g.2.2.1), some (.ref (g.2.2.1 + 6)), some (.ref (g.2.2.1 + 19)), some (.int (nI i)), some (.int (sv_cd 4 6 9 q.1)), none, none]) d_L_law_1360 (by decide) rfl rfl ?_
    refine am_aloadn d_L_law_1362 rfl ?_
    refine lw_arg (j := 1) d_L_law_1363 d_L_law_1364 d_L_law_1366 d_L_law_1367 d_L_law_1368 (by decide) rfl rfl (by omega) (by omega) ?_
    refine am_callV (P' := sv_E g S1 q (sv_cd 4 6 9)) [.int (lw_a g (i + 1))] [] d_L_law_1369 cV_L_148 hm1 rfl rfl (Nat.le_of_ble_eq_true rfl) (Nat.le_of_ble_eq_true rfl) (hE S1 hN1) (fun v2 S2 h2 => ?_) (fun x2 S2 h2 => ?_)
    · obtain ⟨⟨na2, ne2, nw2, rd2, mt2, hN2⟩, ⟨hz2, hf2⟩, v, hr2, hq2⟩ := h2
      obtain rfl := Sum.inl.inj hr2
      have hC2 : sv_C g lo1 S2 q.2.2 as1 av1 := hC1.far (fun k hk => hf2 k (by omega)) (by rw [hz2]; exact hC1.base.2.1)
      have ho2 : sv_oc g S2.1 f1 := (hf2 _ (by omega)).trans ho1
      have hK := k S2 q.2.2 ⟨⟨lo1, as1, av1, hC2⟩, ⟨_, _, _, _, _, _, hN2⟩, f1, ho2⟩ (by rw [hz2]; exact hg1) (by rw [hz2]; exact hg2)
      obtain ⟨fs2, hm2⟩ := hN2.obj
      show am_W g (d + 5) mm_L_law (1372, [some (.ref g.2.2.2.2.2.1), some (.ref g.2.2.1), some (.ref (g.2.2.1 + 6)), some (.ref (g.2.2.1 + 19)), some (.int (nI i)), some (.int (sv_cd 4 6 9 q.1)), none, none], [.int v]) S2 _
      refine am_istore (L' := [some (.ref g.2.2.2.2.2.1), some (.ref g.2.2.1), some (.ref (g.2.2.1 + 6)), some (.ref (g.2.2.1 + 19)), some (.int (nI i)), some (.int (sv_cd 4 6 9 q.1)), some (.int v), none]) d_L_law_1372 (by decide) rfl rfl ?_
      refine am_aloadn d_L_law_1374 rfl ?_
      refine am_cpsV [] [] d_L_law_1375 cV_L_93 rfl hm2 rfl rfl (Nat.le_of_ble_eq_true rfl) (Nat.le_of_ble_eq_true rfl) (m_thrown hN2 ?_)
      show am_W g (d + 5) mm_L_law (1378, [some (.ref g.2.2.2.2.2.1), some (.ref g.2.2.1), some (.ref (g.2.2.1 + 6)), some (.ref (g.2.2.1 + 19)), some (.int (nI i)), some (.int (sv_cd 4 6 9 q.1)), some (.int v), none], [.int (sv_cd 4 6 9 q.1)]) S2 _
      refine am_iload d_L_law_1378 rfl ?_
      refine am_iceq (tgt := 1385) d_L_law_1380 (by decide) (fun hc => ?_) (fun hc => ?_)
      · refine am_iload d_L_law_1385 rfl ?_
        refine am_ifne (tgt := 1402) d_L_law_1387 (by decide) (fun hz => ?_) (fun hz => ?_)
        · refine am_goto (tgt := 1677) d_L_law_1402 (by decide) ?_
          refine am_drop (L' := [some (.ref g.2.2.2.2.2.1), some (.ref g.2.2.1), some (.ref (g.2.2.1 + 6)), some (.ref (g.2.2.1 + 19)), some (.int (nI i)), none, none, none]) (by simp [am_le]) ?_
          exact hK
        · have h0 := hk.zero (k := sv_cd 4 6 9) (fun _ => by decide) (fun h => h.elim) (fun h => h.elim) hz
          have he : f1 0 = v.toInt64 := (hv1 h0).1 v (hq2 h0).symm
          refine am_aloadn d_L_law_1390 rfl ?_
          refine am_iconst 0 d_L_law_1391 (by decide) ?_
          refine am_ti (b := nI 0) rfl ?_
          refine am_laldN (t := 1) (k := 0) d_L_law_1392 rfl ho2 (by omega) (by omega) ?_
          refine am_iload d_L_law_1393 rfl ?_
          refine am_i2l d_L_law_1395 ?_
          refine am_lcmp d_L_law_1396 ?_
          refine am_ifeq (tgt := 1402) d_L_law_1397 (by decide) (fun hd => ?_) (fun hd => ?_)
          · refine am_goto (tgt := 1677) d_L_law_1402 (by decide) ?_
            refine am_drop (L' := [some (.ref g.2.2.2.2.2.1), some (.ref g.2.2.1), some (.ref (g.2.2.1 + 6)), some (.ref (g.2.2.1 + 19)), some (.int (nI i)), none, none, none]) (by simp [am_le]) ?_
            exact hK
          · exact absurd (by rw [he]; exact sv_cmp_self _) hd
      · exact absurd rfl hc
    · obtain ⟨-, -, v, hr2, -⟩ := h2
      cases hr2
  · obtain ⟨-, -, -, hr1⟩ := h1
    cases hr1
set_option maxHeartbeats 4000000 in
set_option maxRecDepth 100000 in
/-- law, told -/
theorem lw_told {g : am_G} {d i : Nat} {S : am_S} {T : sv_T} {P : am_O → am_S → Prop} (hn : g.2.2.2.2.2.2.1 ≤ 3072) (hi : i + 6 ≤ g.2.2.2.2.2.2.1) (hI : lw_I g S T) (hr : sv_R g S 16 700) (k : lw_K g d i S P) : am_W g (d + 5) mm_L_law (1405, [some (.ref g.2.2.2.2.2.1), some (.ref g.2.2.1), some (.ref (g.2.2.1 + 6)), some (.ref (g.2.2.1 + 19)), some (.int (nI i)), none, none, none], []) S P := by
  obtain ⟨⟨lo, as, av, hC⟩, ⟨th, na, ne, nw, rd, mt, hN⟩, f, ho⟩ := hI
  refine am_aloadn d_L_law_1405 rfl ?_
  refine lw_arg (j := 1) d_L_law_1406 d_L_law_1407 d_L_law_1409 d_L_law_1410 d_L_law_1411 (by decide) rfl rfl (by omega) (by omega) ?_
  refine lw_arg (j := 2) d_L_law_1412 d_L_law_1413 d_L_law_1415 d_L_law_1416 d_L_law_1417 (by decide) rfl rfl (by omega) (by omega) ?_
  refine am_aloadn d_L_law_1418 rfl ?_
  have hW : am_W g (d + 4) mm_L_told (0, am_ent [.ref g.2.2.1, .int (lw_a g (i + 1)), .int (lw_a g (i + 2)), .ref (g.2.2.1 + 19)] 5, []) S (sv_L g S (q_told T (lw_a g (i + 1)) (lw_a g (i + 2))) (sv_cd 4 5 9)) := w_told hC hr ho
  have hE : ∀ S1 : am_S, sv_N g S1.1 T th na ne nw rd mt → am_W g (d + 4) mm_M_told (0, am_ent [.ref (g.2.2.1 + 6), .int (lw_a g (i + 1)), .int (lw_a g (i + 2))] 3, []) S1 (sv_E g S1 (q_told T (lw_a g (i + 1)) (lw_a g (i + 2))) (sv_cd 4 5 9)) := fun S1 h => e_told (d := d + 1) h
  have hk := k_told (T := T) (v := lw_a g (i + 1)) (w := lw_a g (i + 2))
  generalize q_told T (lw_a g (i + 1)) (lw_a g (i + 2)) = q at hW hE hk
  refine am_callS (P' := sv_L g S q (sv_cd 4 5 9)) [.ref g.2.2.1, .int (lw_a g (i + 1)), .int (lw_a g (i + 2)), .ref (g.2.2.1 + 19)] [] d_L_law_1419 cS_L_149 rfl rfl (Nat.le_of_ble_eq_true rfl) (Nat.le_of_ble_eq_true rfl) hW (fun v1 S1 h1 => ?_) (fun x1 S1 h1 => ?_)
  · obtain ⟨⟨lo1, as1, av1, hC1⟩, ⟨hM1, hg1, hg2⟩, ⟨f1, ho1, hv1⟩, hr1⟩ := h1
    obtain rfl := Sum.inl.inj hr1
    have hN1 := hN.keep hM1
    obtain ⟨fs1, hm1⟩ := hN1.obj
    show am_W g (d + 5) mm_L_law (1422, [some (.ref g.2.2.2.2.2.1), some (.ref g.2.2.1), some (.ref (g.2.2.1 + 6)), some (.ref (g.2.2.1 + 19)), some (.int (nI i)), none, none, none], [.int (sv_cd 4 5 9 q.1)]) S1 _
    refine am_istore (L' := [some (.ref g.2.2.2.2.2.1), some (.ref g.2.2.1), some (.ref (g.2.2.1 + 6)), some (.ref (g.2.2.1 + 19)), some (.int (nI i)), some (.int (sv_cd 4 5 9 q.1)), none, none]) d_L_law_1422 (by decide) rfl rfl ?_
    refine am_aloadn d_L_law_1424 rfl ?_
    refine lw_arg (j := 1) d_L_law_1425 d_L_law_1426 d_L_law_1428 d_L_law_1429 d_L_law_1430 (by decide) rfl rfl (by omega) (by omega) ?_
    refine lw_arg (j := 2) d_L_law_1431 d_L_law_1432 d_L_law_1434 d_L_law_1435 d_L_law_1436 (by decide) rfl rfl (by omega) (by omega) ?_
    refine am_callV (P' := sv_E g S1 q (sv_cd 4 5 9)) [.int (lw_a g (i + 1)), .int (lw_a g (i + 2))] [] d_L_law_1437 cV_L_151 hm1 rfl rfl (Nat.le_of_ble_eq_true rfl) (Nat.le_of_ble_eq_true rfl) (hE S1 hN1) (fun v2 S2 h2 => ?_) (fun x2 S2 h2 => ?_)
    · obtain ⟨⟨na2, ne2, nw2, rd2, mt2, hN2⟩, ⟨hz2, hf2⟩, v, hr2, hq2⟩ := h2
      obtain rfl := Sum.inl.inj hr2
      have hC2 : sv_C g lo1 S2 q.2.2 as1 av1 := hC1.far (fun k hk => hf2 k (by omega)) (by rw [hz2]; exact hC1.base.2.1)
      have ho2 : sv_oc g S2.1 f1 := (hf2 _ (by omega)).trans ho1
      have hK := k S2 q.2.2 ⟨⟨lo1, as1, av1, hC2⟩, ⟨_, _, _, _, _, _, hN2⟩, f1, ho2⟩ (by rw [hz2]; exact hg1) (by rw [hz2]; exact hg2)
      obtain ⟨fs2, hm2⟩ := hN2.obj
      show am_W g (d + 5) mm_L_law (1440, [some (.ref g.2.2.2.2.2.1), some (.ref g.2.2.1), some (.ref (g.2.2.1 + 6)), some (.ref (g.2.2.1 + 19)), some (.int (nI i)), some (.int (sv_cd 4 5 9 q.1)), none, none], [.int v]) S2 _
      refine am_istore (L' := [some (.ref g.2.2.2.2.2.1), some (.ref g.2.2.1), some (.ref (g.2.2.1 + 6)), some (.ref (g.2.2.1 + 19)), some (.int (nI i)), some (.int (sv_cd 4 5 9 q.1)), some (.int v), none]) d_L_law_1440 (by decide) rfl rfl ?_
      refine am_aloadn d_L_law_1442 rfl ?_
      refine am_cpsV [] [] d_L_law_1443 cV_L_93 rfl hm2 rfl rfl (Nat.le_of_ble_eq_true rfl) (Nat.le_of_ble_eq_true rfl) (m_thrown hN2 ?_)
      show am_W g (d + 5) mm_L_law (1446, [some (.ref g.2.2.2.2.2.1), some (.ref g.2.2.1), some (.ref (g.2.2.1 + 6)), some (.ref (g.2.2.1 + 19)), some (.int (nI i)), some (.int (sv_cd 4 5 9 q.1)), some (.int v), none], [.int (sv_cd 4 5 9 q.1)]) S2 _
      refine am_iload d_L_law_1446 rfl ?_
      refine am_iceq (tgt := 1453) d_L_law_1448 (by decide) (fun hc => ?_) (fun hc => ?_)
      · refine am_iload d_L_law_1453 rfl ?_
        refine am_ifne (tgt := 1470) d_L_law_1455 (by decide) (fun hz => ?_) (fun hz => ?_)
        · refine am_goto (tgt := 1677) d_L_law_1470 (by decide) ?_
          refine am_drop (L' := [some (.ref g.2.2.2.2.2.1), some (.ref g.2.2.1), some (.ref (g.2.2.1 + 6)), some (.ref (g.2.2.1 + 19)), some (.int (nI i)), none, none, none]) (by simp [am_le]) ?_
          exact hK
        · have h0 := hk.zero (k := sv_cd 4 5 9) (fun _ => by decide) (fun _ => by decide) (fun h => h.elim) hz
          have he : f1 0 = v.toInt64 := (hv1 h0).1 v (hq2 h0).symm
          refine am_aloadn d_L_law_1458 rfl ?_
          refine am_iconst 0 d_L_law_1459 (by decide) ?_
          refine am_ti (b := nI 0) rfl ?_
          refine am_laldN (t := 1) (k := 0) d_L_law_1460 rfl ho2 (by omega) (by omega) ?_
          refine am_iload d_L_law_1461 rfl ?_
          refine am_i2l d_L_law_1463 ?_
          refine am_lcmp d_L_law_1464 ?_
          refine am_ifeq (tgt := 1470) d_L_law_1465 (by decide) (fun hd => ?_) (fun hd => ?_)
          · refine am_goto (tgt := 1677) d_L_law_1470 (by decide) ?_
            refine am_drop (L' := [some (.ref g.2.2.2.2.2.1), some (.ref g.2.2.1), some (.ref (g.2.2.1 + 6)), some (.ref (g.2.2.1 + 19)), some (.int (nI i)), none, none, none]) (by simp [am_le]) ?_
            exact hK
          · exact absurd (by rw [he]; exact sv_cmp_self _) hd
      · exact absurd rfl hc
    · obtain ⟨-, -, v, hr2, -⟩ := h2
      cases hr2
  · obtain ⟨-, -, -, hr1⟩ := h1
    cases hr1
set_option maxHeartbeats 4000000 in
set_option maxRecDepth 100000 in
/-- law, axis -/
theorem lw_axis {g : am_G} {d i : Nat} {S : am_S} {T : sv_T} {P : am_O → am_S → Prop} (hn : g.2.2.2.2.2.2.1 ≤ 3072) (hi : i + 6 ≤ g.2.2.2.2.2.2.1) (hI : lw_I g S T) (hr : sv_R g S 16 700) (k : lw_K g d i S P) : am_W g (d + 5) mm_L_law (1473, [some (.ref g.2.2.2.2.2.1), some (.ref g.2.2.1), some (.ref (g.2.2.1 + 6)), some (.ref (g.2.2.1 + 19)), some (.int (nI i)), none, none, none], []) S P := by
  obtain ⟨⟨lo, as, av, hC⟩, ⟨th, na, ne, nw, rd, mt, hN⟩, f, ho⟩ := hI
  refine am_aloadn d_L_law_1473 rfl ?_
  refine lw_arg (j := 1) d_L_law_1474 d_L_law_1475 d_L_law_1477 d_L_law_1478 d_L_law_1479 (by decide) rfl rfl (by omega) (by omega) ?_
  refine lw_arg (j := 2) d_L_law_1480 d_L_law_1481 d_L_law_1483 d_L_law_1484 d_L_law_1485 (by decide) rfl rfl (by omega) (by omega) ?_
  refine lw_arg (j := 3) d_L_law_1486 d_L_law_1487 d_L_law_1489 d_L_law_1490 d_L_law_1491 (by decide) rfl rfl (by omega) (by omega) ?_
  refine am_aloadn d_L_law_1492 rfl ?_
  have hW : am_W g (d + 4) mm_L_axis (0, am_ent [.ref g.2.2.1, .int (lw_a g (i + 1)), .int (lw_a g (i + 2)), .int (lw_a g (i + 3)), .ref (g.2.2.1 + 19)] 6, []) S (sv_L g S (q_axis T (lw_a g (i + 1)) (lw_a g (i + 2)) (lw_a g (i + 3))) (sv_cd 4 5 9)) := w_axis hC hr ho
  have hE : ∀ S1 : am_S, sv_N g S1.1 T th na ne nw rd mt → am_W g (d + 4) mm_M_axis (0, am_ent [.ref (g.2.2.1 + 6), .int (lw_a g (i + 1)), .int (lw_a g (i + 2)), .int (lw_a g (i + 3))] 4, []) S1 (sv_E g S1 (q_axis T (lw_a g (i + 1)) (lw_a g (i + 2)) (lw_a g (i + 3))) (sv_cd 4 5 9)) := fun S1 h => e_axis (d := d + 2) h
  have hk := k_axis (T := T) (v := lw_a g (i + 1)) (x := lw_a g (i + 2)) (w := lw_a g (i + 3))
  generalize q_axis T (lw_a g (i + 1)) (lw_a g (i + 2)) (lw_a g (i + 3)) = q at hW hE hk
  refine am_callS (P' := sv_L g S q (sv_cd 4 5 9)) [.ref g.2.2.1, .int (lw_a g (i + 1)), .int (lw_a g (i + 2)), .int (lw_a g (i + 3)), .ref (g.2.2.1 + 19)] [] d_L_law_1493 cS_L_152 rfl rfl (Nat.le_of_ble_eq_true rfl) (Nat.le_of_ble_eq_true rfl) hW (fun v1 S1 h1 => ?_) (fun x1 S1 h1 => ?_)
  · obtain ⟨⟨lo1, as1, av1, hC1⟩, ⟨hM1, hg1, hg2⟩, ⟨f1, ho1, hv1⟩, hr1⟩ := h1
    obtain rfl := Sum.inl.inj hr1
    have hN1 := hN.keep hM1
    obtain ⟨fs1, hm1⟩ := hN1.obj
    show am_W g (d + 5) mm_L_law (1496, [some (.ref g.2.2.2.2.2.1), some (.ref g.2.2.1), some (.ref (g.2.2.1 + 6)), some (.ref (g.2.2.1 + 19)), some (.int (nI i)), none, none, none], [.int (sv_cd 4 5 9 q.1)]) S1 _
    refine am_istore (L' := [some (.ref g.2.2.2.2.2.1), some (.ref g.2.2.1), some (.ref (g.2.2.1 + 6)), some (.ref (g.2.2.1 + 19)), some (.int (nI i)), some (.int (sv_cd 4 5 9 q.1)), none, none]) d_L_law_1496 (by decide) rfl rfl ?_
    refine am_aloadn d_L_law_1498 rfl ?_
    refine lw_arg (j := 1) d_L_law_1499 d_L_law_1500 d_L_law_1502 d_L_law_1503 d_L_law_1504 (by decide) rfl rfl (by omega) (by omega) ?_
    refine lw_arg (j := 2) d_L_law_1505 d_L_law_1506 d_L_law_1508 d_L_law_1509 d_L_law_1510 (by decide) rfl rfl (by omega) (by omega) ?_
    refine lw_arg (j := 3) d_L_law_1511 d_L_law_1512 d_L_law_1514 d_L_law_1515 d_L_law_1516 (by decide) rfl rfl (by omega) (by omega) ?_
    refine am_callV (P' := sv_E g S1 q (sv_cd 4 5 9)) [.int (lw_a g (i + 1)), .int (lw_a g (i + 2)), .int (lw_a g (i + 3))] [] d_L_law_1517 cV_L_154 hm1 rfl rfl (Nat.le_of_ble_eq_true rfl) (Nat.le_of_ble_eq_true rfl) (hE S1 hN1) (fun v2 S2 h2 => ?_) (fun x2 S2 h2 => ?_)
    · obtain ⟨⟨na2, ne2, nw2, rd2, mt2, hN2⟩, ⟨hz2, hf2⟩, v, hr2, hq2⟩ := h2
      obtain rfl := Sum.inl.inj hr2
      have hC2 : sv_C g lo1 S2 q.2.2 as1 av1 := hC1.far (fun k hk => hf2 k (by omega)) (by rw [hz2]; exact hC1.base.2.1)
      have ho2 : sv_oc g S2.1 f1 := (hf2 _ (by omega)).trans ho1
      have hK := k S2 q.2.2 ⟨⟨lo1, as1, av1, hC2⟩, ⟨_, _, _, _, _, _, hN2⟩, f1, ho2⟩ (by rw [hz2]; exact hg1) (by rw [hz2]; exact hg2)
      obtain ⟨fs2, hm2⟩ := hN2.obj
      show am_W g (d + 5) mm_L_law (1520, [some (.ref g.2.2.2.2.2.1), some (.ref g.2.2.1), some (.ref (g.2.2.1 + 6)), some (.ref (g.2.2.1 + 19)), some (.int (nI i)), some (.int (sv_cd 4 5 9 q.1)), none, none], [.int v]) S2 _
      refine am_istore (L' := [some (.ref g.2.2.2.2.2.1), some (.ref g.2.2.1), some (.ref (g.2.2.1 + 6)), some (.ref (g.2.2.1 + 19)), some (.int (nI i)), some (.int (sv_cd 4 5 9 q.1)), some (.int v), none]) d_L_law_1520 (by decide) rfl rfl ?_
      refine am_aloadn d_L_law_1522 rfl ?_
      refine am_cpsV [] [] d_L_law_1523 cV_L_93 rfl hm2 rfl rfl (Nat.le_of_ble_eq_true rfl) (Nat.le_of_ble_eq_true rfl) (m_thrown hN2 ?_)
      show am_W g (d + 5) mm_L_law (1526, [some (.ref g.2.2.2.2.2.1), some (.ref g.2.2.1), some (.ref (g.2.2.1 + 6)), some (.ref (g.2.2.1 + 19)), some (.int (nI i)), some (.int (sv_cd 4 5 9 q.1)), some (.int v), none], [.int (sv_cd 4 5 9 q.1)]) S2 _
      refine am_iload d_L_law_1526 rfl ?_
      refine am_iceq (tgt := 1533) d_L_law_1528 (by decide) (fun hc => ?_) (fun hc => ?_)
      · refine am_iload d_L_law_1533 rfl ?_
        refine am_ifne (tgt := 1550) d_L_law_1535 (by decide) (fun hz => ?_) (fun hz => ?_)
        · refine am_goto (tgt := 1677) d_L_law_1550 (by decide) ?_
          refine am_drop (L' := [some (.ref g.2.2.2.2.2.1), some (.ref g.2.2.1), some (.ref (g.2.2.1 + 6)), some (.ref (g.2.2.1 + 19)), some (.int (nI i)), none, none, none]) (by simp [am_le]) ?_
          exact hK
        · have h0 := hk.zero (k := sv_cd 4 5 9) (fun _ => by decide) (fun _ => by decide) (fun h => h.elim) hz
          have he : f1 0 = v.toInt64 := (hv1 h0).1 v (hq2 h0).symm
          refine am_aloadn d_L_law_1538 rfl ?_
          refine am_iconst 0 d_L_law_1539 (by decide) ?_
          refine am_ti (b := nI 0) rfl ?_
          refine am_laldN (t := 1) (k := 0) d_L_law_1540 rfl ho2 (by omega) (by omega) ?_
          refine am_iload d_L_law_1541 rfl ?_
          refine am_i2l d_L_law_1543 ?_
          refine am_lcmp d_L_law_1544 ?_
          refine am_ifeq (tgt := 1550) d_L_law_1545 (by decide) (fun hd => ?_) (fun hd => ?_)
          · refine am_goto (tgt := 1677) d_L_law_1550 (by decide) ?_
            refine am_drop (L' := [some (.ref g.2.2.2.2.2.1), some (.ref g.2.2.1), some (.ref (g.2.2.1 + 6)), some (.ref (g.2.2.1 + 19)), some (.int (nI i)), none, none, none]) (by simp [am_le]) ?_
            exact hK
          · exact absurd (by rw [he]; exact sv_cmp_self _) hd
      · exact absurd rfl hc
    · obtain ⟨-, -, v, hr2, -⟩ := h2
      cases hr2
  · obtain ⟨-, -, -, hr1⟩ := h1
    cases hr1
set_option maxHeartbeats 4000000 in
set_option maxRecDepth 100000 in
/-- law, stored -/
theorem lw_stored {g : am_G} {d i : Nat} {S : am_S} {T : sv_T} {P : am_O → am_S → Prop} (hn : g.2.2.2.2.2.2.1 ≤ 3072) (hi : i + 6 ≤ g.2.2.2.2.2.2.1) (hI : lw_I g S T) (hr : sv_R g S 16 700) (k : lw_K g d i S P) : am_W g (d + 5) mm_L_law (1553, [some (.ref g.2.2.2.2.2.1), some (.ref g.2.2.1), some (.ref (g.2.2.1 + 6)), some (.ref (g.2.2.1 + 19)), some (.int (nI i)), none, none, none], []) S P := by
  obtain ⟨⟨lo, as, av, hC⟩, ⟨th, na, ne, nw, rd, mt, hN⟩, f, ho⟩ := hI
  refine am_aloadn d_L_law_1553 rfl ?_
  refine lw_arg (j := 1) d_L_law_1554 d_L_law_1555 d_L_law_1557 d_L_law_1558 d_L_law_1559 (by decide) rfl rfl (by omega) (by omega) ?_
  refine lw_arg (j := 2) d_L_law_1560 d_L_law_1561 d_L_law_1563 d_L_law_1564 d_L_law_1565 (by decide) rfl rfl (by omega) (by omega) ?_
  refine am_aloadn d_L_law_1566 rfl ?_
  have hW : am_W g (d + 4) mm_L_stored (0, am_ent [.ref g.2.2.1, .int (lw_a g (i + 1)), .int (lw_a g (i + 2)), .ref (g.2.2.1 + 19)] 5, []) S (sv_L g S (q_stored T (lw_a g (i + 1)) (lw_a g (i + 2))) (sv_cd 4 5 9)) := w_stored hC hr ho
  have hE : ∀ S1 : am_S, sv_N g S1.1 T th na ne nw rd mt → am_W g (d + 4) mm_M_stored (0, am_ent [.ref (g.2.2.1 + 6), .int (lw_a g (i + 1)), .int (lw_a g (i + 2))] 5, []) S1 (sv_E g S1 (q_stored T (lw_a g (i + 1)) (lw_a g (i + 2))) (sv_cd 4 5 9)) := fun S1 h => e_stored (d := d + 3) h
  have hk := k_stored (T := T) (s := lw_a g (i + 1)) (w := lw_a g (i + 2))
  generalize q_stored T (lw_a g (i + 1)) (lw_a g (i + 2)) = q at hW hE hk
  refine am_callS (P' := sv_L g S q (sv_cd 4 5 9)) [.ref g.2.2.1, .int (lw_a g (i + 1)), .int (lw_a g (i + 2)), .ref (g.2.2.1 + 19)] [] d_L_law_1567 cS_L_155 rfl rfl (Nat.le_of_ble_eq_true rfl) (Nat.le_of_ble_eq_true rfl) hW (fun v1 S1 h1 => ?_) (fun x1 S1 h1 => ?_)
  · obtain ⟨⟨lo1, as1, av1, hC1⟩, ⟨hM1, hg1, hg2⟩, ⟨f1, ho1, hv1⟩, hr1⟩ := h1
    obtain rfl := Sum.inl.inj hr1
    have hN1 := hN.keep hM1
    obtain ⟨fs1, hm1⟩ := hN1.obj
    show am_W g (d + 5) mm_L_law (1570, [some (.ref g.2.2.2.2.2.1), some (.ref g.2.2.1), some (.ref (g.2.2.1 + 6)), some (.ref (g.2.2.1 + 19)), some (.int (nI i)), none, none, none], [.int (sv_cd 4 5 9 q.1)]) S1 _
    refine am_istore (L' := [some (.ref g.2.2.2.2.2.1), some (.ref g.2.2.1), some (.ref (g.2.2.1 + 6)), some (.ref (g.2.2.1 + 19)), some (.int (nI i)), some (.int (sv_cd 4 5 9 q.1)), none, none]) d_L_law_1570 (by decide) rfl rfl ?_
    refine am_aloadn d_L_law_1572 rfl ?_
    refine lw_arg (j := 1) d_L_law_1573 d_L_law_1574 d_L_law_1576 d_L_law_1577 d_L_law_1578 (by decide) rfl rfl (by omega) (by omega) ?_
    refine lw_arg (j := 2) d_L_law_1579 d_L_law_1580 d_L_law_1582 d_L_law_1583 d_L_law_1584 (by decide) rfl rfl (by omega) (by omega) ?_
    refine am_callV (P' := sv_E g S1 q (sv_cd 4 5 9)) [.int (lw_a g (i + 1)), .int (lw_a g (i + 2))] [] d_L_law_1585 cV_L_157 hm1 rfl rfl (Nat.le_of_ble_eq_true rfl) (Nat.le_of_ble_eq_true rfl) (hE S1 hN1) (fun v2 S2 h2 => ?_) (fun x2 S2 h2 => ?_)
    · obtain ⟨⟨na2, ne2, nw2, rd2, mt2, hN2⟩, ⟨hz2, hf2⟩, v, hr2, hq2⟩ := h2
      obtain rfl := Sum.inl.inj hr2
      have hC2 : sv_C g lo1 S2 q.2.2 as1 av1 := hC1.far (fun k hk => hf2 k (by omega)) (by rw [hz2]; exact hC1.base.2.1)
      have ho2 : sv_oc g S2.1 f1 := (hf2 _ (by omega)).trans ho1
      have hK := k S2 q.2.2 ⟨⟨lo1, as1, av1, hC2⟩, ⟨_, _, _, _, _, _, hN2⟩, f1, ho2⟩ (by rw [hz2]; exact hg1) (by rw [hz2]; exact hg2)
      obtain ⟨fs2, hm2⟩ := hN2.obj
      show am_W g (d + 5) mm_L_law (1588, [some (.ref g.2.2.2.2.2.1), some (.ref g.2.2.1), some (.ref (g.2.2.1 + 6)), some (.ref (g.2.2.1 + 19)), some (.int (nI i)), some (.int (sv_cd 4 5 9 q.1)), none, none], [.int v]) S2 _
      refine am_istore (L' := [some (.ref g.2.2.2.2.2.1), some (.ref g.2.2.1), some (.ref (g.2.2.1 + 6)), some (.ref (g.2.2.1 + 19)), some (.int (nI i)), some (.int (sv_cd 4 5 9 q.1)), some (.int v), none]) d_L_law_1588 (by decide) rfl rfl ?_
      refine am_aloadn d_L_law_1590 rfl ?_
      refine am_cpsV [] [] d_L_law_1591 cV_L_93 rfl hm2 rfl rfl (Nat.le_of_ble_eq_true rfl) (Nat.le_of_ble_eq_true rfl) (m_thrown hN2 ?_)
      show am_W g (d + 5) mm_L_law (1594, [some (.ref g.2.2.2.2.2.1), some (.ref g.2.2.1), some (.ref (g.2.2.1 + 6)), some (.ref (g.2.2.1 + 19)), some (.int (nI i)), some (.int (sv_cd 4 5 9 q.1)), some (.int v), none], [.int (sv_cd 4 5 9 q.1)]) S2 _
      refine am_iload d_L_law_1594 rfl ?_
      refine am_iceq (tgt := 1601) d_L_law_1596 (by decide) (fun hc => ?_) (fun hc => ?_)
      · refine am_iload d_L_law_1601 rfl ?_
        refine am_ifne (tgt := 1618) d_L_law_1603 (by decide) (fun hz => ?_) (fun hz => ?_)
        · refine am_goto (tgt := 1677) d_L_law_1618 (by decide) ?_
          refine am_drop (L' := [some (.ref g.2.2.2.2.2.1), some (.ref g.2.2.1), some (.ref (g.2.2.1 + 6)), some (.ref (g.2.2.1 + 19)), some (.int (nI i)), none, none, none]) (by simp [am_le]) ?_
          exact hK
        · have h0 := hk.zero (k := sv_cd 4 5 9) (fun _ => by decide) (fun _ => by decide) (fun h => h.elim) hz
          have he : f1 0 = v.toInt64 := (hv1 h0).1 v (hq2 h0).symm
          refine am_aloadn d_L_law_1606 rfl ?_
          refine am_iconst 0 d_L_law_1607 (by decide) ?_
          refine am_ti (b := nI 0) rfl ?_
          refine am_laldN (t := 1) (k := 0) d_L_law_1608 rfl ho2 (by omega) (by omega) ?_
          refine am_iload d_L_law_1609 rfl ?_
          refine am_i2l d_L_law_1611 ?_
          refine am_lcmp d_L_law_1612 ?_
          refine am_ifeq (tgt := 1618) d_L_law_1613 (by decide) (fun hd => ?_) (fun hd => ?_)
          · refine am_goto (tgt := 1677) d_L_law_1618 (by decide) ?_
            refine am_drop (L' := [some (.ref g.2.2.2.2.2.1), some (.ref g.2.2.1), some (.ref (g.2.2.1 + 6)), some (.ref (g.2.2.1 + 19)), some (.int (nI i)), none, none, none]) (by simp [am_le]) ?_
            exact hK
          · exact absurd (by rw [he]; exact sv_cmp_self _) hd
      · exact absurd rfl hc
    · obtain ⟨-, -, v, hr2, -⟩ := h2
      cases hr2
  · obtain ⟨-, -, -, hr1⟩ := h1
    cases hr1
set_option maxHeartbeats 4000000 in
set_option maxRecDepth 100000 in
/-- law, count -/
theorem lw_count {g : am_G} {d i : Nat} {S : am_S} {T : sv_T} {P : am_O → am_S → Prop} (hn : g.2.2.2.2.2.2.1 ≤ 3072) (hi : i + 6 ≤ g.2.2.2.2.2.2.1) (hI : lw_I g S T) (hr : sv_R g S 16 700) (k : lw_K g d i S P) : am_W g (d + 5) mm_L_law (1621, [some (.ref g.2.2.2.2.2.1), some (.ref g.2.2.1), some (.ref (g.2.2.1 + 6)), some (.ref (g.2.2.1 + 19)), some (.int (nI i)), none, none, none], []) S P := by
  obtain ⟨⟨lo, as, av, hC⟩, ⟨th, na, ne, nw, rd, mt, hN⟩, f, ho⟩ := hI
  refine am_aloadn d_L_law_1621 rfl ?_
  refine lw_arg (j := 1) d_L_law_1622 d_L_law_1623 d_L_law_1625 d_L_law_1626 d_L_law_1627 (by decide) rfl rfl (by omega) (by omega) ?_
  refine am_aloadn d_L_law_1628 rfl ?_
  have hW : am_W g (d + 4) mm_L_count (0, am_ent [.ref g.2.2.1, .int (lw_a g (i + 1)), .ref (g.2.2.1 + 19)] 4, []) S (sv_L g S (q_count T (lw_a g (i + 1))) (sv_cd 5 9 9)) := w_count hC hr ho
  have hE : ∀ S1 : am_S, sv_N g S1.1 T th na ne nw rd mt → am_W g (d + 4) mm_M_count (0, am_ent [.ref (g.2.2.1 + 6), .int (lw_a g (i + 1))] 2, []) S1 (sv_E g S1 (q_count T (lw_a g (i + 1))) (sv_cd 5 9 9)) := fun S1 h => e_count (d := d + 4) h
  have hk := k_count (T := T) (w := lw_a g (i + 1))
  generalize q_count T (lw_a g (i + 1)) = q at hW hE hk
  refine am_callS (P' := sv_L g S q (sv_cd 5 9 9)) [.ref g.2.2.1, .int (lw_a g (i + 1)), .ref (g.2.2.1 + 19)] [] d_L_law_1629 cS_L_158 rfl rfl (Nat.le_of_ble_eq_true rfl) (Nat.le_of_ble_eq_true rfl) hW (fun v1 S1 h1 => ?_) (fun x1 S1 h1 => ?_)
  · obtain ⟨⟨lo1, as1, av1, hC1⟩, ⟨hM1, hg1, hg2⟩, ⟨f1, ho1, hv1⟩, hr1⟩ := h1
    obtain rfl := Sum.inl.inj hr1
    have hN1 := hN.keep hM1
    obtain ⟨fs1, hm1⟩ := hN1.obj
    show am_W g (d + 5) mm_L_law (1632, [some (.ref g.2.2.2.2.2.1), some (.ref g.2.2.1), some (.ref (g.2.2.1 + 6)), some (.ref (g.2.2.1 + 19)), some (.int (nI i)), none, none, none], [.int (sv_cd 5 9 9 q.1)]) S1 _
    refine am_istore (L' := [some (.ref g.2.2.2.2.2.1), some (.ref g.2.2.1), some (.ref (g.2.2.1 + 6)), some (.ref (g.2.2.1 + 19)), some (.int (nI i)), some (.int (sv_cd 5 9 9 q.1)), none, none]) d_L_law_1632 (by decide) rfl rfl ?_
    refine am_aloadn d_L_law_1634 rfl ?_
    refine lw_arg (j := 1) d_L_law_1635 d_L_law_1636 d_L_law_1638 d_L_law_1639 d_L_law_1640 (by decide) rfl rfl (by omega) (by omega) ?_
    refine am_callV (P' := sv_E g S1 q (sv_cd 5 9 9)) [.int (lw_a g (i + 1))] [] d_L_law_1641 cV_L_160 hm1 rfl rfl (Nat.le_of_ble_eq_true rfl) (Nat.le_of_ble_eq_true rfl) (hE S1 hN1) (fun v2 S2 h2 => ?_) (fun x2 S2 h2 => ?_)
    · obtain ⟨⟨na2, ne2, nw2, rd2, mt2, hN2⟩, ⟨hz2, hf2⟩, v, hr2, hq2⟩ := h2
      obtain rfl := Sum.inl.inj hr2
      have hC2 : sv_C g lo1 S2 q.2.2 as1 av1 := hC1.far (fun k hk => hf2 k (by omega)) (by rw [hz2]; exact hC1.base.2.1)
      have ho2 : sv_oc g S2.1 f1 := (hf2 _ (by omega)).trans ho1
      have hK := k S2 q.2.2 ⟨⟨lo1, as1, av1, hC2⟩, ⟨_, _, _, _, _, _, hN2⟩, f1, ho2⟩ (by rw [hz2]; exact hg1) (by rw [hz2]; exact hg2)
      obtain ⟨fs2, hm2⟩ := hN2.obj
      show am_W g (d + 5) mm_L_law (1644, [some (.ref g.2.2.2.2.2.1), some (.ref g.2.2.1), some (.ref (g.2.2.1 + 6)), some (.ref (g.2.2.1 + 19)), some (.int (nI i)), some (.int (sv_cd 5 9 9 q.1)), none, none], [.int v]) S2 _
      refine am_istore (L' := [some (.ref g.2.2.2.2.2.1), some (.ref g.2.2.1), some (.ref (g.2.2.1 + 6)), some (.ref (g.2.2.1 + 19)), some (.int (nI i)), some (.int (sv_cd 5 9 9 q.1)), some (.int v), none]) d_L_law_1644 (by decide) rfl rfl ?_
      refine am_aloadn d_L_law_1646 rfl ?_
      refine am_cpsV [] [] d_L_law_1647 cV_L_93 rfl hm2 rfl rfl (Nat.le_of_ble_eq_true rfl) (Nat.le_of_ble_eq_true rfl) (m_thrown hN2 ?_)
      show am_W g (d + 5) mm_L_law (1650, [some (.ref g.2.2.2.2.2.1), some (.ref g.2.2.1), some (.ref (g.2.2.1 + 6)), some (.ref (g.2.2.1 + 19)), some (.int (nI i)), some (.int (sv_cd 5 9 9 q.1)), some (.int v), none], [.int (sv_cd 5 9 9 q.1)]) S2 _
      refine am_iload d_L_law_1650 rfl ?_
      refine am_iceq (tgt := 1657) d_L_law_1652 (by decide) (fun hc => ?_) (fun hc => ?_)
      · refine am_iload d_L_law_1657 rfl ?_
        refine am_ifne (tgt := 1674) d_L_law_1659 (by decide) (fun hz => ?_) (fun hz => ?_)
        · refine am_goto (tgt := 1677) d_L_law_1674 (by decide) ?_
          refine am_drop (L' := [some (.ref g.2.2.2.2.2.1), some (.ref g.2.2.1), some (.ref (g.2.2.1 + 6)), some (.ref (g.2.2.1 + 19)), some (.int (nI i)), none, none, none]) (by simp [am_le]) ?_
          exact hK
        · have h0 := hk.zero (k := sv_cd 5 9 9) (fun h => h.elim) (fun _ => by decide) (fun h => h.elim) hz
          have he : f1 0 = v.toInt64 := (hv1 h0).1 v (hq2 h0).symm
          refine am_aloadn d_L_law_1662 rfl ?_
          refine am_iconst 0 d_L_law_1663 (by decide) ?_
          refine am_ti (b := nI 0) rfl ?_
          refine am_laldN (t := 1) (k := 0) d_L_law_1664 rfl ho2 (by omega) (by omega) ?_
          refine am_iload d_L_law_1665 rfl ?_
          refine am_i2l d_L_law_1667 ?_
          refine am_lcmp d_L_law_1668 ?_
          refine am_ifeq (tgt := 1674) d_L_law_1669 (by decide) (fun hd => ?_) (fun hd => ?_)
          · refine am_goto (tgt := 1677) d_L_law_1674 (by decide) ?_
            refine am_drop (L' := [some (.ref g.2.2.2.2.2.1), some (.ref g.2.2.1), some (.ref (g.2.2.1 + 6)), some (.ref (g.2.2.1 + 19)), some (.int (nI i)), none, none, none]) (by simp [am_le]) ?_
            exact hK
          · exact absurd (by rw [he]; exact sv_cmp_self _) hd
      · exact absurd rfl hc
    · obtain ⟨-, -, v, hr2, -⟩ := h2
      cases hr2
  · obtain ⟨-, -, -, hr1⟩ := h1
    cases hr1
set_option maxHeartbeats 4000000 in
set_option maxRecDepth 100000 in
/-- law, call after call -/
theorem lw_loop {g : am_G} {d : Nat} (hn : g.2.2.2.2.2.2.1 ≤ 3072) : ∀ (c i : Nat) (S : am_S) (T : sv_T), g.2.2.2.2.2.2.1 < i + 6 * c + 6 → i ≤ 3078 → lw_I g S T → S.2.1 + 16 * c ≤ g.2.2.2.1 → S.2.2 + 700 * c ≤ g.2.2.2.2.1 → am_W g (d + 5) mm_L_law (23, [some (.ref g.2.2.2.2.2.1), some (.ref g.2.2.1), some (.ref (g.2.2.1 + 6)), some (.ref (g.2.2.1 + 19)), some (.int (nI i)), none, none, none], []) S (fun o _ => o = .inl (some (.int 1))) := by
  intro c
  induction c with
  | zero =>
    intro i S T h1 h2 hI h3 h4
    show am_W g (d + 5) mm_L_law (23, [some (.ref g.2.2.2.2.2.1), some (.ref g.2.2.1), some (.ref (g.2.2.1 + 6)), some (.ref (g.2.2.1 + 19)), some (.int (nI i)), none, none, none], []) S _
    refine am_iload d_L_law_23 rfl ?_
    refine am_aloadn d_L_law_25 rfl ?_
    refine am_slen d_L_law_26 ?_
    refine am_bipush 6 d_L_law_27 (by decide) ?_
    refine am_isub d_L_law_29 ?_
    refine am_icgt (tgt := 1683) d_L_law_30 (by decide) (fun hc => ?_) (fun hc => ?_)
    · refine am_iconst 1 d_L_law_1683 (by decide) ?_
      exact am_zret d_L_law_1684 rfl rfl rfl
    · exact absurd ((lw_cmp (by omega) (by omega)).mpr (by omega)) hc
  | succ c ih =>
    intro i S T h1 h2 hI h3 h4
    show am_W g (d + 5) mm_L_law (23, [some (.ref g.2.2.2.2.2.1), some (.ref g.2.2.1), some (.ref (g.2.2.1 + 6)), some (.ref (g.2.2.1 + 19)), some (.int (nI i)), none, none, none], []) S _
    refine am_iload d_L_law_23 rfl ?_
    refine am_aloadn d_L_law_25 rfl ?_
    refine am_slen d_L_law_26 ?_
    refine am_bipush 6 d_L_law_27 (by decide) ?_
    refine am_isub d_L_law_29 ?_
    refine am_icgt (tgt := 1683) d_L_law_30 (by decide) (fun hc => ?_) (fun hc => ?_)
    · refine am_iconst 1 d_L_law_1683 (by decide) ?_
      exact am_zret d_L_law_1684 rfl rfl rfl
    · have hi6 : i + 6 ≤ g.2.2.2.2.2.2.1 := Nat.le_of_not_lt (fun q => hc ((lw_cmp (by omega) (by omega)).mpr q))
      have hr : sv_R g S 16 700 := ⟨by omega, by omega⟩
      have hK : lw_K g d i S (fun o _ => o = .inl (some (.int 1))) := by
        intro S1 T1 hI1 hg1 hg2
        refine am_iinc (v := nI (i + 6)) (L' := [some (.ref g.2.2.2.2.2.1), some (.ref g.2.2.1), some (.ref (g.2.2.1 + 6)), some (.ref (g.2.2.1 + 19)), some (.int (nI (i + 6))), none, none, none]) d_L_law_1677 rfl (nI_add i 6) (by decide) rfl rfl ?_
        refine am_goto (tgt := 23) d_L_law_1680 (by decide) ?_
        exact ih (i + 6) S1 T1 (by omega) (by omega) hI1 (by omega) (by omega)
      refine am_aloadn d_L_law_33 rfl ?_
      refine am_iload d_L_law_34 rfl ?_
      refine am_sld d_L_law_36 (vp_in_nI (by omega) (by omega)) ?_
      obtain ⟨w0, hw0⟩ : ∃ z : Int32, z = g.2.2.2.2.2.2.2 (nI i).toNatClampNeg := ⟨_, rfl⟩
      rw [← hw0]
      refine am_bipush 31 d_L_law_37 (by decide) ?_
      refine am_iand d_L_law_39 ?_
      obtain ⟨x, hx⟩ : ∃ z : Int32, z = w0 &&& 31 := ⟨_, rfl⟩
      refine am_ti (b := x) hx.symm ?_
      by_cases hk0 : x = 0
      · rw [hk0]
        refine am_tabIn (off := 96) (tgt := 136) d_L_law_40 (by decide) (by decide) (by decide) (by decide) ?_
        exact lw_store hn hi6 hI hr hK
      · by_cases hk1 : x = 1
        · rw [hk1]
          refine am_tabIn (off := 164) (tgt := 204) d_L_law_40 (by decide) (by decide) (by decide) (by decide) ?_
          exact lw_slice hn hi6 hI hr hK
        · by_cases hk2 : x = 2
          · rw [hk2]
            refine am_tabIn (off := 268) (tgt := 308) d_L_law_40 (by decide) (by decide) (by decide) (by decide) ?_
            exact lw_pick hn hi6 hI hr hK
          · by_cases hk3 : x = 3
            · rw [hk3]
              refine am_tabIn (off := 348) (tgt := 388) d_L_law_40 (by decide) (by decide) (by decide) (by decide) ?_
              exact lw_turn hn hi6 hI hr hK
            · by_cases hk4 : x = 4
              · rw [hk4]
                refine am_tabIn (off := 428) (tgt := 468) d_L_law_40 (by decide) (by decide) (by decide) (by decide) ?_
                exact lw_spread hn hi6 hI hr hK
              · by_cases hk5 : x = 5
                · rw [hk5]
                  refine am_tabIn (off := 508) (tgt := 548) d_L_law_40 (by decide) (by decide) (by decide) (by decide) ?_
                  exact lw_diagonal hn hi6 hI hr hK
                · by_cases hk6 : x = 6
                  · rw [hk6]
                    refine am_tabIn (off := 588) (tgt := 628) d_L_law_40 (by decide) (by decide) (by decide) (by decide) ?_
                    exact lw_shape hn hi6 hI hr hK
                  · by_cases hk7 : x = 7
                    · rw [hk7]
                      refine am_tabIn (off := 680) (tgt := 720) d_L_law_40 (by decide) (by decide) (by decide) (by decide) ?_
                      exact lw_compact hn hi6 hI hr hK
                    · by_cases hk8 : x = 8
                      · rw [hk8]
                        refine am_tabIn (off := 748) (tgt := 788) d_L_law_40 (by decide) (by decide) (by decide) (by decide) ?_
                        exact lw_at hn hi6 hI hr hK
                      · by_cases hk9 : x = 9
                        · rw [hk9]
                          refine am_tabIn (off := 815) (tgt := 855) d_L_law_40 (by decide) (by decide) (by decide) (by decide) ?_
                          exact lw_put hn hi6 hI hr hK
                        · by_cases hk10 : x = 10
                          · rw [hk10]
                            refine am_tabIn (off := 926) (tgt := 966) d_L_law_40 (by decide) (by decide) (by decide) (by decide) ?_
                            exact lw_copy hn hi6 hI hr hK
                          · by_cases hk11 : x = 11
                            · rw [hk11]
                              refine am_tabIn (off := 994) (tgt := 1034) d_L_law_40 (by decide) (by decide) (by decide) (by decide) ?_
                              exact lw_act hn hi6 hI hr hK
                            · by_cases hk12 : x = 12
                              · rw [hk12]
                                refine am_tabIn (off := 1086) (tgt := 1126) d_L_law_40 (by decide) (by decide) (by decide) (by decide) ?_
                                exact lw_fold hn hi6 hI hr hK
                              · by_cases hk13 : x = 13
                                · rw [hk13]
                                  refine am_tabIn (off := 1166) (tgt := 1206) d_L_law_40 (by decide) (by decide) (by decide) (by decide) ?_
                                  exact lw_shared hn hi6 hI hr hK
                                · by_cases hk14 : x = 14
                                  · rw [hk14]
                                    refine am_tabIn (off := 1234) (tgt := 1274) d_L_law_40 (by decide) (by decide) (by decide) (by decide) ?_
                                    exact lw_same hn hi6 hI hr hK
                                  · by_cases hk15 : x = 15
                                    · rw [hk15]
                                      refine am_tabIn (off := 1309) (tgt := 1349) d_L_law_40 (by decide) (by decide) (by decide) (by decide) ?_
                                      exact lw_runs hn hi6 hI hr hK
                                    · by_cases hk16 : x = 16
                                      · rw [hk16]
                                        refine am_tabIn (off := 1365) (tgt := 1405) d_L_law_40 (by decide) (by decide) (by decide) (by decide) ?_
                                        exact lw_told hn hi6 hI hr hK
                                      · by_cases hk17 : x = 17
                                        · rw [hk17]
                                          refine am_tabIn (off := 1433) (tgt := 1473) d_L_law_40 (by decide) (by decide) (by decide) (by decide) ?_
                                          exact lw_axis hn hi6 hI hr hK
                                        · by_cases hk18 : x = 18
                                          · rw [hk18]
                                            refine am_tabIn (off := 1513) (tgt := 1553) d_L_law_40 (by decide) (by decide) (by decide) (by decide) ?_
                                            exact lw_stored hn hi6 hI hr hK
                                          · by_cases hk19 : x = 19
                                            · rw [hk19]
                                              refine am_tabIn (off := 1581) (tgt := 1621) d_L_law_40 (by decide) (by decide) (by decide) (by decide) ?_
                                              exact lw_count hn hi6 hI hr hK
                                            · refine am_tabOut (tgt := 1677) d_L_law_40 (by have w0 := lv_neT hk0 (a := 0) (by decide); have w1 := lv_neT hk1 (a := 1) (by decide); have w2 := lv_neT hk2 (a := 2) (by decide); have w3 := lv_neT hk3 (a := 3) (by decide); have w4 := lv_neT hk4 (a := 4) (by decide); have w5 := lv_neT hk5 (a := 5) (by decide); have w6 := lv_neT hk6 (a := 6) (by decide); have w7 := lv_neT hk7 (a := 7) (by decide); have w8 := lv_neT hk8 (a := 8) (by decide); have w9 := lv_neT hk9 (a := 9) (by decide); have w10 := lv_neT hk10 (a := 10) (by decide); have w11 := lv_neT hk11 (a := 11) (by decide); have w12 := lv_neT hk12 (a := 12) (by decide); have w13 := lv_neT hk13 (a := 13) (by decide); have w14 := lv_neT hk14 (a := 14) (by decide); have w15 := lv_neT hk15 (a := 15) (by decide); have w16 := lv_neT hk16 (a := 16) (by decide); have w17 := lv_neT hk17 (a := 17) (by decide); have w18 := lv_neT hk18 (a := 18) (by decide); have w19 := lv_neT hk19 (a := 19) (by decide); omega) (by decide) ?_
                                              exact hK S T hI (by omega) (by omega)
set_option maxHeartbeats 4000000 in
set_option maxRecDepth 100000 in
/-- law -/
theorem lw_law {g : am_G} {d : Nat} {S : am_S} (hS : S.2.1 = g.2.2.1) (hn : g.2.2.2.2.2.2.1 ≤ 3072) (hr : sv_R g S 8300 380000) : am_W g (d + 5) mm_L_law (0, am_ent [.ref g.2.2.2.2.2.1] 8, []) S (fun o _ => o = .inl (some (.int 1))) := by
  obtain ⟨hr1, hr2⟩ := hr
  show am_W g (d + 5) mm_L_law (0, [some (.ref g.2.2.2.2.2.1), none, none, none, none, none, none, none], []) S _
  obtain ⟨a_1, ea_1⟩ : ∃ z : Nat, z = S.2.1 := ⟨_, rfl⟩
  refine am_new d_L_law_0 nw_L_8 (by omega) (by simp only [List.length]; omega) ?_
  change am_W _ _ _ (_, _, .ref S.2.1 :: _) (am_up S.1 S.2.1 (.inr (2, [.null, .null, .int 0, .int 0, .null, .null, .null])), S.2.1 + 1, S.2.2 + 7) _
  rw [← ea_1]
  obtain ⟨S_2, eS_2⟩ : ∃ z : am_S, z = (am_up S.1 a_1 (.inr (2, [.null, .null, .int 0, .int 0, .null, .null, .null])), a_1 + 1, S.2.2 + 7) := ⟨_, rfl⟩
  rw [← eS_2]
  have h_3 : S_2.1 a_1 = some (.inr (2, [.null, .null, .int 0, .int 0, .null, .null, .null])) := by rw [eS_2]; exact am_up_s
  have hna_1 : S_2.2.1 = a_1 + 1 := by rw [eS_2]
  have hza_1 : S_2.2.2 = S.2.2 + 7 := by rw [eS_2]
  obtain rfl : a_1 = g.2.2.1 := by omega
  refine am_dup d_L_law_3 rfl ?_
  refine am_cpsI [] [.ref g.2.2.1] d_L_law_4 cI_L_83 rfl rfl rfl (Nat.le_of_ble_eq_true rfl) (Nat.le_of_ble_eq_true rfl) (c_Xinit h_3 (by omega) ⟨by omega, by omega⟩ (fun S3 hX3 hz3 hf3 => ?_))
  have hn3 : S3.2.1 = g.2.2.1 + 6 := by rw [hz3]
  have hs3 : S3.2.2 = S_2.2.2 + 6392 := by rw [hz3]
  show am_W g (d + 5) mm_L_law (7, [some (.ref g.2.2.2.2.2.1), none, none, none, none, none, none, none], [.ref g.2.2.1]) S3 _
  refine am_astoren (L' := [some (.ref g.2.2.2.2.2.1), some (.ref g.2.2.1), none, none, none, none, none, none]) d_L_law_7 (by decide) rfl rfl ?_
  have hf30 : ∀ q, q < g.2.2.1 + 6 → S3.1 q = S3.1 q := fun _ _ => rfl
  obtain ⟨a_4, ea_4⟩ : ∃ z : Nat, z = S3.2.1 := ⟨_, rfl⟩
  refine am_new d_L_law_8 nw_L_84 (by omega) (by simp only [List.length]; omega) ?_
  change am_W _ _ _ (_, _, .ref S3.2.1 :: _) (am_up S3.1 S3.2.1 (.inr (3, [.int 0, .int 0, .null, .null, .null, .int 0, .null, .null, .null, .null, .null, .null, .null, .int 0, .null, .null])), S3.2.1 + 1, S3.2.2 + 16) _
  rw [← ea_4]
  obtain ⟨S_5, eS_5⟩ : ∃ z : am_S, z = (am_up S3.1 a_4 (.inr (3, [.int 0, .int 0, .null, .null, .null, .int 0, .null, .null, .null, .null, .null, .null, .null, .int 0, .null, .null])), a_4 + 1, S3.2.2 + 16) := ⟨_, rfl⟩
  rw [← eS_5]
  have hf_6 : ∀ q, q < g.2.2.1 + 6 → S_5.1 q = S3.1 q := by rw [eS_5]; exact fun q hq => (am_up_n (by omega)).trans (hf30 q hq)
  have h_7 : S_5.1 a_4 = some (.inr (3, [.int 0, .int 0, .null, .null, .null, .int 0, .null, .null, .null, .null, .null, .null, .null, .int 0, .null, .null])) := by rw [eS_5]; exact am_up_s
  have hna_4 : S_5.2.1 = a_4 + 1 := by rw [eS_5]
  have hza_4 : S_5.2.2 = S3.2.2 + 16 := by rw [eS_5]
  obtain rfl : a_4 = g.2.2.1 + 6 := by omega
  refine am_dup d_L_law_11 rfl ?_
  refine am_cpsI [] [.ref (g.2.2.1 + 6)] d_L_law_12 cI_L_86 rfl rfl rfl (Nat.le_of_ble_eq_true rfl) (Nat.le_of_ble_eq_true rfl) (c_Minit h_7 (by omega) ⟨by omega, by omega⟩ (fun S5 hM5 hz5 hf5 => ?_))
  have hn5 : S5.2.1 = g.2.2.1 + 19 := by rw [hz5]
  have hs5 : S5.2.2 = S_5.2.2 + 7814 := by rw [hz5]
  show am_W g (d + 5) mm_L_law (15, [some (.ref g.2.2.2.2.2.1), some (.ref g.2.2.1), none, none, none, none, none, none], [.ref (g.2.2.1 + 6)]) S5 _
  refine am_astoren (L' := [some (.ref g.2.2.2.2.2.1), some (.ref g.2.2.1), some (.ref (g.2.2.1 + 6)), none, none, none, none, none]) d_L_law_15 (by decide) rfl rfl ?_
  refine am_iconst 1 d_L_law_16 (by decide) ?_
  have hf50 : ∀ q, q < g.2.2.1 + 19 → S5.1 q = S5.1 q := fun _ _ => rfl
  refine am_ti (b := nI 1) rfl ?_
  obtain ⟨a_8, ea_8⟩ : ∃ z : Nat, z = S5.2.1 := ⟨_, rfl⟩
  refine am_newL (N := 1) d_L_law_17 (by omega) (by omega) (by omega) ?_
  change am_W _ _ _ (_, _, .ref S5.2.1 :: _) (am_up S5.1 S5.2.1 (.inl (1, 1, .inr (.inl (fun _ => 0)))), S5.2.1 + 1, S5.2.2 + 1) _
  rw [← ea_8]
  obtain ⟨S_9, eS_9⟩ : ∃ z : am_S, z = (am_up S5.1 a_8 (.inl (1, 1, .inr (.inl (fun _ => 0)))), a_8 + 1, S5.2.2 + 1) := ⟨_, rfl⟩
  rw [← eS_9]
  have hf_10 : ∀ q, q < g.2.2.1 + 19 → S_9.1 q = S5.1 q := by rw [eS_9]; exact fun q hq => (am_up_n (by omega)).trans (hf50 q hq)
  have h_11 : S_9.1 a_8 = some (.inl (1, 1, .inr (.inl (fun _ => 0)))) := by rw [eS_9]; exact am_up_s
  have hna_8 : S_9.2.1 = a_8 + 1 := by rw [eS_9]
  have hza_8 : S_9.2.2 = S5.2.2 + 1 := by rw [eS_9]
  obtain rfl : a_8 = g.2.2.1 + 19 := by omega
  refine am_astoren (L' := [some (.ref g.2.2.2.2.2.1), some (.ref g.2.2.1), some (.ref (g.2.2.1 + 6)), some (.ref (g.2.2.1 + 19)), none, none, none, none]) d_L_law_19 (by decide) rfl rfl ?_
  refine am_iconst 0 d_L_law_20 (by decide) ?_
  refine am_ti (b := nI 0) rfl ?_
  refine am_istore (L' := [some (.ref g.2.2.2.2.2.1), some (.ref g.2.2.1), some (.ref (g.2.2.1 + 6)), some (.ref (g.2.2.1 + 19)), some (.int (nI 0)), none, none, none]) d_L_law_21 (by decide) rfl rfl ?_
  have hI : lw_I g S_9 lw_T0 := by
    have hX6 := lw_X (M2 := S_9.1) hX3 (fun q hq => (hf_10 q (by omega)).trans ((hf5 q hq).trans (hf_6 q hq)))
    refine ⟨⟨g.2.2.1 + 20, fun _ => 0, fun _ => 0, _, _, _, _, _, hX6, fun i hi => absurd hi (Nat.not_lt_zero i), fun i hi => absurd hi (Nat.not_lt_zero i), fun i _ hi => absurd hi (Nat.not_lt_zero i), fun i _ hi => absurd hi (Nat.not_lt_zero i), Nat.le_refl _, by omega, lw_wf0⟩, ⟨0, 0, _, _, _, _, sv_N.keep (M := S5.1) ⟨_, _, _, _, _, _, _, _, hM5, ⟨fun i hi => absurd hi (Nat.not_lt_zero i), fun _ _ => rfl, fun v hv => absurd hv (Nat.not_lt_zero v)⟩, lw_wf0⟩ (fun q _ hq => hf_10 q hq)⟩, ⟨_, h_11⟩⟩
  show am_W g (d + 5) mm_L_law (23, [some (.ref g.2.2.2.2.2.1), some (.ref g.2.2.1), some (.ref (g.2.2.1 + 6)), some (.ref (g.2.2.1 + 19)), some (.int (nI 0)), none, none, none], []) S_9 _
  exact lw_loop hn 512 0 S_9 lw_T0 (by omega) (by omega) hI (by omega) (by omega)
