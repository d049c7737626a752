/-! the class's loops over items, at what it holds -/
theorem sv_wr_congr {ln : Int32} {G G2 : Nat → Int32} {nu nu2 fr : Nat → Int64} : ∀ {n : Nat}, (∀ k, k < n → G2 k = G k) → (∀ k, k < n → nu2 k = nu k) → sv_wr ln G2 nu2 fr n = sv_wr ln G nu fr n := by
  intro n
  induction n with
  | zero => intro _ _; rfl
  | succ n ih => intro h h2; simp only [sv_wr]; rw [h n (by omega), h2 n (by omega), ih (fun k hk => h k (by omega)) (fun k hk => h2 k (by omega))]
theorem sv_sm_sh (l : Nat) (p : Nat → Int32) (x : Nat → Nat) : ∀ n, sv_sm (sv_sh l p) x (n + l) = sv_sm p (fun k => x (k + l)) n := by
  intro n
  induction n with
  | zero =>
    have key : ∀ m, m ≤ l → sv_sm (sv_sh l p) x m = 0 := by
      intro m
      induction m with
      | zero => intro _; rfl
      | succ m ih => intro h; simp only [sv_sm, sv_sh]; rw [if_pos (by omega)]; show _ + sv_sm (sv_sh l p) x m = 0; rw [ih (by omega), Int32.mul_zero, Int32.add_zero]
    rw [Nat.zero_add]
    exact key l (Nat.le_refl l)
  | succ n ih =>
    rw [show n + 1 + l = (n + l) + 1 by omega]
    simp only [sv_sm]
    rw [ih]
    congr 2
    show (if n + l < l then (0 : Int32) else p (n + l - l)) = p n
    rw [if_neg (by omega), Nat.add_sub_cancel]
/-- where a's item lies for b's: at indices of a's own -/
theorem sv_go_pl {a b : sv_A} (hg : a.go b) (h6 : ∀ k, k < a.ax → a.ex k < 2 → a.sp k = 0) (i : Nat) (hi : i < b.it) : ∃ y : Nat → Nat, (∀ k, k < a.ax → y k < a.ex k) ∧ (∀ k, k < a.ax → y k = if a.ex k = 1 then 0 else sv_ix b.ex b.ax (k + (b.ax - a.ax)) i) ∧ sv_pl b.ex (sv_sh (b.ax - a.ax) a.sp) b.ax i = sv_sm a.sp y a.ax := by
  refine ⟨fun k => if a.ex k = 1 then 0 else sv_ix b.ex b.ax (k + (b.ax - a.ax)) i, fun k hk => ?_, fun k hk => rfl, ?_⟩
  · show (if a.ex k = 1 then 0 else sv_ix b.ex b.ax (k + (b.ax - a.ax)) i) < a.ex k
    split
    · omega
    · rename_i h
      rw [(hg.2 k hk).resolve_left h]
      exact sv_ix_lt hi _ (by have := hg.1; omega)
  · rw [sv_pl_sm]
    have h1 : b.ax = a.ax + (b.ax - a.ax) := by have := hg.1; omega
    have h2 := sv_sm_sh (b.ax - a.ax) a.sp (fun k => sv_ix b.ex b.ax k i) a.ax
    rw [← h1] at h2
    rw [h2]
    have key : ∀ n, n ≤ a.ax → sv_sm a.sp (fun k => sv_ix b.ex b.ax (k + (b.ax - a.ax)) i) n = sv_sm a.sp (fun k => if a.ex k = 1 then 0 else sv_ix b.ex b.ax (k + (b.ax - a.ax)) i) n := by
      intro n
      induction n with
      | zero => intro _; rfl
      | succ n ih =>
        intro hn
        simp only [sv_sm]
        rw [ih (by omega)]
        congr 1
        by_cases h : a.ex n = 1
        · rw [h6 n (by omega) (by omega), Int32.mul_zero, Int32.mul_zero]
        · rw [if_neg h]
    exact key _ (Nat.le_refl _)
theorem sv_go_in {a b : sv_A} {sz : Nat} (hg : a.go b) (h6 : ∀ k, k < a.ax → a.ex k < 2 → a.sp k = 0) (h7 : ∀ i, i < a.it → vp_in (a.pl i) sz) (i : Nat) (hi : i < b.it) : vp_in (a.sa + sv_pl b.ex (sv_sh (b.ax - a.ax) a.sp) b.ax i) sz := by
  obtain ⟨y, h1, -, h2⟩ := sv_go_pl hg h6 i hi
  rw [h2]
  exact sv_all (Q := fun z => vp_in (a.sa + z) sz) h7 y h1
theorem sv_go_iff {a b : sv_A} {fe fe2 : Nat → Int32} (hE : ∀ k, k < a.ax → fe k = nI (a.ex k)) (hE2 : ∀ k, k < b.ax → fe2 k = nI (b.ex k)) (hO : sv_ok a.ex a.ax) (hO2 : sv_ok b.ex b.ax) : sv_go a.ax fe b.ax fe2 ↔ a.go b := by
  have e : (1 : Int32) = nI 1 := rfl
  constructor
  · rintro ⟨h1, h2⟩
    refine ⟨h1, fun k hk => ?_⟩
    have := h2 k hk
    rw [hE k hk, hE2 _ (by omega), e] at this
    exact this.imp (nI_eq (hO k hk) (by decide)).mp (nI_eq (hO k hk) (hO2 _ (by omega))).mp
  · rintro ⟨h1, h2⟩
    refine ⟨h1, fun k hk => ?_⟩
    rw [hE k hk, hE2 _ (by omega), e]
    exact (h2 k hk).imp (congrArg nI) (congrArg nI)
theorem sv_he_iff {a b : sv_A} {fe fe2 : Nat → Int32} (hE : ∀ k, k < a.ax → fe k = nI (a.ex k)) (hE2 : ∀ k, k < b.ax → fe2 k = nI (b.ex k)) (hO : sv_ok a.ex a.ax) (hO2 : sv_ok b.ex b.ax) : sv_he a.ax fe b.ax fe2 ↔ (a.ax = b.ax ∧ ∀ k, k < a.ax → a.ex k = b.ex k) := by
  constructor
  · rintro ⟨h1, h2⟩
    refine ⟨h1, fun k hk => ?_⟩
    have := h2 k hk
    rw [hE k hk, hE2 _ (by omega)] at this
    exact (nI_eq (hO k hk) (hO2 _ (by omega))).mp this
  · rintro ⟨h1, h2⟩
    refine ⟨h1, fun k hk => ?_⟩
    rw [hE k hk, hE2 _ (by omega), h2 k hk]
theorem sv_sh_self {a : sv_A} {i : Nat} : a.sa + sv_pl a.ex (sv_sh (a.ax - a.ax) a.sp) a.ax i = a.pl i := by rw [Nat.sub_self, sv_sh_0]
theorem sv_C.setS {g : am_G} {lo : Nat} {S S1 : am_S} {T : sv_T} {as av : Nat → Nat} (h : sv_C g lo S T as av) {s : Nat} (hs0 : s < T.ns) {f : Nat → Int64} (h1 : S1.1 (as s + 1) = some (.inl (1, T.sz s, .inr (.inl f)))) (hq : ∀ q, q < lo → q ≠ as s + 1 → q ≠ g.2.2.1 + 3 → S1.1 q = S.1 q) {fp : Nat → Int32} (hp : S1.1 (g.2.2.1 + 3) = some (.inl (0, 3000, .inl fp))) (hl : S1.2 = S.2) : sv_C g lo S1 (T.setS s f) as av := by
  obtain ⟨qs, qv, fp0, fn0, fm0, ⟨x0, x1, x2, x3, x4, x5⟩, hs, hv, i1, i2, hb, hlo, hw⟩ := h
  obtain ⟨c1, c2, c3, c4, c5⟩ := hs s hs0
  have hl1 : S1.2.1 = S.2.1 := by rw [hl]
  refine ⟨qs, qv, fp, fn0, fm0, ⟨(hq _ (by omega) (by omega) (by omega)).trans x0, (hq _ (by omega) (by omega) (by omega)).trans x1, (hq _ (by omega) (by omega) (by omega)).trans x2, hp, (hq _ (by omega) (by omega) (by omega)).trans x4, (hq _ (by omega) (by omega) (by omega)).trans x5⟩, fun i hi => ?_, fun i hi => ?_, i1, i2, hb, by omega, hw⟩
  · obtain ⟨a1, a2, a3, a4, a5⟩ := hs i hi
    refine ⟨a1, a2, a3, (hq _ (by omega) (am_nd a4 c5 (by simp [am_kd])) (by omega)).trans a4, ?_⟩
    show S1.1 (as i + 1) = some (.inl (1, T.sz i, .inr (.inl (if i = s then f else T.nu i))))
    by_cases e : i = s
    · rw [if_pos e, e]
      exact h1
    · rw [if_neg e]
      exact (hq _ (by omega) (fun z => e (i1 i s hi hs0 (by omega))) (by omega)).trans a5
  · obtain ⟨a1, a2, a3, a4⟩ := hv i hi
    obtain ⟨fe9, fs9, b1, b2⟩ := id a4
    exact ⟨a1, a2, a3, a4.of (hq _ (by omega) (am_nd b1.1 c5 (by simp [am_kd])) (by omega)) (hq _ (by omega) (am_nd b1.2.1 c5 (by simp [am_kd])) (by omega)) (hq _ (by omega) (am_nd b1.2.2.1 c5 (by simp [am_kd])) (by omega))⟩
set_option maxHeartbeats 4000000 in
set_option maxRecDepth 100000 in
/-- layOut -/
theorem c_layC {g : am_G} {d : Nat} {S : am_S} {lo : Nat} {T : sv_T} {as av : Nat → Nat} (hC : sv_C g lo S T as av) {j k : Nat} (hj : j < T.nv) (hk : k < T.nv) (hle : (T.vw j).ax ≤ (T.vw k).ax) {P : am_O → am_S → Prop} (hP : ∀ (S1 : am_S) (Fp : Nat → Int32), sv_C g lo S1 T as av → S1.2 = S.2 → (∀ q, q ≠ g.2.2.1 + 3 → S1.1 q = S.1 q) → S1.1 (g.2.2.1 + 3) = some (.inl (0, 3000, .inl Fp)) → (∀ i, i < (T.vw k).it → Fp i = (T.vw j).sa + sv_pl (T.vw k).ex (sv_sh ((T.vw k).ax - (T.vw j).ax) (T.vw j).sp) (T.vw k).ax i) → P (.inl none) S1) : am_W g d mm_X_layOut (0, am_ent [.ref g.2.2.1, .ref (av j), .ref (av k)] 9, []) S P := by
  obtain ⟨qs, qv, fp, fn, fm, ⟨hx, hq1, hq2, h3, h4, h5⟩, hs, hv, i1, i2, hB, hlo, hw⟩ := id hC
  have h80 := hw.2.1
  obtain ⟨b11, b21, b31, fe1, fs1, hV1, hE1, hS1⟩ := hv j hj
  obtain ⟨w11, w21, w31, w41, w51, w61, w71⟩ := hw.2.2.2 j hj
  obtain ⟨s11, s21, s31, s41, s51⟩ := hs _ w11
  obtain ⟨b12, b22, b32, fe2, fs2, hV2, hE2, hS2⟩ := hv k hk
  obtain ⟨w12, w22, w32, w42, w52, w62, w72⟩ := hw.2.2.2 k hk
  obtain ⟨s12, s22, s32, s42, s52⟩ := hs _ w12
  refine c_layOut hx h3 hV1 hV2 (T.vw k).ex hE2 w32 rfl w42 hle (fun S1 Fp g1 g2 g3 => ?_)
  have hl1 : S1.2.1 = S.2.1 := by rw [g2.1]
  refine hP S1 Fp (hC.keep (fun q _ h _ _ => g2.2 q h) g1 ((g2.2 _ (by omega)).trans h4) ((g2.2 _ (by omega)).trans h5) (by omega)) g2.1 g2.2 g1 (fun i hi => ?_)
  rw [g3 i hi]
  exact congrArg _ (sv_pl_congr (fun _ _ => rfl) (fun t ht => by simp only [sv_sh]; split; rfl; exact hS1 _ (by omega)))
set_option maxHeartbeats 4000000 in
set_option maxRecDepth 100000 in
/-- readItems -/
theorem c_readC {g : am_G} {d : Nat} {S : am_S} {lo : Nat} {T : sv_T} {as av : Nat → Nat} (hC : sv_C g lo S T as av) {j k : Nat} (hj : j < T.nv) (hk : k < T.nv) (hgo : (T.vw j).go (T.vw k)) {P : am_O → am_S → Prop} (hP : ∀ (S1 : am_S) (Fp : Nat → Int32) (Fn : Nat → Int64), sv_C g lo S1 T as av → S1.2 = S.2 → (∀ q, q ≠ g.2.2.1 + 3 → q ≠ g.2.2.1 + 4 → S1.1 q = S.1 q) → S1.1 (g.2.2.1 + 3) = some (.inl (0, 3000, .inl Fp)) → S1.1 (g.2.2.1 + 4) = some (.inl (1, 3000, .inr (.inl Fn))) → (∀ i, i < (T.vw k).it → Fn i = T.gn (T.vw j) (T.vw k) i) → P (.inl none) S1) : am_W g (d + 1) mm_X_readItems (0, am_ent [.ref g.2.2.1, .ref (av j), .ref (av k)] 4, []) S P := by
  obtain ⟨qs, qv, fp, fn, fm, ⟨hx, hq1, hq2, h3, h4, h5⟩, hs, hv, i1, i2, hB, hlo, hw⟩ := id hC
  have h80 := hw.2.1
  obtain ⟨b11, b21, b31, fe1, fs1, hV1, hE1, hS1⟩ := hv j hj
  obtain ⟨w11, w21, w31, w41, w51, w61, w71⟩ := hw.2.2.2 j hj
  obtain ⟨s11, s21, s31, s41, s51⟩ := hs _ w11
  obtain ⟨b12, b22, b32, fe2, fs2, hV2, hE2, hS2⟩ := hv k hk
  obtain ⟨w12, w22, w32, w42, w52, w62, w72⟩ := hw.2.2.2 k hk
  obtain ⟨s12, s22, s32, s42, s52⟩ := hs _ w12
  have hle := hgo.1
  have hcg : ∀ i, (T.vw j).sa + sv_pl (T.vw k).ex (sv_sh ((T.vw k).ax - (T.vw j).ax) fs1) (T.vw k).ax i = (T.vw j).sa + sv_pl (T.vw k).ex (sv_sh ((T.vw k).ax - (T.vw j).ax) (T.vw j).sp) (T.vw k).ax i := fun i => congrArg _ (sv_pl_congr (fun _ _ => rfl) (fun t ht => by simp only [sv_sh]; split; rfl; exact hS1 _ (by omega)))
  refine c_read hx h3 h4 hV1 hV2 s41 s51 (by omega) (T.vw k).ex hE2 w32 rfl w42 hle (fun t ht => by rw [hcg]; exact sv_go_in hgo w61 w71 t ht) (fun S1 Fp Fn g1 g2 g3 g4 g5 => ?_)
  have hl1 : S1.2.1 = S.2.1 := by rw [g3.1]
  refine hP S1 Fp Fn (hC.keep (fun q _ h h' _ => g3.2 q h h') g1 g2 ((g3.2 _ (by omega) (by omega)).trans h5) (by omega)) g3.1 g3.2 g1 g2 (fun i hi => ?_)
  rw [g5 i hi, hcg]
  rfl
set_option maxHeartbeats 4000000 in
set_option maxRecDepth 100000 in
/-- writeItems -/
theorem c_writeC {g : am_G} {d : Nat} {S : am_S} {lo : Nat} {T : sv_T} {as av : Nat → Nat} (hC : sv_C g lo S T as av) {k : Nat} (hk : k < T.nv) {Fn f : Nat → Int64} (hn : S.1 (g.2.2.1 + 4) = some (.inl (1, 3000, .inr (.inl Fn)))) (hf : ∀ i, i < (T.vw k).it → Fn i = f i) {P : am_O → am_S → Prop} (hP : ∀ (S1 : am_S), sv_C g lo S1 (T.wr (T.vw k) f).2.2 as av → S1.2 = S.2 → (∀ q, q ≠ g.2.2.1 + 3 → q ≠ as (T.vw k).st + 1 → S1.1 q = S.1 q) → P (.inl (some (T.wr (T.vw k) f).2.1)) S1) : am_W g (d + 1) mm_X_writeItems (0, am_ent [.ref g.2.2.1, .ref (av k)] 6, []) S P := by
  obtain ⟨qs, qv, fp, fn, fm, ⟨hx, hq1, hq2, h3, h4, h5⟩, hs, hv, i1, i2, hB, hlo, hw⟩ := id hC
  have h80 := hw.2.1
  obtain ⟨b12, b22, b32, fe2, fs2, hV2, hE2, hS2⟩ := hv k hk
  obtain ⟨w12, w22, w32, w42, w52, w62, w72⟩ := hw.2.2.2 k hk
  obtain ⟨s12, s22, s32, s42, s52⟩ := hs _ w12
  have hcg : ∀ i, (T.vw k).sa + sv_pl (T.vw k).ex fs2 (T.vw k).ax i = (T.vw k).pl i := fun i => congrArg _ (sv_pl_congr (fun _ _ => rfl) hS2)
  have hz := hw.2.2.1 _ w12
  refine c_write hx h3 hn hV2 s42 s52 (by omega) (by omega) (T.vw k).ex hE2 w32 rfl w42 (fun t ht => by rw [hcg]; exact w72 t ht) (fun S1 Fp g1 g2 g3 g4 => ?_)
  have e : sv_wr (T.ln (T.vw k).st) (fun i => (T.vw k).sa + sv_pl (T.vw k).ex fs2 (T.vw k).ax i) Fn (T.nu (T.vw k).st) (T.vw k).it = sv_wr (T.ln (T.vw k).st) (T.vw k).pl f (T.nu (T.vw k).st) (T.vw k).it := sv_wr_congr (fun i _ => hcg i) hf
  rw [e] at g2 ⊢
  exact hP S1 (hC.setS w12 g2 (fun q _ h1 h2 => g3.2 q h2 h1) g1 g3.1) g3.1 g3.2
