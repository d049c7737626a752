/-! the constructors -/
set_option maxHeartbeats 4000000 in
set_option maxRecDepth 100000 in
/-- StrideViews() -/
theorem c_Xinit {g : am_G} {d : Nat} {S : am_S} (hx : S.1 g.2.2.1 = some (.inr (2, [.null, .null, .int 0, .int 0, .null, .null, .null]))) (hS : S.2.1 = g.2.2.1 + 1) (hr : sv_R g S 5 6392) {P : am_O → am_S → Prop} (hP : ∀ S1 : am_S, sv_X g S1.1 0 0 (fun _ => none) (fun _ => none) (fun _ => 0) (fun _ => 0) (fun _ => 0) → S1.2 = (g.2.2.1 + 6, S.2.2 + 6392) → (∀ q, q < g.2.2.1 → S1.1 q = S.1 q) → P (.inl none) S1) : am_W g d mm_X_init (0, am_ent [.ref g.2.2.1] 1, []) S P := by
  obtain ⟨hr1, hr2⟩ := hr
  show am_W g d mm_X_init (0, [some (.ref g.2.2.1)], []) S _
  have hf0 : ∀ q, q < g.2.2.1 → S.1 q = S.1 q := fun _ _ => rfl
  refine am_aloadn d_X_init_0 rfl ?_
  refine am_obj d_X_init_1 (am_in 17 (by decide +kernel) rfl) (am_in 18 (by decide +kernel) rfl) (am_in 19 (by decide +kernel) rfl) (Nat.le_of_ble_eq_true rfl) ?_
  refine am_aloadn d_X_init_4 rfl ?_
  refine am_bipush 12 d_X_init_5 (by decide) ?_
  obtain ⟨a_1, ea_1⟩ : ∃ z : Nat, z = S.2.1 := ⟨_, rfl⟩
  refine am_newq (t := 3) (N' := 12) d_X_init_7 (am_in 20 (by decide +kernel) rfl) (by decide) rfl (by decide) rfl (by decide) (by omega) (by omega) ?_
  change am_W _ _ _ (_, _, .ref S.2.1 :: _) (am_up S.1 S.2.1 (.inl (3, 12, .inr (.inr (.inr (.inr (fun _ => none)))))), S.2.1 + 1, S.2.2 + 12) _
  rw [← ea_1]
  obtain ⟨S_2, eS_2⟩ : ∃ z : am_S, z = (am_up S.1 a_1 (.inl (3, 12, .inr (.inr (.inr (.inr (fun _ => none)))))), a_1 + 1, S.2.2 + 12) := ⟨_, rfl⟩
  rw [← eS_2]
  have h_3 : S_2.1 g.2.2.1 = some (.inr (2, [.null, .null, .int 0, .int 0, .null, .null, .null])) := by rw [eS_2]; exact (am_up_n (by omega)).trans hx
  have hf_4 : ∀ q, q < g.2.2.1 → S_2.1 q = S.1 q := by rw [eS_2]; exact fun q hq => (am_up_n (by omega)).trans (hf0 q hq)
  have h_5 : S_2.1 a_1 = some (.inl (3, 12, .inr (.inr (.inr (.inr (fun _ => none)))))) := by rw [eS_2]; exact am_up_s
  have hna_1 : S_2.2.1 = a_1 + 1 := by rw [eS_2]
  have hza_1 : S_2.2.2 = S.2.2 + 12 := by rw [eS_2]
  refine am_putF d_X_init_10 fp_X_11 rfl h_3 rfl rfl (Nat.le_of_ble_eq_true rfl) ?_
  obtain ⟨S_6, eS_6⟩ : ∃ z : am_S, z = (am_up S_2.1 g.2.2.1 (.inr (2, [.ref a_1, .null, .int 0, .int 0, .null, .null, .null])), S_2.2) := ⟨_, rfl⟩
  change am_W _ _ _ _ (am_up S_2.1 g.2.2.1 (.inr (2, [.ref a_1, .null, .int 0, .int 0, .null, .null, .null])), S_2.2) _
  rw [← eS_6]
  have h_7 : S_6.1 a_1 = some (.inl (3, 12, .inr (.inr (.inr (.inr (fun _ => none)))))) := by rw [eS_6]; exact (am_up_n (by omega)).trans h_5
  have hf_8 : ∀ q, q < g.2.2.1 → S_6.1 q = S.1 q := by rw [eS_6]; exact fun q hq => (am_up_n (by omega)).trans (hf_4 q hq)
  have h_9 : S_6.1 g.2.2.1 = some (.inr (2, [.ref a_1, .null, .int 0, .int 0, .null, .null, .null])) := by rw [eS_6]; exact am_up_s
  have hnS_6 : S_6.2.1 = S_2.2.1 := by rw [eS_6]
  have hzS_6 : S_6.2.2 = S_2.2.2 := by rw [eS_6]
  refine am_aloadn d_X_init_13 rfl ?_
  refine am_bipush 80 d_X_init_14 (by decide) ?_
  obtain ⟨a_10, ea_10⟩ : ∃ z : Nat, z = S_6.2.1 := ⟨_, rfl⟩
  refine am_newq (t := 4) (N' := 80) d_X_init_16 (am_in 22 (by decide +kernel) rfl) (by decide) rfl (by decide) rfl (by decide) (by omega) (by omega) ?_
  change am_W _ _ _ (_, _, .ref S_6.2.1 :: _) (am_up S_6.1 S_6.2.1 (.inl (4, 80, .inr (.inr (.inr (.inr (fun _ => none)))))), S_6.2.1 + 1, S_6.2.2 + 80) _
  rw [← ea_10]
  obtain ⟨S_11, eS_11⟩ : ∃ z : am_S, z = (am_up S_6.1 a_10 (.inl (4, 80, .inr (.inr (.inr (.inr (fun _ => none)))))), a_10 + 1, S_6.2.2 + 80) := ⟨_, rfl⟩
  rw [← eS_11]
  have h_12 : S_11.1 g.2.2.1 = some (.inr (2, [.ref a_1, .null, .int 0, .int 0, .null, .null, .null])) := by rw [eS_11]; exact (am_up_n (by omega)).trans h_9
  have h_13 : S_11.1 a_1 = some (.inl (3, 12, .inr (.inr (.inr (.inr (fun _ => none)))))) := by rw [eS_11]; exact (am_up_n (by omega)).trans h_7
  have hf_14 : ∀ q, q < g.2.2.1 → S_11.1 q = S.1 q := by rw [eS_11]; exact fun q hq => (am_up_n (by omega)).trans (hf_8 q hq)
  have h_15 : S_11.1 a_10 = some (.inl (4, 80, .inr (.inr (.inr (.inr (fun _ => none)))))) := by rw [eS_11]; exact am_up_s
  have hna_10 : S_11.2.1 = a_10 + 1 := by rw [eS_11]
  have hza_10 : S_11.2.2 = S_6.2.2 + 80 := by rw [eS_11]
  refine am_putF d_X_init_19 fp_X_17 rfl h_12 rfl rfl (Nat.le_of_ble_eq_true rfl) ?_
  obtain ⟨S_16, eS_16⟩ : ∃ z : am_S, z = (am_up S_11.1 g.2.2.1 (.inr (2, [.ref a_1, .ref a_10, .int 0, .int 0, .null, .null, .null])), S_11.2) := ⟨_, rfl⟩
  change am_W _ _ _ _ (am_up S_11.1 g.2.2.1 (.inr (2, [.ref a_1, .ref a_10, .int 0, .int 0, .null, .null, .null])), S_11.2) _
  rw [← eS_16]
  have h_17 : S_16.1 a_1 = some (.inl (3, 12, .inr (.inr (.inr (.inr (fun _ => none)))))) := by rw [eS_16]; exact (am_up_n (by omega)).trans h_13
  have h_18 : S_16.1 a_10 = some (.inl (4, 80, .inr (.inr (.inr (.inr (fun _ => none)))))) := by rw [eS_16]; exact (am_up_n (by omega)).trans h_15
  have hf_19 : ∀ q, q < g.2.2.1 → S_16.1 q = S.1 q := by rw [eS_16]; exact fun q hq => (am_up_n (by omega)).trans (hf_14 q hq)
  have h_20 : S_16.1 g.2.2.1 = some (.inr (2, [.ref a_1, .ref a_10, .int 0, .int 0, .null, .null, .null])) := by rw [eS_16]; exact am_up_s
  have hnS_16 : S_16.2.1 = S_11.2.1 := by rw [eS_16]
  have hzS_16 : S_16.2.2 = S_11.2.2 := by rw [eS_16]
  refine am_aloadn d_X_init_22 rfl ?_
  refine am_sipush 3000 d_X_init_23 (by decide) ?_
  refine am_ti (b := nI 3000) rfl ?_
  obtain ⟨a_21, ea_21⟩ : ∃ z : Nat, z = S_16.2.1 := ⟨_, rfl⟩
  refine am_newI (N := 3000) d_X_init_26 (by omega) (by omega) (by omega) ?_
  change am_W _ _ _ (_, _, .ref S_16.2.1 :: _) (am_up S_16.1 S_16.2.1 (.inl (0, 3000, .inl (fun _ => 0))), S_16.2.1 + 1, S_16.2.2 + 3000) _
  rw [← ea_21]
  obtain ⟨S_22, eS_22⟩ : ∃ z : am_S, z = (am_up S_16.1 a_21 (.inl (0, 3000, .inl (fun _ => 0))), a_21 + 1, S_16.2.2 + 3000) := ⟨_, rfl⟩
  rw [← eS_22]
  have h_23 : S_22.1 g.2.2.1 = some (.inr (2, [.ref a_1, .ref a_10, .int 0, .int 0, .null, .null, .null])) := by rw [eS_22]; exact (am_up_n (by omega)).trans h_20
  have h_24 : S_22.1 a_1 = some (.inl (3, 12, .inr (.inr (.inr (.inr (fun _ => none)))))) := by rw [eS_22]; exact (am_up_n (by omega)).trans h_17
  have h_25 : S_22.1 a_10 = some (.inl (4, 80, .inr (.inr (.inr (.inr (fun _ => none)))))) := by rw [eS_22]; exact (am_up_n (by omega)).trans h_18
  have hf_26 : ∀ q, q < g.2.2.1 → S_22.1 q = S.1 q := by rw [eS_22]; exact fun q hq => (am_up_n (by omega)).trans (hf_19 q hq)
  have h_27 : S_22.1 a_21 = some (.inl (0, 3000, .inl (fun _ => 0))) := by rw [eS_22]; exact am_up_s
  have hna_21 : S_22.2.1 = a_21 + 1 := by rw [eS_22]
  have hza_21 : S_22.2.2 = S_16.2.2 + 3000 := by rw [eS_22]
  refine am_putF d_X_init_28 fp_X_21 rfl h_23 rfl rfl (Nat.le_of_ble_eq_true rfl) ?_
  obtain ⟨S_28, eS_28⟩ : ∃ z : am_S, z = (am_up S_22.1 g.2.2.1 (.inr (2, [.ref a_1, .ref a_10, .int 0, .int 0, .ref a_21, .null, .null])), S_22.2) := ⟨_, rfl⟩
  change am_W _ _ _ _ (am_up S_22.1 g.2.2.1 (.inr (2, [.ref a_1, .ref a_10, .int 0, .int 0, .ref a_21, .null, .null])), S_22.2) _
  rw [← eS_28]
  have h_29 : S_28.1 a_1 = some (.inl (3, 12, .inr (.inr (.inr (.inr (fun _ => none)))))) := by rw [eS_28]; exact (am_up_n (by omega)).trans h_24
  have h_30 : S_28.1 a_10 = some (.inl (4, 80, .inr (.inr (.inr (.inr (fun _ => none)))))) := by rw [eS_28]; exact (am_up_n (by omega)).trans h_25
  have h_31 : S_28.1 a_21 = some (.inl (0, 3000, .inl (fun _ => 0))) := by rw [eS_28]; exact (am_up_n (by omega)).trans h_27
  have hf_32 : ∀ q, q < g.2.2.1 → S_28.1 q = S.1 q := by rw [eS_28]; exact fun q hq => (am_up_n (by omega)).trans (hf_26 q hq)
  have h_33 : S_28.1 g.2.2.1 = some (.inr (2, [.ref a_1, .ref a_10, .int 0, .int 0, .ref a_21, .null, .null])) := by rw [eS_28]; exact am_up_s
  have hnS_28 : S_28.2.1 = S_22.2.1 := by rw [eS_28]
  have hzS_28 : S_28.2.2 = S_22.2.2 := by rw [eS_28]
  refine am_aloadn d_X_init_31 rfl ?_
  refine am_sipush 3000 d_X_init_32 (by decide) ?_
  refine am_ti (b := nI 3000) rfl ?_
  obtain ⟨a_34, ea_34⟩ : ∃ z : Nat, z = S_28.2.1 := ⟨_, rfl⟩
  refine am_newL (N := 3000) d_X_init_35 (by omega) (by omega) (by omega) ?_
  change am_W _ _ _ (_, _, .ref S_28.2.1 :: _) (am_up S_28.1 S_28.2.1 (.inl (1, 3000, .inr (.inl (fun _ => 0)))), S_28.2.1 + 1, S_28.2.2 + 3000) _
  rw [← ea_34]
  obtain ⟨S_35, eS_35⟩ : ∃ z : am_S, z = (am_up S_28.1 a_34 (.inl (1, 3000, .inr (.inl (fun _ => 0)))), a_34 + 1, S_28.2.2 + 3000) := ⟨_, rfl⟩
  rw [← eS_35]
  have h_36 : S_35.1 g.2.2.1 = some (.inr (2, [.ref a_1, .ref a_10, .int 0, .int 0, .ref a_21, .null, .null])) := by rw [eS_35]; exact (am_up_n (by omega)).trans h_33
  have h_37 : S_35.1 a_1 = some (.inl (3, 12, .inr (.inr (.inr (.inr (fun _ => none)))))) := by rw [eS_35]; exact (am_up_n (by omega)).trans h_29
  have h_38 : S_35.1 a_10 = some (.inl (4, 80, .inr (.inr (.inr (.inr (fun _ => none)))))) := by rw [eS_35]; exact (am_up_n (by omega)).trans h_30
  have h_39 : S_35.1 a_21 = some (.inl (0, 3000, .inl (fun _ => 0))) := by rw [eS_35]; exact (am_up_n (by omega)).trans h_31
  have hf_40 : ∀ q, q < g.2.2.1 → S_35.1 q = S.1 q := by rw [eS_35]; exact fun q hq => (am_up_n (by omega)).trans (hf_32 q hq)
  have h_41 : S_35.1 a_34 = some (.inl (1, 3000, .inr (.inl (fun _ => 0)))) := by rw [eS_35]; exact am_up_s
  have hna_34 : S_35.2.1 = a_34 + 1 := by rw [eS_35]
  have hza_34 : S_35.2.2 = S_28.2.2 + 3000 := by rw [eS_35]
  refine am_putF d_X_init_37 fp_X_25 rfl h_36 rfl rfl (Nat.le_of_ble_eq_true rfl) ?_
  obtain ⟨S_42, eS_42⟩ : ∃ z : am_S, z = (am_up S_35.1 g.2.2.1 (.inr (2, [.ref a_1, .ref a_10, .int 0, .int 0, .ref a_21, .ref a_34, .null])), S_35.2) := ⟨_, rfl⟩
  change am_W _ _ _ _ (am_up S_35.1 g.2.2.1 (.inr (2, [.ref a_1, .ref a_10, .int 0, .int 0, .ref a_21, .ref a_34, .null])), S_35.2) _
  rw [← eS_42]
  have h_43 : S_42.1 a_1 = some (.inl (3, 12, .inr (.inr (.inr (.inr (fun _ => none)))))) := by rw [eS_42]; exact (am_up_n (by omega)).trans h_37
  have h_44 : S_42.1 a_10 = some (.inl (4, 80, .inr (.inr (.inr (.inr (fun _ => none)))))) := by rw [eS_42]; exact (am_up_n (by omega)).trans h_38
  have h_45 : S_42.1 a_21 = some (.inl (0, 3000, .inl (fun _ => 0))) := by rw [eS_42]; exact (am_up_n (by omega)).trans h_39
  have h_46 : S_42.1 a_34 = some (.inl (1, 3000, .inr (.inl (fun _ => 0)))) := by rw [eS_42]; exact (am_up_n (by omega)).trans h_41
  have hf_47 : ∀ q, q < g.2.2.1 → S_42.1 q = S.1 q := by rw [eS_42]; exact fun q hq => (am_up_n (by omega)).trans (hf_40 q hq)
  have h_48 : S_42.1 g.2.2.1 = some (.inr (2, [.ref a_1, .ref a_10, .int 0, .int 0, .ref a_21, .ref a_34, .null])) := by rw [eS_42]; exact am_up_s
  have hnS_42 : S_42.2.1 = S_35.2.1 := by rw [eS_42]
  have hzS_42 : S_42.2.2 = S_35.2.2 := by rw [eS_42]
  refine am_aloadn d_X_init_40 rfl ?_
  refine am_sipush 300 d_X_init_41 (by decide) ?_
  refine am_ti (b := nI 300) rfl ?_
  obtain ⟨a_49, ea_49⟩ : ∃ z : Nat, z = S_42.2.1 := ⟨_, rfl⟩
  refine am_newZ (N := 300) d_X_init_44 (by omega) (by omega) (by omega) ?_
  change am_W _ _ _ (_, _, .ref S_42.2.1 :: _) (am_up S_42.1 S_42.2.1 (.inl (2, 300, .inl (fun _ => 0))), S_42.2.1 + 1, S_42.2.2 + 300) _
  rw [← ea_49]
  obtain ⟨S_50, eS_50⟩ : ∃ z : am_S, z = (am_up S_42.1 a_49 (.inl (2, 300, .inl (fun _ => 0))), a_49 + 1, S_42.2.2 + 300) := ⟨_, rfl⟩
  rw [← eS_50]
  have h_51 : S_50.1 g.2.2.1 = some (.inr (2, [.ref a_1, .ref a_10, .int 0, .int 0, .ref a_21, .ref a_34, .null])) := by rw [eS_50]; exact (am_up_n (by omega)).trans h_48
  have h_52 : S_50.1 a_1 = some (.inl (3, 12, .inr (.inr (.inr (.inr (fun _ => none)))))) := by rw [eS_50]; exact (am_up_n (by omega)).trans h_43
  have h_53 : S_50.1 a_10 = some (.inl (4, 80, .inr (.inr (.inr (.inr (fun _ => none)))))) := by rw [eS_50]; exact (am_up_n (by omega)).trans h_44
  have h_54 : S_50.1 a_21 = some (.inl (0, 3000, .inl (fun _ => 0))) := by rw [eS_50]; exact (am_up_n (by omega)).trans h_45
  have h_55 : S_50.1 a_34 = some (.inl (1, 3000, .inr (.inl (fun _ => 0)))) := by rw [eS_50]; exact (am_up_n (by omega)).trans h_46
  have hf_56 : ∀ q, q < g.2.2.1 → S_50.1 q = S.1 q := by rw [eS_50]; exact fun q hq => (am_up_n (by omega)).trans (hf_47 q hq)
  have h_57 : S_50.1 a_49 = some (.inl (2, 300, .inl (fun _ => 0))) := by rw [eS_50]; exact am_up_s
  have hna_49 : S_50.2.1 = a_49 + 1 := by rw [eS_50]
  have hza_49 : S_50.2.2 = S_42.2.2 + 300 := by rw [eS_50]
  refine am_putF d_X_init_46 fp_X_29 rfl h_51 rfl rfl (Nat.le_of_ble_eq_true rfl) ?_
  obtain ⟨S_58, eS_58⟩ : ∃ z : am_S, z = (am_up S_50.1 g.2.2.1 (.inr (2, [.ref a_1, .ref a_10, .int 0, .int 0, .ref a_21, .ref a_34, .ref a_49])), S_50.2) := ⟨_, rfl⟩
  change am_W _ _ _ _ (am_up S_50.1 g.2.2.1 (.inr (2, [.ref a_1, .ref a_10, .int 0, .int 0, .ref a_21, .ref a_34, .ref a_49])), S_50.2) _
  rw [← eS_58]
  have h_59 : S_58.1 a_1 = some (.inl (3, 12, .inr (.inr (.inr (.inr (fun _ => none)))))) := by rw [eS_58]; exact (am_up_n (by omega)).trans h_52
  have h_60 : S_58.1 a_10 = some (.inl (4, 80, .inr (.inr (.inr (.inr (fun _ => none)))))) := by rw [eS_58]; exact (am_up_n (by omega)).trans h_53
  have h_61 : S_58.1 a_21 = some (.inl (0, 3000, .inl (fun _ => 0))) := by rw [eS_58]; exact (am_up_n (by omega)).trans h_54
  have h_62 : S_58.1 a_34 = some (.inl (1, 3000, .inr (.inl (fun _ => 0)))) := by rw [eS_58]; exact (am_up_n (by omega)).trans h_55
  have h_63 : S_58.1 a_49 = some (.inl (2, 300, .inl (fun _ => 0))) := by rw [eS_58]; exact (am_up_n (by omega)).trans h_57
  have hf_64 : ∀ q, q < g.2.2.1 → S_58.1 q = S.1 q := by rw [eS_58]; exact fun q hq => (am_up_n (by omega)).trans (hf_56 q hq)
  have h_65 : S_58.1 g.2.2.1 = some (.inr (2, [.ref a_1, .ref a_10, .int 0, .int 0, .ref a_21, .ref a_34, .ref a_49])) := by rw [eS_58]; exact am_up_s
  have hnS_58 : S_58.2.1 = S_50.2.1 := by rw [eS_58]
  have hzS_58 : S_58.2.2 = S_50.2.2 := by rw [eS_58]
  refine am_aloadn d_X_init_49 rfl ?_
  refine am_iconst 0 d_X_init_50 (by decide) ?_
  refine am_put d_X_init_51 fp_X_33 h_65 rfl rfl (Nat.le_of_ble_eq_true rfl) ?_
  obtain ⟨S_66, eS_66⟩ : ∃ z : am_S, z = (am_up S_58.1 g.2.2.1 (.inr (2, [.ref a_1, .ref a_10, .int 0, .int 0, .ref a_21, .ref a_34, .ref a_49])), S_58.2) := ⟨_, rfl⟩
  change am_W _ _ _ _ (am_up S_58.1 g.2.2.1 (.inr (2, [.ref a_1, .ref a_10, .int 0, .int 0, .ref a_21, .ref a_34, .ref a_49])), S_58.2) _
  rw [← eS_66]
  have h_67 : S_66.1 a_1 = some (.inl (3, 12, .inr (.inr (.inr (.inr (fun _ => none)))))) := by rw [eS_66]; exact (am_up_n (by omega)).trans h_59
  have h_68 : S_66.1 a_10 = some (.inl (4, 80, .inr (.inr (.inr (.inr (fun _ => none)))))) := by rw [eS_66]; exact (am_up_n (by omega)).trans h_60
  have h_69 : S_66.1 a_21 = some (.inl (0, 3000, .inl (fun _ => 0))) := by rw [eS_66]; exact (am_up_n (by omega)).trans h_61
  have h_70 : S_66.1 a_34 = some (.inl (1, 3000, .inr (.inl (fun _ => 0)))) := by rw [eS_66]; exact (am_up_n (by omega)).trans h_62
  have h_71 : S_66.1 a_49 = some (.inl (2, 300, .inl (fun _ => 0))) := by rw [eS_66]; exact (am_up_n (by omega)).trans h_63
  have hf_72 : ∀ q, q < g.2.2.1 → S_66.1 q = S.1 q := by rw [eS_66]; exact fun q hq => (am_up_n (by omega)).trans (hf_64 q hq)
  have h_73 : S_66.1 g.2.2.1 = some (.inr (2, [.ref a_1, .ref a_10, .int 0, .int 0, .ref a_21, .ref a_34, .ref a_49])) := by rw [eS_66]; exact am_up_s
  have hnS_66 : S_66.2.1 = S_58.2.1 := by rw [eS_66]
  have hzS_66 : S_66.2.2 = S_58.2.2 := by rw [eS_66]
  refine am_aloadn d_X_init_54 rfl ?_
  refine am_iconst 0 d_X_init_55 (by decide) ?_
  refine am_put d_X_init_56 fp_X_37 h_73 rfl rfl (Nat.le_of_ble_eq_true rfl) ?_
  obtain ⟨S_74, eS_74⟩ : ∃ z : am_S, z = (am_up S_66.1 g.2.2.1 (.inr (2, [.ref a_1, .ref a_10, .int 0, .int 0, .ref a_21, .ref a_34, .ref a_49])), S_66.2) := ⟨_, rfl⟩
  change am_W _ _ _ _ (am_up S_66.1 g.2.2.1 (.inr (2, [.ref a_1, .ref a_10, .int 0, .int 0, .ref a_21, .ref a_34, .ref a_49])), S_66.2) _
  rw [← eS_74]
  have h_75 : S_74.1 a_1 = some (.inl (3, 12, .inr (.inr (.inr (.inr (fun _ => none)))))) := by rw [eS_74]; exact (am_up_n (by omega)).trans h_67
  have h_76 : S_74.1 a_10 = some (.inl (4, 80, .inr (.inr (.inr (.inr (fun _ => none)))))) := by rw [eS_74]; exact (am_up_n (by omega)).trans h_68
  have h_77 : S_74.1 a_21 = some (.inl (0, 3000, .inl (fun _ => 0))) := by rw [eS_74]; exact (am_up_n (by omega)).trans h_69
  have h_78 : S_74.1 a_34 = some (.inl (1, 3000, .inr (.inl (fun _ => 0)))) := by rw [eS_74]; exact (am_up_n (by omega)).trans h_70
  have h_79 : S_74.1 a_49 = some (.inl (2, 300, .inl (fun _ => 0))) := by rw [eS_74]; exact (am_up_n (by omega)).trans h_71
  have hf_80 : ∀ q, q < g.2.2.1 → S_74.1 q = S.1 q := by rw [eS_74]; exact fun q hq => (am_up_n (by omega)).trans (hf_72 q hq)
  have h_81 : S_74.1 g.2.2.1 = some (.inr (2, [.ref a_1, .ref a_10, .int 0, .int 0, .ref a_21, .ref a_34, .ref a_49])) := by rw [eS_74]; exact am_up_s
  have hnS_74 : S_74.2.1 = S_66.2.1 := by rw [eS_74]
  have hzS_74 : S_74.2.2 = S_66.2.2 := by rw [eS_74]
  obtain rfl : a_1 = g.2.2.1 + 1 := by omega
  obtain rfl : a_10 = g.2.2.1 + 2 := by omega
  obtain rfl : a_21 = g.2.2.1 + 3 := by omega
  obtain rfl : a_34 = g.2.2.1 + 4 := by omega
  obtain rfl : a_49 = g.2.2.1 + 5 := by omega
  exact am_vret d_X_init_59 rfl (hP S_74 ⟨h_81, h_75, h_76, h_77, h_78, h_79⟩ (Prod.ext (by show S_74.2.1 = g.2.2.1 + 6; omega) (by show S_74.2.2 = S.2.2 + 6392; omega)) hf_80)
set_option maxHeartbeats 4000000 in
set_option maxRecDepth 100000 in
/-- StrideViewsModel() -/
theorem c_Minit {g : am_G} {d : Nat} {S : am_S} (hx : S.1 (g.2.2.1 + 6) = some (.inr (3, [.int 0, .int 0, .null, .null, .null, .int 0, .null, .null, .null, .null, .null, .null, .null, .int 0, .null, .null]))) (hS : S.2.1 = g.2.2.1 + 7) (hr : sv_R g S 12 7814) {P : am_O → am_S → Prop} (hP : ∀ S1 : am_S, sv_MM g S1.1 0 0 0 0 (fun _ => 0) (fun _ => 0) (fun _ => 0) (fun _ => 0) (fun _ => 0) (fun _ => 0) (fun _ => 0) (fun _ => 0) (fun _ => 0) (fun _ => 0) (fun _ => 0) (fun _ => 0) → S1.2 = (g.2.2.1 + 19, S.2.2 + 7814) → (∀ q, q < g.2.2.1 + 6 → S1.1 q = S.1 q) → P (.inl none) S1) : am_W g d mm_M_init (0, am_ent [.ref (g.2.2.1 + 6)] 1, []) S P := by
  obtain ⟨hr1, hr2⟩ := hr
  show am_W g d mm_M_init (0, [some (.ref (g.2.2.1 + 6))], []) S _
  have hf0 : ∀ q, q < g.2.2.1 + 6 → S.1 q = S.1 q := fun _ _ => rfl
  refine am_aloadn d_M_init_0 rfl ?_
  refine am_obj d_M_init_1 (am_in 526 (by decide +kernel) rfl) (am_in 18 (by decide +kernel) rfl) (am_in 19 (by decide +kernel) rfl) (Nat.le_of_ble_eq_true rfl) ?_
  refine am_aloadn d_M_init_4 rfl ?_
  refine am_bipush 12 d_M_init_5 (by decide) ?_
  refine am_ti (b := nI 12) rfl ?_
  obtain ⟨a_1, ea_1⟩ : ∃ z : Nat, z = S.2.1 := ⟨_, rfl⟩
  refine am_newI (N := 12) d_M_init_7 (by omega) (by omega) (by omega) ?_
  change am_W _ _ _ (_, _, .ref S.2.1 :: _) (am_up S.1 S.2.1 (.inl (0, 12, .inl (fun _ => 0))), S.2.1 + 1, S.2.2 + 12) _
  rw [← ea_1]
  obtain ⟨S_2, eS_2⟩ : ∃ z : am_S, z = (am_up S.1 a_1 (.inl (0, 12, .inl (fun _ => 0))), a_1 + 1, S.2.2 + 12) := ⟨_, rfl⟩
  rw [← eS_2]
  have h_3 : S_2.1 (g.2.2.1 + 6) = some (.inr (3, [.int 0, .int 0, .null, .null, .null, .int 0, .null, .null, .null, .null, .null, .null, .null, .int 0, .null, .null])) := by rw [eS_2]; exact (am_up_n (by omega)).trans hx
  have hf_4 : ∀ q, q < g.2.2.1 + 6 → S_2.1 q = S.1 q := by rw [eS_2]; exact fun q hq => (am_up_n (by omega)).trans (hf0 q hq)
  have h_5 : S_2.1 a_1 = some (.inl (0, 12, .inl (fun _ => 0))) := by rw [eS_2]; exact am_up_s
  have hna_1 : S_2.2.1 = a_1 + 1 := by rw [eS_2]
  have hza_1 : S_2.2.2 = S.2.2 + 12 := by rw [eS_2]
  refine am_putF d_M_init_9 fp_M_7 rfl h_3 rfl rfl (Nat.le_of_ble_eq_true rfl) ?_
  obtain ⟨S_6, eS_6⟩ : ∃ z : am_S, z = (am_up S_2.1 (g.2.2.1 + 6) (.inr (3, [.int 0, .int 0, .ref a_1, .null, .null, .int 0, .null, .null, .null, .null, .null, .null, .null, .int 0, .null, .null])), S_2.2) := ⟨_, rfl⟩
  change am_W _ _ _ _ (am_up S_2.1 (g.2.2.1 + 6) (.inr (3, [.int 0, .int 0, .ref a_1, .null, .null, .int 0, .null, .null, .null, .null, .null, .null, .null, .int 0, .null, .null])), S_2.2) _
  rw [← eS_6]
  have h_7 : S_6.1 a_1 = some (.inl (0, 12, .inl (fun _ => 0))) := by rw [eS_6]; exact (am_up_n (by omega)).trans h_5
  have hf_8 : ∀ q, q < g.2.2.1 + 6 → S_6.1 q = S.1 q := by rw [eS_6]; exact fun q hq => (am_up_n (by omega)).trans (hf_4 q hq)
  have h_9 : S_6.1 (g.2.2.1 + 6) = some (.inr (3, [.int 0, .int 0, .ref a_1, .null, .null, .int 0, .null, .null, .null, .null, .null, .null, .null, .int 0, .null, .null])) := by rw [eS_6]; exact am_up_s
  have hnS_6 : S_6.2.1 = S_2.2.1 := by rw [eS_6]
  have hzS_6 : S_6.2.2 = S_2.2.2 := by rw [eS_6]
  refine am_aloadn d_M_init_12 rfl ?_
  refine am_bipush 12 d_M_init_13 (by decide) ?_
  refine am_ti (b := nI 12) rfl ?_
  obtain ⟨a_10, ea_10⟩ : ∃ z : Nat, z = S_6.2.1 := ⟨_, rfl⟩
  refine am_newI (N := 12) d_M_init_15 (by omega) (by omega) (by omega) ?_
  change am_W _ _ _ (_, _, .ref S_6.2.1 :: _) (am_up S_6.1 S_6.2.1 (.inl (0, 12, .inl (fun _ => 0))), S_6.2.1 + 1, S_6.2.2 + 12) _
  rw [← ea_10]
  obtain ⟨S_11, eS_11⟩ : ∃ z : am_S, z = (am_up S_6.1 a_10 (.inl (0, 12, .inl (fun _ => 0))), a_10 + 1, S_6.2.2 + 12) := ⟨_, rfl⟩
  rw [← eS_11]
  have h_12 : S_11.1 (g.2.2.1 + 6) = some (.inr (3, [.int 0, .int 0, .ref a_1, .null, .null, .int 0, .null, .null, .null, .null, .null, .null, .null, .int 0, .null, .null])) := by rw [eS_11]; exact (am_up_n (by omega)).trans h_9
  have h_13 : S_11.1 a_1 = some (.inl (0, 12, .inl (fun _ => 0))) := by rw [eS_11]; exact (am_up_n (by omega)).trans h_7
  have hf_14 : ∀ q, q < g.2.2.1 + 6 → S_11.1 q = S.1 q := by rw [eS_11]; exact fun q hq => (am_up_n (by omega)).trans (hf_8 q hq)
  have h_15 : S_11.1 a_10 = some (.inl (0, 12, .inl (fun _ => 0))) := by rw [eS_11]; exact am_up_s
  have hna_10 : S_11.2.1 = a_10 + 1 := by rw [eS_11]
  have hza_10 : S_11.2.2 = S_6.2.2 + 12 := by rw [eS_11]
  refine am_putF d_M_init_17 fp_M_13 rfl h_12 rfl rfl (Nat.le_of_ble_eq_true rfl) ?_
  obtain ⟨S_16, eS_16⟩ : ∃ z : am_S, z = (am_up S_11.1 (g.2.2.1 + 6) (.inr (3, [.int 0, .int 0, .ref a_1, .ref a_10, .null, .int 0, .null, .null, .null, .null, .null, .null, .null, .int 0, .null, .null])), S_11.2) := ⟨_, rfl⟩
  change am_W _ _ _ _ (am_up S_11.1 (g.2.2.1 + 6) (.inr (3, [.int 0, .int 0, .ref a_1, .ref a_10, .null, .int 0, .null, .null, .null, .null, .null, .null, .null, .int 0, .null, .null])), S_11.2) _
  rw [← eS_16]
  have h_17 : S_16.1 a_1 = some (.inl (0, 12, .inl (fun _ => 0))) := by rw [eS_16]; exact (am_up_n (by omega)).trans h_13
  have h_18 : S_16.1 a_10 = some (.inl (0, 12, .inl (fun _ => 0))) := by rw [eS_16]; exact (am_up_n (by omega)).trans h_15
  have hf_19 : ∀ q, q < g.2.2.1 + 6 → S_16.1 q = S.1 q := by rw [eS_16]; exact fun q hq => (am_up_n (by omega)).trans (hf_14 q hq)
  have h_20 : S_16.1 (g.2.2.1 + 6) = some (.inr (3, [.int 0, .int 0, .ref a_1, .ref a_10, .null, .int 0, .null, .null, .null, .null, .null, .null, .null, .int 0, .null, .null])) := by rw [eS_16]; exact am_up_s
  have hnS_16 : S_16.2.1 = S_11.2.1 := by rw [eS_16]
  have hzS_16 : S_16.2.2 = S_11.2.2 := by rw [eS_16]
  refine am_aloadn d_M_init_20 rfl ?_
  refine am_sipush 3600 d_M_init_21 (by decide) ?_
  refine am_ti (b := nI 3600) rfl ?_
  obtain ⟨a_21, ea_21⟩ : ∃ z : Nat, z = S_16.2.1 := ⟨_, rfl⟩
  refine am_newL (N := 3600) d_M_init_24 (by omega) (by omega) (by omega) ?_
  change am_W _ _ _ (_, _, .ref S_16.2.1 :: _) (am_up S_16.1 S_16.2.1 (.inl (1, 3600, .inr (.inl (fun _ => 0)))), S_16.2.1 + 1, S_16.2.2 + 3600) _
  rw [← ea_21]
  obtain ⟨S_22, eS_22⟩ : ∃ z : am_S, z = (am_up S_16.1 a_21 (.inl (1, 3600, .inr (.inl (fun _ => 0)))), a_21 + 1, S_16.2.2 + 3600) := ⟨_, rfl⟩
  rw [← eS_22]
  have h_23 : S_22.1 (g.2.2.1 + 6) = some (.inr (3, [.int 0, .int 0, .ref a_1, .ref a_10, .null, .int 0, .null, .null, .null, .null, .null, .null, .null, .int 0, .null, .null])) := by rw [eS_22]; exact (am_up_n (by omega)).trans h_20
  have h_24 : S_22.1 a_1 = some (.inl (0, 12, .inl (fun _ => 0))) := by rw [eS_22]; exact (am_up_n (by omega)).trans h_17
  have h_25 : S_22.1 a_10 = some (.inl (0, 12, .inl (fun _ => 0))) := by rw [eS_22]; exact (am_up_n (by omega)).trans h_18
  have hf_26 : ∀ q, q < g.2.2.1 + 6 → S_22.1 q = S.1 q := by rw [eS_22]; exact fun q hq => (am_up_n (by omega)).trans (hf_19 q hq)
  have h_27 : S_22.1 a_21 = some (.inl (1, 3600, .inr (.inl (fun _ => 0)))) := by rw [eS_22]; exact am_up_s
  have hna_21 : S_22.2.1 = a_21 + 1 := by rw [eS_22]
  have hza_21 : S_22.2.2 = S_16.2.2 + 3600 := by rw [eS_22]
  refine am_putF d_M_init_26 fp_M_16 rfl h_23 rfl rfl (Nat.le_of_ble_eq_true rfl) ?_
  obtain ⟨S_28, eS_28⟩ : ∃ z : am_S, z = (am_up S_22.1 (g.2.2.1 + 6) (.inr (3, [.int 0, .int 0, .ref a_1, .ref a_10, .ref a_21, .int 0, .null, .null, .null, .null, .null, .null, .null, .int 0, .null, .null])), S_22.2) := ⟨_, rfl⟩
  change am_W _ _ _ _ (am_up S_22.1 (g.2.2.1 + 6) (.inr (3, [.int 0, .int 0, .ref a_1, .ref a_10, .ref a_21, .int 0, .null, .null, .null, .null, .null, .null, .null, .int 0, .null, .null])), S_22.2) _
  rw [← eS_28]
  have h_29 : S_28.1 a_1 = some (.inl (0, 12, .inl (fun _ => 0))) := by rw [eS_28]; exact (am_up_n (by omega)).trans h_24
  have h_30 : S_28.1 a_10 = some (.inl (0, 12, .inl (fun _ => 0))) := by rw [eS_28]; exact (am_up_n (by omega)).trans h_25
  have h_31 : S_28.1 a_21 = some (.inl (1, 3600, .inr (.inl (fun _ => 0)))) := by rw [eS_28]; exact (am_up_n (by omega)).trans h_27
  have hf_32 : ∀ q, q < g.2.2.1 + 6 → S_28.1 q = S.1 q := by rw [eS_28]; exact fun q hq => (am_up_n (by omega)).trans (hf_26 q hq)
  have h_33 : S_28.1 (g.2.2.1 + 6) = some (.inr (3, [.int 0, .int 0, .ref a_1, .ref a_10, .ref a_21, .int 0, .null, .null, .null, .null, .null, .null, .null, .int 0, .null, .null])) := by rw [eS_28]; exact am_up_s
  have hnS_28 : S_28.2.1 = S_22.2.1 := by rw [eS_28]
  have hzS_28 : S_28.2.2 = S_22.2.2 := by rw [eS_28]
  refine am_aloadn d_M_init_29 rfl ?_
  refine am_bipush 80 d_M_init_30 (by decide) ?_
  refine am_ti (b := nI 80) rfl ?_
  obtain ⟨a_34, ea_34⟩ : ∃ z : Nat, z = S_28.2.1 := ⟨_, rfl⟩
  refine am_newI (N := 80) d_M_init_32 (by omega) (by omega) (by omega) ?_
  change am_W _ _ _ (_, _, .ref S_28.2.1 :: _) (am_up S_28.1 S_28.2.1 (.inl (0, 80, .inl (fun _ => 0))), S_28.2.1 + 1, S_28.2.2 + 80) _
  rw [← ea_34]
  obtain ⟨S_35, eS_35⟩ : ∃ z : am_S, z = (am_up S_28.1 a_34 (.inl (0, 80, .inl (fun _ => 0))), a_34 + 1, S_28.2.2 + 80) := ⟨_, rfl⟩
  rw [← eS_35]
  have h_36 : S_35.1 (g.2.2.1 + 6) = some (.inr (3, [.int 0, .int 0, .ref a_1, .ref a_10, .ref a_21, .int 0, .null, .null, .null, .null, .null, .null, .null, .int 0, .null, .null])) := by rw [eS_35]; exact (am_up_n (by omega)).trans h_33
  have h_37 : S_35.1 a_1 = some (.inl (0, 12, .inl (fun _ => 0))) := by rw [eS_35]; exact (am_up_n (by omega)).trans h_29
  have h_38 : S_35.1 a_10 = some (.inl (0, 12, .inl (fun _ => 0))) := by rw [eS_35]; exact (am_up_n (by omega)).trans h_30
  have h_39 : S_35.1 a_21 = some (.inl (1, 3600, .inr (.inl (fun _ => 0)))) := by rw [eS_35]; exact (am_up_n (by omega)).trans h_31
  have hf_40 : ∀ q, q < g.2.2.1 + 6 → S_35.1 q = S.1 q := by rw [eS_35]; exact fun q hq => (am_up_n (by omega)).trans (hf_32 q hq)
  have h_41 : S_35.1 a_34 = some (.inl (0, 80, .inl (fun _ => 0))) := by rw [eS_35]; exact am_up_s
  have hna_34 : S_35.2.1 = a_34 + 1 := by rw [eS_35]
  have hza_34 : S_35.2.2 = S_28.2.2 + 80 := by rw [eS_35]
  refine am_putF d_M_init_34 fp_M_20 rfl h_36 rfl rfl (Nat.le_of_ble_eq_true rfl) ?_
  obtain ⟨S_42, eS_42⟩ : ∃ z : am_S, z = (am_up S_35.1 (g.2.2.1 + 6) (.inr (3, [.int 0, .int 0, .ref a_1, .ref a_10, .ref a_21, .int 0, .ref a_34, .null, .null, .null, .null, .null, .null, .int 0, .null, .null])), S_35.2) := ⟨_, rfl⟩
  change am_W _ _ _ _ (am_up S_35.1 (g.2.2.1 + 6) (.inr (3, [.int 0, .int 0, .ref a_1, .ref a_10, .ref a_21, .int 0, .ref a_34, .null, .null, .null, .null, .null, .null, .int 0, .null, .null])), S_35.2) _
  rw [← eS_42]
  have h_43 : S_42.1 a_1 = some (.inl (0, 12, .inl (fun _ => 0))) := by rw [eS_42]; exact (am_up_n (by omega)).trans h_37
  have h_44 : S_42.1 a_10 = some (.inl (0, 12, .inl (fun _ => 0))) := by rw [eS_42]; exact (am_up_n (by omega)).trans h_38
  have h_45 : S_42.1 a_21 = some (.inl (1, 3600, .inr (.inl (fun _ => 0)))) := by rw [eS_42]; exact (am_up_n (by omega)).trans h_39
  have h_46 : S_42.1 a_34 = some (.inl (0, 80, .inl (fun _ => 0))) := by rw [eS_42]; exact (am_up_n (by omega)).trans h_41
  have hf_47 : ∀ q, q < g.2.2.1 + 6 → S_42.1 q = S.1 q := by rw [eS_42]; exact fun q hq => (am_up_n (by omega)).trans (hf_40 q hq)
  have h_48 : S_42.1 (g.2.2.1 + 6) = some (.inr (3, [.int 0, .int 0, .ref a_1, .ref a_10, .ref a_21, .int 0, .ref a_34, .null, .null, .null, .null, .null, .null, .int 0, .null, .null])) := by rw [eS_42]; exact am_up_s
  have hnS_42 : S_42.2.1 = S_35.2.1 := by rw [eS_42]
  have hzS_42 : S_42.2.2 = S_35.2.2 := by rw [eS_42]
  refine am_aloadn d_M_init_37 rfl ?_
  refine am_bipush 80 d_M_init_38 (by decide) ?_
  refine am_ti (b := nI 80) rfl ?_
  obtain ⟨a_49, ea_49⟩ : ∃ z : Nat, z = S_42.2.1 := ⟨_, rfl⟩
  refine am_newI (N := 80) d_M_init_40 (by omega) (by omega) (by omega) ?_
  change am_W _ _ _ (_, _, .ref S_42.2.1 :: _) (am_up S_42.1 S_42.2.1 (.inl (0, 80, .inl (fun _ => 0))), S_42.2.1 + 1, S_42.2.2 + 80) _
  rw [← ea_49]
  obtain ⟨S_50, eS_50⟩ : ∃ z : am_S, z = (am_up S_42.1 a_49 (.inl (0, 80, .inl (fun _ => 0))), a_49 + 1, S_42.2.2 + 80) := ⟨_, rfl⟩
  rw [← eS_50]
  have h_51 : S_50.1 (g.2.2.1 + 6) = some (.inr (3, [.int 0, .int 0, .ref a_1, .ref a_10, .ref a_21, .int 0, .ref a_34, .null, .null, .null, .null, .null, .null, .int 0, .null, .null])) := by rw [eS_50]; exact (am_up_n (by omega)).trans h_48
  have h_52 : S_50.1 a_1 = some (.inl (0, 12, .inl (fun _ => 0))) := by rw [eS_50]; exact (am_up_n (by omega)).trans h_43
  have h_53 : S_50.1 a_10 = some (.inl (0, 12, .inl (fun _ => 0))) := by rw [eS_50]; exact (am_up_n (by omega)).trans h_44
  have h_54 : S_50.1 a_21 = some (.inl (1, 3600, .inr (.inl (fun _ => 0)))) := by rw [eS_50]; exact (am_up_n (by omega)).trans h_45
  have h_55 : S_50.1 a_34 = some (.inl (0, 80, .inl (fun _ => 0))) := by rw [eS_50]; exact (am_up_n (by omega)).trans h_46
  have hf_56 : ∀ q, q < g.2.2.1 + 6 → S_50.1 q = S.1 q := by rw [eS_50]; exact fun q hq => (am_up_n (by omega)).trans (hf_47 q hq)
  have h_57 : S_50.1 a_49 = some (.inl (0, 80, .inl (fun _ => 0))) := by rw [eS_50]; exact am_up_s
  have hna_49 : S_50.2.1 = a_49 + 1 := by rw [eS_50]
  have hza_49 : S_50.2.2 = S_42.2.2 + 80 := by rw [eS_50]
  refine am_putF d_M_init_42 fp_M_23 rfl h_51 rfl rfl (Nat.le_of_ble_eq_true rfl) ?_
  obtain ⟨S_58, eS_58⟩ : ∃ z : am_S, z = (am_up S_50.1 (g.2.2.1 + 6) (.inr (3, [.int 0, .int 0, .ref a_1, .ref a_10, .ref a_21, .int 0, .ref a_34, .ref a_49, .null, .null, .null, .null, .null, .int 0, .null, .null])), S_50.2) := ⟨_, rfl⟩
  change am_W _ _ _ _ (am_up S_50.1 (g.2.2.1 + 6) (.inr (3, [.int 0, .int 0, .ref a_1, .ref a_10, .ref a_21, .int 0, .ref a_34, .ref a_49, .null, .null, .null, .null, .null, .int 0, .null, .null])), S_50.2) _
  rw [← eS_58]
  have h_59 : S_58.1 a_1 = some (.inl (0, 12, .inl (fun _ => 0))) := by rw [eS_58]; exact (am_up_n (by omega)).trans h_52
  have h_60 : S_58.1 a_10 = some (.inl (0, 12, .inl (fun _ => 0))) := by rw [eS_58]; exact (am_up_n (by omega)).trans h_53
  have h_61 : S_58.1 a_21 = some (.inl (1, 3600, .inr (.inl (fun _ => 0)))) := by rw [eS_58]; exact (am_up_n (by omega)).trans h_54
  have h_62 : S_58.1 a_34 = some (.inl (0, 80, .inl (fun _ => 0))) := by rw [eS_58]; exact (am_up_n (by omega)).trans h_55
  have h_63 : S_58.1 a_49 = some (.inl (0, 80, .inl (fun _ => 0))) := by rw [eS_58]; exact (am_up_n (by omega)).trans h_57
  have hf_64 : ∀ q, q < g.2.2.1 + 6 → S_58.1 q = S.1 q := by rw [eS_58]; exact fun q hq => (am_up_n (by omega)).trans (hf_56 q hq)
  have h_65 : S_58.1 (g.2.2.1 + 6) = some (.inr (3, [.int 0, .int 0, .ref a_1, .ref a_10, .ref a_21, .int 0, .ref a_34, .ref a_49, .null, .null, .null, .null, .null, .int 0, .null, .null])) := by rw [eS_58]; exact am_up_s
  have hnS_58 : S_58.2.1 = S_50.2.1 := by rw [eS_58]
  have hzS_58 : S_58.2.2 = S_50.2.2 := by rw [eS_58]
  refine am_aloadn d_M_init_45 rfl ?_
  refine am_bipush 80 d_M_init_46 (by decide) ?_
  refine am_ti (b := nI 80) rfl ?_
  obtain ⟨a_66, ea_66⟩ : ∃ z : Nat, z = S_58.2.1 := ⟨_, rfl⟩
  refine am_newI (N := 80) d_M_init_48 (by omega) (by omega) (by omega) ?_
  change am_W _ _ _ (_, _, .ref S_58.2.1 :: _) (am_up S_58.1 S_58.2.1 (.inl (0, 80, .inl (fun _ => 0))), S_58.2.1 + 1, S_58.2.2 + 80) _
  rw [← ea_66]
  obtain ⟨S_67, eS_67⟩ : ∃ z : am_S, z = (am_up S_58.1 a_66 (.inl (0, 80, .inl (fun _ => 0))), a_66 + 1, S_58.2.2 + 80) := ⟨_, rfl⟩
  rw [← eS_67]
  have h_68 : S_67.1 (g.2.2.1 + 6) = some (.inr (3, [.int 0, .int 0, .ref a_1, .ref a_10, .ref a_21, .int 0, .ref a_34, .ref a_49, .null, .null, .null, .null, .null, .int 0, .null, .null])) := by rw [eS_67]; exact (am_up_n (by omega)).trans h_65
  have h_69 : S_67.1 a_1 = some (.inl (0, 12, .inl (fun _ => 0))) := by rw [eS_67]; exact (am_up_n (by omega)).trans h_59
  have h_70 : S_67.1 a_10 = some (.inl (0, 12, .inl (fun _ => 0))) := by rw [eS_67]; exact (am_up_n (by omega)).trans h_60
  have h_71 : S_67.1 a_21 = some (.inl (1, 3600, .inr (.inl (fun _ => 0)))) := by rw [eS_67]; exact (am_up_n (by omega)).trans h_61
  have h_72 : S_67.1 a_34 = some (.inl (0, 80, .inl (fun _ => 0))) := by rw [eS_67]; exact (am_up_n (by omega)).trans h_62
  have h_73 : S_67.1 a_49 = some (.inl (0, 80, .inl (fun _ => 0))) := by rw [eS_67]; exact (am_up_n (by omega)).trans h_63
  have hf_74 : ∀ q, q < g.2.2.1 + 6 → S_67.1 q = S.1 q := by rw [eS_67]; exact fun q hq => (am_up_n (by omega)).trans (hf_64 q hq)
  have h_75 : S_67.1 a_66 = some (.inl (0, 80, .inl (fun _ => 0))) := by rw [eS_67]; exact am_up_s
  have hna_66 : S_67.2.1 = a_66 + 1 := by rw [eS_67]
  have hza_66 : S_67.2.2 = S_58.2.2 + 80 := by rw [eS_67]
  refine am_putF d_M_init_50 fp_M_26 rfl h_68 rfl rfl (Nat.le_of_ble_eq_true rfl) ?_
  obtain ⟨S_76, eS_76⟩ : ∃ z : am_S, z = (am_up S_67.1 (g.2.2.1 + 6) (.inr (3, [.int 0, .int 0, .ref a_1, .ref a_10, .ref a_21, .int 0, .ref a_34, .ref a_49, .ref a_66, .null, .null, .null, .null, .int 0, .null, .null])), S_67.2) := ⟨_, rfl⟩
  change am_W _ _ _ _ (am_up S_67.1 (g.2.2.1 + 6) (.inr (3, [.int 0, .int 0, .ref a_1, .ref a_10, .ref a_21, .int 0, .ref a_34, .ref a_49, .ref a_66, .null, .null, .null, .null, .int 0, .null, .null])), S_67.2) _
  rw [← eS_76]
  have h_77 : S_76.1 a_1 = some (.inl (0, 12, .inl (fun _ => 0))) := by rw [eS_76]; exact (am_up_n (by omega)).trans h_69
  have h_78 : S_76.1 a_10 = some (.inl (0, 12, .inl (fun _ => 0))) := by rw [eS_76]; exact (am_up_n (by omega)).trans h_70
  have h_79 : S_76.1 a_21 = some (.inl (1, 3600, .inr (.inl (fun _ => 0)))) := by rw [eS_76]; exact (am_up_n (by omega)).trans h_71
  have h_80 : S_76.1 a_34 = some (.inl (0, 80, .inl (fun _ => 0))) := by rw [eS_76]; exact (am_up_n (by omega)).trans h_72
  have h_81 : S_76.1 a_49 = some (.inl (0, 80, .inl (fun _ => 0))) := by rw [eS_76]; exact (am_up_n (by omega)).trans h_73
  have h_82 : S_76.1 a_66 = some (.inl (0, 80, .inl (fun _ => 0))) := by rw [eS_76]; exact (am_up_n (by omega)).trans h_75
  have hf_83 : ∀ q, q < g.2.2.1 + 6 → S_76.1 q = S.1 q := by rw [eS_76]; exact fun q hq => (am_up_n (by omega)).trans (hf_74 q hq)
  have h_84 : S_76.1 (g.2.2.1 + 6) = some (.inr (3, [.int 0, .int 0, .ref a_1, .ref a_10, .ref a_21, .int 0, .ref a_34, .ref a_49, .ref a_66, .null, .null, .null, .null, .int 0, .null, .null])) := by rw [eS_76]; exact am_up_s
  have hnS_76 : S_76.2.1 = S_67.2.1 := by rw [eS_76]
  have hzS_76 : S_76.2.2 = S_67.2.2 := by rw [eS_76]
  refine am_aloadn d_M_init_53 rfl ?_
  refine am_sipush 320 d_M_init_54 (by decide) ?_
  refine am_ti (b := nI 320) rfl ?_
  obtain ⟨a_85, ea_85⟩ : ∃ z : Nat, z = S_76.2.1 := ⟨_, rfl⟩
  refine am_newI (N := 320) d_M_init_57 (by omega) (by omega) (by omega) ?_
  change am_W _ _ _ (_, _, .ref S_76.2.1 :: _) (am_up S_76.1 S_76.2.1 (.inl (0, 320, .inl (fun _ => 0))), S_76.2.1 + 1, S_76.2.2 + 320) _
  rw [← ea_85]
  obtain ⟨S_86, eS_86⟩ : ∃ z : am_S, z = (am_up S_76.1 a_85 (.inl (0, 320, .inl (fun _ => 0))), a_85 + 1, S_76.2.2 + 320) := ⟨_, rfl⟩
  rw [← eS_86]
  have h_87 : S_86.1 (g.2.2.1 + 6) = some (.inr (3, [.int 0, .int 0, .ref a_1, .ref a_10, .ref a_21, .int 0, .ref a_34, .ref a_49, .ref a_66, .null, .null, .null, .null, .int 0, .null, .null])) := by rw [eS_86]; exact (am_up_n (by omega)).trans h_84
  have h_88 : S_86.1 a_1 = some (.inl (0, 12, .inl (fun _ => 0))) := by rw [eS_86]; exact (am_up_n (by omega)).trans h_77
  have h_89 : S_86.1 a_10 = some (.inl (0, 12, .inl (fun _ => 0))) := by rw [eS_86]; exact (am_up_n (by omega)).trans h_78
  have h_90 : S_86.1 a_21 = some (.inl (1, 3600, .inr (.inl (fun _ => 0)))) := by rw [eS_86]; exact (am_up_n (by omega)).trans h_79
  have h_91 : S_86.1 a_34 = some (.inl (0, 80, .inl (fun _ => 0))) := by rw [eS_86]; exact (am_up_n (by omega)).trans h_80
  have h_92 : S_86.1 a_49 = some (.inl (0, 80, .inl (fun _ => 0))) := by rw [eS_86]; exact (am_up_n (by omega)).trans h_81
  have h_93 : S_86.1 a_66 = some (.inl (0, 80, .inl (fun _ => 0))) := by rw [eS_86]; exact (am_up_n (by omega)).trans h_82
  have hf_94 : ∀ q, q < g.2.2.1 + 6 → S_86.1 q = S.1 q := by rw [eS_86]; exact fun q hq => (am_up_n (by omega)).trans (hf_83 q hq)
  have h_95 : S_86.1 a_85 = some (.inl (0, 320, .inl (fun _ => 0))) := by rw [eS_86]; exact am_up_s
  have hna_85 : S_86.2.1 = a_85 + 1 := by rw [eS_86]
  have hza_85 : S_86.2.2 = S_76.2.2 + 320 := by rw [eS_86]
  refine am_putF d_M_init_59 fp_M_29 rfl h_87 rfl rfl (Nat.le_of_ble_eq_true rfl) ?_
  obtain ⟨S_96, eS_96⟩ : ∃ z : am_S, z = (am_up S_86.1 (g.2.2.1 + 6) (.inr (3, [.int 0, .int 0, .ref a_1, .ref a_10, .ref a_21, .int 0, .ref a_34, .ref a_49, .ref a_66, .ref a_85, .null, .null, .null, .int 0, .null, .null])), S_86.2) := ⟨_, rfl⟩
  change am_W _ _ _ _ (am_up S_86.1 (g.2.2.1 + 6) (.inr (3, [.int 0, .int 0, .ref a_1, .ref a_10, .ref a_21, .int 0, .ref a_34, .ref a_49, .ref a_66, .ref a_85, .null, .null, .null, .int 0, .null, .null])), S_86.2) _
  rw [← eS_96]
  have h_97 : S_96.1 a_1 = some (.inl (0, 12, .inl (fun _ => 0))) := by rw [eS_96]; exact (am_up_n (by omega)).trans h_88
  have h_98 : S_96.1 a_10 = some (.inl (0, 12, .inl (fun _ => 0))) := by rw [eS_96]; exact (am_up_n (by omega)).trans h_89
  have h_99 : S_96.1 a_21 = some (.inl (1, 3600, .inr (.inl (fun _ => 0)))) := by rw [eS_96]; exact (am_up_n (by omega)).trans h_90
  have h_100 : S_96.1 a_34 = some (.inl (0, 80, .inl (fun _ => 0))) := by rw [eS_96]; exact (am_up_n (by omega)).trans h_91
  have h_101 : S_96.1 a_49 = some (.inl (0, 80, .inl (fun _ => 0))) := by rw [eS_96]; exact (am_up_n (by omega)).trans h_92
  have h_102 : S_96.1 a_66 = some (.inl (0, 80, .inl (fun _ => 0))) := by rw [eS_96]; exact (am_up_n (by omega)).trans h_93
  have h_103 : S_96.1 a_85 = some (.inl (0, 320, .inl (fun _ => 0))) := by rw [eS_96]; exact (am_up_n (by omega)).trans h_95
  have hf_104 : ∀ q, q < g.2.2.1 + 6 → S_96.1 q = S.1 q := by rw [eS_96]; exact fun q hq => (am_up_n (by omega)).trans (hf_94 q hq)
  have h_105 : S_96.1 (g.2.2.1 + 6) = some (.inr (3, [.int 0, .int 0, .ref a_1, .ref a_10, .ref a_21, .int 0, .ref a_34, .ref a_49, .ref a_66, .ref a_85, .null, .null, .null, .int 0, .null, .null])) := by rw [eS_96]; exact am_up_s
  have hnS_96 : S_96.2.1 = S_86.2.1 := by rw [eS_96]
  have hzS_96 : S_96.2.2 = S_86.2.2 := by rw [eS_96]
  refine am_aloadn d_M_init_62 rfl ?_
  refine am_sipush 320 d_M_init_63 (by decide) ?_
  refine am_ti (b := nI 320) rfl ?_
  obtain ⟨a_106, ea_106⟩ : ∃ z : Nat, z = S_96.2.1 := ⟨_, rfl⟩
  refine am_newI (N := 320) d_M_init_66 (by omega) (by omega) (by omega) ?_
  change am_W _ _ _ (_, _, .ref S_96.2.1 :: _) (am_up S_96.1 S_96.2.1 (.inl (0, 320, .inl (fun _ => 0))), S_96.2.1 + 1, S_96.2.2 + 320) _
  rw [← ea_106]
  obtain ⟨S_107, eS_107⟩ : ∃ z : am_S, z = (am_up S_96.1 a_106 (.inl (0, 320, .inl (fun _ => 0))), a_106 + 1, S_96.2.2 + 320) := ⟨_, rfl⟩
  rw [← eS_107]
  have h_108 : S_107.1 (g.2.2.1 + 6) = some (.inr (3, [.int 0, .int 0, .ref a_1, .ref a_10, .ref a_21, .int 0, .ref a_34, .ref a_49, .ref a_66, .ref a_85, .null, .null, .null, .int 0, .null, .null])) := by rw [eS_107]; exact (am_up_n (by omega)).trans h_105
  have h_109 : S_107.1 a_1 = some (.inl (0, 12, .inl (fun _ => 0))) := by rw [eS_107]; exact (am_up_n (by omega)).trans h_97
  have h_110 : S_107.1 a_10 = some (.inl (0, 12, .inl (fun _ => 0))) := by rw [eS_107]; exact (am_up_n (by omega)).trans h_98
  have h_111 : S_107.1 a_21 = some (.inl (1, 3600, .inr (.inl (fun _ => 0)))) := by rw [eS_107]; exact (am_up_n (by omega)).trans h_99
  have h_112 : S_107.1 a_34 = some (.inl (0, 80, .inl (fun _ => 0))) := by rw [eS_107]; exact (am_up_n (by omega)).trans h_100
  have h_113 : S_107.1 a_49 = some (.inl (0, 80, .inl (fun _ => 0))) := by rw [eS_107]; exact (am_up_n (by omega)).trans h_101
  have h_114 : S_107.1 a_66 = some (.inl (0, 80, .inl (fun _ => 0))) := by rw [eS_107]; exact (am_up_n (by omega)).trans h_102
  have h_115 : S_107.1 a_85 = some (.inl (0, 320, .inl (fun _ => 0))) := by rw [eS_107]; exact (am_up_n (by omega)).trans h_103
  have hf_116 : ∀ q, q < g.2.2.1 + 6 → S_107.1 q = S.1 q := by rw [eS_107]; exact fun q hq => (am_up_n (by omega)).trans (hf_104 q hq)
  have h_117 : S_107.1 a_106 = some (.inl (0, 320, .inl (fun _ => 0))) := by rw [eS_107]; exact am_up_s
  have hna_106 : S_107.2.1 = a_106 + 1 := by rw [eS_107]
  have hza_106 : S_107.2.2 = S_96.2.2 + 320 := by rw [eS_107]
  refine am_putF d_M_init_68 fp_M_32 rfl h_108 rfl rfl (Nat.le_of_ble_eq_true rfl) ?_
  obtain ⟨S_118, eS_118⟩ : ∃ z : am_S, z = (am_up S_107.1 (g.2.2.1 + 6) (.inr (3, [.int 0, .int 0, .ref a_1, .ref a_10, .ref a_21, .int 0, .ref a_34, .ref a_49, .ref a_66, .ref a_85, .ref a_106, .null, .null, .int 0, .null, .null])), S_107.2) := ⟨_, rfl⟩
  change am_W _ _ _ _ (am_up S_107.1 (g.2.2.1 + 6) (.inr (3, [.int 0, .int 0, .ref a_1, .ref a_10, .ref a_21, .int 0, .ref a_34, .ref a_49, .ref a_66, .ref a_85, .ref a_106, .null, .null, .int 0, .null, .null])), S_107.2) _
  rw [← eS_118]
  have h_119 : S_118.1 a_1 = some (.inl (0, 12, .inl (fun _ => 0))) := by rw [eS_118]; exact (am_up_n (by omega)).trans h_109
  have h_120 : S_118.1 a_10 = some (.inl (0, 12, .inl (fun _ => 0))) := by rw [eS_118]; exact (am_up_n (by omega)).trans h_110
  have h_121 : S_118.1 a_21 = some (.inl (1, 3600, .inr (.inl (fun _ => 0)))) := by rw [eS_118]; exact (am_up_n (by omega)).trans h_111
  have h_122 : S_118.1 a_34 = some (.inl (0, 80, .inl (fun _ => 0))) := by rw [eS_118]; exact (am_up_n (by omega)).trans h_112
  have h_123 : S_118.1 a_49 = some (.inl (0, 80, .inl (fun _ => 0))) := by rw [eS_118]; exact (am_up_n (by omega)).trans h_113
  have h_124 : S_118.1 a_66 = some (.inl (0, 80, .inl (fun _ => 0))) := by rw [eS_118]; exact (am_up_n (by omega)).trans h_114
  have h_125 : S_118.1 a_85 = some (.inl (0, 320, .inl (fun _ => 0))) := by rw [eS_118]; exact (am_up_n (by omega)).trans h_115
  have h_126 : S_118.1 a_106 = some (.inl (0, 320, .inl (fun _ => 0))) := by rw [eS_118]; exact (am_up_n (by omega)).trans h_117
  have hf_127 : ∀ q, q < g.2.2.1 + 6 → S_118.1 q = S.1 q := by rw [eS_118]; exact fun q hq => (am_up_n (by omega)).trans (hf_116 q hq)
  have h_128 : S_118.1 (g.2.2.1 + 6) = some (.inr (3, [.int 0, .int 0, .ref a_1, .ref a_10, .ref a_21, .int 0, .ref a_34, .ref a_49, .ref a_66, .ref a_85, .ref a_106, .null, .null, .int 0, .null, .null])) := by rw [eS_118]; exact am_up_s
  have hnS_118 : S_118.2.1 = S_107.2.1 := by rw [eS_118]
  have hzS_118 : S_118.2.2 = S_107.2.2 := by rw [eS_118]
  refine am_aloadn d_M_init_71 rfl ?_
  refine am_iconst 5 d_M_init_72 (by decide) ?_
  refine am_ti (b := nI 5) rfl ?_
  obtain ⟨a_129, ea_129⟩ : ∃ z : Nat, z = S_118.2.1 := ⟨_, rfl⟩
  refine am_newL (N := 5) d_M_init_73 (by omega) (by omega) (by omega) ?_
  change am_W _ _ _ (_, _, .ref S_118.2.1 :: _) (am_up S_118.1 S_118.2.1 (.inl (1, 5, .inr (.inl (fun _ => 0)))), S_118.2.1 + 1, S_118.2.2 + 5) _
  rw [← ea_129]
  obtain ⟨S_130, eS_130⟩ : ∃ z : am_S, z = (am_up S_118.1 a_129 (.inl (1, 5, .inr (.inl (fun _ => 0)))), a_129 + 1, S_118.2.2 + 5) := ⟨_, rfl⟩
  rw [← eS_130]
  have h_131 : S_130.1 (g.2.2.1 + 6) = some (.inr (3, [.int 0, .int 0, .ref a_1, .ref a_10, .ref a_21, .int 0, .ref a_34, .ref a_49, .ref a_66, .ref a_85, .ref a_106, .null, .null, .int 0, .null, .null])) := by rw [eS_130]; exact (am_up_n (by omega)).trans h_128
  have h_132 : S_130.1 a_1 = some (.inl (0, 12, .inl (fun _ => 0))) := by rw [eS_130]; exact (am_up_n (by omega)).trans h_119
  have h_133 : S_130.1 a_10 = some (.inl (0, 12, .inl (fun _ => 0))) := by rw [eS_130]; exact (am_up_n (by omega)).trans h_120
  have h_134 : S_130.1 a_21 = some (.inl (1, 3600, .inr (.inl (fun _ => 0)))) := by rw [eS_130]; exact (am_up_n (by omega)).trans h_121
  have h_135 : S_130.1 a_34 = some (.inl (0, 80, .inl (fun _ => 0))) := by rw [eS_130]; exact (am_up_n (by omega)).trans h_122
  have h_136 : S_130.1 a_49 = some (.inl (0, 80, .inl (fun _ => 0))) := by rw [eS_130]; exact (am_up_n (by omega)).trans h_123
  have h_137 : S_130.1 a_66 = some (.inl (0, 80, .inl (fun _ => 0))) := by rw [eS_130]; exact (am_up_n (by omega)).trans h_124
  have h_138 : S_130.1 a_85 = some (.inl (0, 320, .inl (fun _ => 0))) := by rw [eS_130]; exact (am_up_n (by omega)).trans h_125
  have h_139 : S_130.1 a_106 = some (.inl (0, 320, .inl (fun _ => 0))) := by rw [eS_130]; exact (am_up_n (by omega)).trans h_126
  have hf_140 : ∀ q, q < g.2.2.1 + 6 → S_130.1 q = S.1 q := by rw [eS_130]; exact fun q hq => (am_up_n (by omega)).trans (hf_127 q hq)
  have h_141 : S_130.1 a_129 = some (.inl (1, 5, .inr (.inl (fun _ => 0)))) := by rw [eS_130]; exact am_up_s
  have hna_129 : S_130.2.1 = a_129 + 1 := by rw [eS_130]
  have hza_129 : S_130.2.2 = S_118.2.2 + 5 := by rw [eS_130]
  refine am_putF d_M_init_75 fp_M_35 rfl h_131 rfl rfl (Nat.le_of_ble_eq_true rfl) ?_
  obtain ⟨S_142, eS_142⟩ : ∃ z : am_S, z = (am_up S_130.1 (g.2.2.1 + 6) (.inr (3, [.int 0, .int 0, .ref a_1, .ref a_10, .ref a_21, .int 0, .ref a_34, .ref a_49, .ref a_66, .ref a_85, .ref a_106, .ref a_129, .null, .int 0, .null, .null])), S_130.2) := ⟨_, rfl⟩
  change am_W _ _ _ _ (am_up S_130.1 (g.2.2.1 + 6) (.inr (3, [.int 0, .int 0, .ref a_1, .ref a_10, .ref a_21, .int 0, .ref a_34, .ref a_49, .ref a_66, .ref a_85, .ref a_106, .ref a_129, .null, .int 0, .null, .null])), S_130.2) _
  rw [← eS_142]
  have h_143 : S_142.1 a_1 = some (.inl (0, 12, .inl (fun _ => 0))) := by rw [eS_142]; exact (am_up_n (by omega)).trans h_132
  have h_144 : S_142.1 a_10 = some (.inl (0, 12, .inl (fun _ => 0))) := by rw [eS_142]; exact (am_up_n (by omega)).trans h_133
  have h_145 : S_142.1 a_21 = some (.inl (1, 3600, .inr (.inl (fun _ => 0)))) := by rw [eS_142]; exact (am_up_n (by omega)).trans h_134
  have h_146 : S_142.1 a_34 = some (.inl (0, 80, .inl (fun _ => 0))) := by rw [eS_142]; exact (am_up_n (by omega)).trans h_135
  have h_147 : S_142.1 a_49 = some (.inl (0, 80, .inl (fun _ => 0))) := by rw [eS_142]; exact (am_up_n (by omega)).trans h_136
  have h_148 : S_142.1 a_66 = some (.inl (0, 80, .inl (fun _ => 0))) := by rw [eS_142]; exact (am_up_n (by omega)).trans h_137
  have h_149 : S_142.1 a_85 = some (.inl (0, 320, .inl (fun _ => 0))) := by rw [eS_142]; exact (am_up_n (by omega)).trans h_138
  have h_150 : S_142.1 a_106 = some (.inl (0, 320, .inl (fun _ => 0))) := by rw [eS_142]; exact (am_up_n (by omega)).trans h_139
  have h_151 : S_142.1 a_129 = some (.inl (1, 5, .inr (.inl (fun _ => 0)))) := by rw [eS_142]; exact (am_up_n (by omega)).trans h_141
  have hf_152 : ∀ q, q < g.2.2.1 + 6 → S_142.1 q = S.1 q := by rw [eS_142]; exact fun q hq => (am_up_n (by omega)).trans (hf_140 q hq)
  have h_153 : S_142.1 (g.2.2.1 + 6) = some (.inr (3, [.int 0, .int 0, .ref a_1, .ref a_10, .ref a_21, .int 0, .ref a_34, .ref a_49, .ref a_66, .ref a_85, .ref a_106, .ref a_129, .null, .int 0, .null, .null])) := by rw [eS_142]; exact am_up_s
  have hnS_142 : S_142.2.1 = S_130.2.1 := by rw [eS_142]
  have hzS_142 : S_142.2.2 = S_130.2.2 := by rw [eS_142]
  refine am_aloadn d_M_init_78 rfl ?_
  refine am_iconst 5 d_M_init_79 (by decide) ?_
  refine am_ti (b := nI 5) rfl ?_
  obtain ⟨a_154, ea_154⟩ : ∃ z : Nat, z = S_142.2.1 := ⟨_, rfl⟩
  refine am_newL (N := 5) d_M_init_80 (by omega) (by omega) (by omega) ?_
  change am_W _ _ _ (_, _, .ref S_142.2.1 :: _) (am_up S_142.1 S_142.2.1 (.inl (1, 5, .inr (.inl (fun _ => 0)))), S_142.2.1 + 1, S_142.2.2 + 5) _
  rw [← ea_154]
  obtain ⟨S_155, eS_155⟩ : ∃ z : am_S, z = (am_up S_142.1 a_154 (.inl (1, 5, .inr (.inl (fun _ => 0)))), a_154 + 1, S_142.2.2 + 5) := ⟨_, rfl⟩
  rw [← eS_155]
  have h_156 : S_155.1 (g.2.2.1 + 6) = some (.inr (3, [.int 0, .int 0, .ref a_1, .ref a_10, .ref a_21, .int 0, .ref a_34, .ref a_49, .ref a_66, .ref a_85, .ref a_106, .ref a_129, .null, .int 0, .null, .null])) := by rw [eS_155]; exact (am_up_n (by omega)).trans h_153
  have h_157 : S_155.1 a_1 = some (.inl (0, 12, .inl (fun _ => 0))) := by rw [eS_155]; exact (am_up_n (by omega)).trans h_143
  have h_158 : S_155.1 a_10 = some (.inl (0, 12, .inl (fun _ => 0))) := by rw [eS_155]; exact (am_up_n (by omega)).trans h_144
  have h_159 : S_155.1 a_21 = some (.inl (1, 3600, .inr (.inl (fun _ => 0)))) := by rw [eS_155]; exact (am_up_n (by omega)).trans h_145
  have h_160 : S_155.1 a_34 = some (.inl (0, 80, .inl (fun _ => 0))) := by rw [eS_155]; exact (am_up_n (by omega)).trans h_146
  have h_161 : S_155.1 a_49 = some (.inl (0, 80, .inl (fun _ => 0))) := by rw [eS_155]; exact (am_up_n (by omega)).trans h_147
  have h_162 : S_155.1 a_66 = some (.inl (0, 80, .inl (fun _ => 0))) := by rw [eS_155]; exact (am_up_n (by omega)).trans h_148
  have h_163 : S_155.1 a_85 = some (.inl (0, 320, .inl (fun _ => 0))) := by rw [eS_155]; exact (am_up_n (by omega)).trans h_149
  have h_164 : S_155.1 a_106 = some (.inl (0, 320, .inl (fun _ => 0))) := by rw [eS_155]; exact (am_up_n (by omega)).trans h_150
  have h_165 : S_155.1 a_129 = some (.inl (1, 5, .inr (.inl (fun _ => 0)))) := by rw [eS_155]; exact (am_up_n (by omega)).trans h_151
  have hf_166 : ∀ q, q < g.2.2.1 + 6 → S_155.1 q = S.1 q := by rw [eS_155]; exact fun q hq => (am_up_n (by omega)).trans (hf_152 q hq)
  have h_167 : S_155.1 a_154 = some (.inl (1, 5, .inr (.inl (fun _ => 0)))) := by rw [eS_155]; exact am_up_s
  have hna_154 : S_155.2.1 = a_154 + 1 := by rw [eS_155]
  have hza_154 : S_155.2.2 = S_142.2.2 + 5 := by rw [eS_155]
  refine am_putF d_M_init_82 fp_M_38 rfl h_156 rfl rfl (Nat.le_of_ble_eq_true rfl) ?_
  obtain ⟨S_168, eS_168⟩ : ∃ z : am_S, z = (am_up S_155.1 (g.2.2.1 + 6) (.inr (3, [.int 0, .int 0, .ref a_1, .ref a_10, .ref a_21, .int 0, .ref a_34, .ref a_49, .ref a_66, .ref a_85, .ref a_106, .ref a_129, .ref a_154, .int 0, .null, .null])), S_155.2) := ⟨_, rfl⟩
  change am_W _ _ _ _ (am_up S_155.1 (g.2.2.1 + 6) (.inr (3, [.int 0, .int 0, .ref a_1, .ref a_10, .ref a_21, .int 0, .ref a_34, .ref a_49, .ref a_66, .ref a_85, .ref a_106, .ref a_129, .ref a_154, .int 0, .null, .null])), S_155.2) _
  rw [← eS_168]
  have h_169 : S_168.1 a_1 = some (.inl (0, 12, .inl (fun _ => 0))) := by rw [eS_168]; exact (am_up_n (by omega)).trans h_157
  have h_170 : S_168.1 a_10 = some (.inl (0, 12, .inl (fun _ => 0))) := by rw [eS_168]; exact (am_up_n (by omega)).trans h_158
  have h_171 : S_168.1 a_21 = some (.inl (1, 3600, .inr (.inl (fun _ => 0)))) := by rw [eS_168]; exact (am_up_n (by omega)).trans h_159
  have h_172 : S_168.1 a_34 = some (.inl (0, 80, .inl (fun _ => 0))) := by rw [eS_168]; exact (am_up_n (by omega)).trans h_160
  have h_173 : S_168.1 a_49 = some (.inl (0, 80, .inl (fun _ => 0))) := by rw [eS_168]; exact (am_up_n (by omega)).trans h_161
  have h_174 : S_168.1 a_66 = some (.inl (0, 80, .inl (fun _ => 0))) := by rw [eS_168]; exact (am_up_n (by omega)).trans h_162
  have h_175 : S_168.1 a_85 = some (.inl (0, 320, .inl (fun _ => 0))) := by rw [eS_168]; exact (am_up_n (by omega)).trans h_163
  have h_176 : S_168.1 a_106 = some (.inl (0, 320, .inl (fun _ => 0))) := by rw [eS_168]; exact (am_up_n (by omega)).trans h_164
  have h_177 : S_168.1 a_129 = some (.inl (1, 5, .inr (.inl (fun _ => 0)))) := by rw [eS_168]; exact (am_up_n (by omega)).trans h_165
  have h_178 : S_168.1 a_154 = some (.inl (1, 5, .inr (.inl (fun _ => 0)))) := by rw [eS_168]; exact (am_up_n (by omega)).trans h_167
  have hf_179 : ∀ q, q < g.2.2.1 + 6 → S_168.1 q = S.1 q := by rw [eS_168]; exact fun q hq => (am_up_n (by omega)).trans (hf_166 q hq)
  have h_180 : S_168.1 (g.2.2.1 + 6) = some (.inr (3, [.int 0, .int 0, .ref a_1, .ref a_10, .ref a_21, .int 0, .ref a_34, .ref a_49, .ref a_66, .ref a_85, .ref a_106, .ref a_129, .ref a_154, .int 0, .null, .null])) := by rw [eS_168]; exact am_up_s
  have hnS_168 : S_168.2.1 = S_155.2.1 := by rw [eS_168]
  have hzS_168 : S_168.2.2 = S_155.2.2 := by rw [eS_168]
  refine am_aloadn d_M_init_85 rfl ?_
  refine am_sipush 3000 d_M_init_86 (by decide) ?_
  refine am_ti (b := nI 3000) rfl ?_
  obtain ⟨a_181, ea_181⟩ : ∃ z : Nat, z = S_168.2.1 := ⟨_, rfl⟩
  refine am_newL (N := 3000) d_M_init_89 (by omega) (by omega) (by omega) ?_
  change am_W _ _ _ (_, _, .ref S_168.2.1 :: _) (am_up S_168.1 S_168.2.1 (.inl (1, 3000, .inr (.inl (fun _ => 0)))), S_168.2.1 + 1, S_168.2.2 + 3000) _
  rw [← ea_181]
  obtain ⟨S_182, eS_182⟩ : ∃ z : am_S, z = (am_up S_168.1 a_181 (.inl (1, 3000, .inr (.inl (fun _ => 0)))), a_181 + 1, S_168.2.2 + 3000) := ⟨_, rfl⟩
  rw [← eS_182]
  have h_183 : S_182.1 (g.2.2.1 + 6) = some (.inr (3, [.int 0, .int 0, .ref a_1, .ref a_10, .ref a_21, .int 0, .ref a_34, .ref a_49, .ref a_66, .ref a_85, .ref a_106, .ref a_129, .ref a_154, .int 0, .null, .null])) := by rw [eS_182]; exact (am_up_n (by omega)).trans h_180
  have h_184 : S_182.1 a_1 = some (.inl (0, 12, .inl (fun _ => 0))) := by rw [eS_182]; exact (am_up_n (by omega)).trans h_169
  have h_185 : S_182.1 a_10 = some (.inl (0, 12, .inl (fun _ => 0))) := by rw [eS_182]; exact (am_up_n (by omega)).trans h_170
  have h_186 : S_182.1 a_21 = some (.inl (1, 3600, .inr (.inl (fun _ => 0)))) := by rw [eS_182]; exact (am_up_n (by omega)).trans h_171
  have h_187 : S_182.1 a_34 = some (.inl (0, 80, .inl (fun _ => 0))) := by rw [eS_182]; exact (am_up_n (by omega)).trans h_172
  have h_188 : S_182.1 a_49 = some (.inl (0, 80, .inl (fun _ => 0))) := by rw [eS_182]; exact (am_up_n (by omega)).trans h_173
  have h_189 : S_182.1 a_66 = some (.inl (0, 80, .inl (fun _ => 0))) := by rw [eS_182]; exact (am_up_n (by omega)).trans h_174
  have h_190 : S_182.1 a_85 = some (.inl (0, 320, .inl (fun _ => 0))) := by rw [eS_182]; exact (am_up_n (by omega)).trans h_175
  have h_191 : S_182.1 a_106 = some (.inl (0, 320, .inl (fun _ => 0))) := by rw [eS_182]; exact (am_up_n (by omega)).trans h_176
  have h_192 : S_182.1 a_129 = some (.inl (1, 5, .inr (.inl (fun _ => 0)))) := by rw [eS_182]; exact (am_up_n (by omega)).trans h_177
  have h_193 : S_182.1 a_154 = some (.inl (1, 5, .inr (.inl (fun _ => 0)))) := by rw [eS_182]; exact (am_up_n (by omega)).trans h_178
  have hf_194 : ∀ q, q < g.2.2.1 + 6 → S_182.1 q = S.1 q := by rw [eS_182]; exact fun q hq => (am_up_n (by omega)).trans (hf_179 q hq)
  have h_195 : S_182.1 a_181 = some (.inl (1, 3000, .inr (.inl (fun _ => 0)))) := by rw [eS_182]; exact am_up_s
  have hna_181 : S_182.2.1 = a_181 + 1 := by rw [eS_182]
  have hza_181 : S_182.2.2 = S_168.2.2 + 3000 := by rw [eS_182]
  refine am_putF d_M_init_91 fp_M_41 rfl h_183 rfl rfl (Nat.le_of_ble_eq_true rfl) ?_
  obtain ⟨S_196, eS_196⟩ : ∃ z : am_S, z = (am_up S_182.1 (g.2.2.1 + 6) (.inr (3, [.int 0, .int 0, .ref a_1, .ref a_10, .ref a_21, .int 0, .ref a_34, .ref a_49, .ref a_66, .ref a_85, .ref a_106, .ref a_129, .ref a_154, .int 0, .ref a_181, .null])), S_182.2) := ⟨_, rfl⟩
  change am_W _ _ _ _ (am_up S_182.1 (g.2.2.1 + 6) (.inr (3, [.int 0, .int 0, .ref a_1, .ref a_10, .ref a_21, .int 0, .ref a_34, .ref a_49, .ref a_66, .ref a_85, .ref a_106, .ref a_129, .ref a_154, .int 0, .ref a_181, .null])), S_182.2) _
  rw [← eS_196]
  have h_197 : S_196.1 a_1 = some (.inl (0, 12, .inl (fun _ => 0))) := by rw [eS_196]; exact (am_up_n (by omega)).trans h_184
  have h_198 : S_196.1 a_10 = some (.inl (0, 12, .inl (fun _ => 0))) := by rw [eS_196]; exact (am_up_n (by omega)).trans h_185
  have h_199 : S_196.1 a_21 = some (.inl (1, 3600, .inr (.inl (fun _ => 0)))) := by rw [eS_196]; exact (am_up_n (by omega)).trans h_186
  have h_200 : S_196.1 a_34 = some (.inl (0, 80, .inl (fun _ => 0))) := by rw [eS_196]; exact (am_up_n (by omega)).trans h_187
  have h_201 : S_196.1 a_49 = some (.inl (0, 80, .inl (fun _ => 0))) := by rw [eS_196]; exact (am_up_n (by omega)).trans h_188
  have h_202 : S_196.1 a_66 = some (.inl (0, 80, .inl (fun _ => 0))) := by rw [eS_196]; exact (am_up_n (by omega)).trans h_189
  have h_203 : S_196.1 a_85 = some (.inl (0, 320, .inl (fun _ => 0))) := by rw [eS_196]; exact (am_up_n (by omega)).trans h_190
  have h_204 : S_196.1 a_106 = some (.inl (0, 320, .inl (fun _ => 0))) := by rw [eS_196]; exact (am_up_n (by omega)).trans h_191
  have h_205 : S_196.1 a_129 = some (.inl (1, 5, .inr (.inl (fun _ => 0)))) := by rw [eS_196]; exact (am_up_n (by omega)).trans h_192
  have h_206 : S_196.1 a_154 = some (.inl (1, 5, .inr (.inl (fun _ => 0)))) := by rw [eS_196]; exact (am_up_n (by omega)).trans h_193
  have h_207 : S_196.1 a_181 = some (.inl (1, 3000, .inr (.inl (fun _ => 0)))) := by rw [eS_196]; exact (am_up_n (by omega)).trans h_195
  have hf_208 : ∀ q, q < g.2.2.1 + 6 → S_196.1 q = S.1 q := by rw [eS_196]; exact fun q hq => (am_up_n (by omega)).trans (hf_194 q hq)
  have h_209 : S_196.1 (g.2.2.1 + 6) = some (.inr (3, [.int 0, .int 0, .ref a_1, .ref a_10, .ref a_21, .int 0, .ref a_34, .ref a_49, .ref a_66, .ref a_85, .ref a_106, .ref a_129, .ref a_154, .int 0, .ref a_181, .null])) := by rw [eS_196]; exact am_up_s
  have hnS_196 : S_196.2.1 = S_182.2.1 := by rw [eS_196]
  have hzS_196 : S_196.2.2 = S_182.2.2 := by rw [eS_196]
  refine am_aloadn d_M_init_94 rfl ?_
  refine am_sipush 300 d_M_init_95 (by decide) ?_
  refine am_ti (b := nI 300) rfl ?_
  obtain ⟨a_210, ea_210⟩ : ∃ z : Nat, z = S_196.2.1 := ⟨_, rfl⟩
  refine am_newZ (N := 300) d_M_init_98 (by omega) (by omega) (by omega) ?_
  change am_W _ _ _ (_, _, .ref S_196.2.1 :: _) (am_up S_196.1 S_196.2.1 (.inl (2, 300, .inl (fun _ => 0))), S_196.2.1 + 1, S_196.2.2 + 300) _
  rw [← ea_210]
  obtain ⟨S_211, eS_211⟩ : ∃ z : am_S, z = (am_up S_196.1 a_210 (.inl (2, 300, .inl (fun _ => 0))), a_210 + 1, S_196.2.2 + 300) := ⟨_, rfl⟩
  rw [← eS_211]
  have h_212 : S_211.1 (g.2.2.1 + 6) = some (.inr (3, [.int 0, .int 0, .ref a_1, .ref a_10, .ref a_21, .int 0, .ref a_34, .ref a_49, .ref a_66, .ref a_85, .ref a_106, .ref a_129, .ref a_154, .int 0, .ref a_181, .null])) := by rw [eS_211]; exact (am_up_n (by omega)).trans h_209
  have h_213 : S_211.1 a_1 = some (.inl (0, 12, .inl (fun _ => 0))) := by rw [eS_211]; exact (am_up_n (by omega)).trans h_197
  have h_214 : S_211.1 a_10 = some (.inl (0, 12, .inl (fun _ => 0))) := by rw [eS_211]; exact (am_up_n (by omega)).trans h_198
  have h_215 : S_211.1 a_21 = some (.inl (1, 3600, .inr (.inl (fun _ => 0)))) := by rw [eS_211]; exact (am_up_n (by omega)).trans h_199
  have h_216 : S_211.1 a_34 = some (.inl (0, 80, .inl (fun _ => 0))) := by rw [eS_211]; exact (am_up_n (by omega)).trans h_200
  have h_217 : S_211.1 a_49 = some (.inl (0, 80, .inl (fun _ => 0))) := by rw [eS_211]; exact (am_up_n (by omega)).trans h_201
  have h_218 : S_211.1 a_66 = some (.inl (0, 80, .inl (fun _ => 0))) := by rw [eS_211]; exact (am_up_n (by omega)).trans h_202
  have h_219 : S_211.1 a_85 = some (.inl (0, 320, .inl (fun _ => 0))) := by rw [eS_211]; exact (am_up_n (by omega)).trans h_203
  have h_220 : S_211.1 a_106 = some (.inl (0, 320, .inl (fun _ => 0))) := by rw [eS_211]; exact (am_up_n (by omega)).trans h_204
  have h_221 : S_211.1 a_129 = some (.inl (1, 5, .inr (.inl (fun _ => 0)))) := by rw [eS_211]; exact (am_up_n (by omega)).trans h_205
  have h_222 : S_211.1 a_154 = some (.inl (1, 5, .inr (.inl (fun _ => 0)))) := by rw [eS_211]; exact (am_up_n (by omega)).trans h_206
  have h_223 : S_211.1 a_181 = some (.inl (1, 3000, .inr (.inl (fun _ => 0)))) := by rw [eS_211]; exact (am_up_n (by omega)).trans h_207
  have hf_224 : ∀ q, q < g.2.2.1 + 6 → S_211.1 q = S.1 q := by rw [eS_211]; exact fun q hq => (am_up_n (by omega)).trans (hf_208 q hq)
  have h_225 : S_211.1 a_210 = some (.inl (2, 300, .inl (fun _ => 0))) := by rw [eS_211]; exact am_up_s
  have hna_210 : S_211.2.1 = a_210 + 1 := by rw [eS_211]
  have hza_210 : S_211.2.2 = S_196.2.2 + 300 := by rw [eS_211]
  refine am_putF d_M_init_100 fp_M_44 rfl h_212 rfl rfl (Nat.le_of_ble_eq_true rfl) ?_
  obtain ⟨S_226, eS_226⟩ : ∃ z : am_S, z = (am_up S_211.1 (g.2.2.1 + 6) (.inr (3, [.int 0, .int 0, .ref a_1, .ref a_10, .ref a_21, .int 0, .ref a_34, .ref a_49, .ref a_66, .ref a_85, .ref a_106, .ref a_129, .ref a_154, .int 0, .ref a_181, .ref a_210])), S_211.2) := ⟨_, rfl⟩
  change am_W _ _ _ _ (am_up S_211.1 (g.2.2.1 + 6) (.inr (3, [.int 0, .int 0, .ref a_1, .ref a_10, .ref a_21, .int 0, .ref a_34, .ref a_49, .ref a_66, .ref a_85, .ref a_106, .ref a_129, .ref a_154, .int 0, .ref a_181, .ref a_210])), S_211.2) _
  rw [← eS_226]
  have h_227 : S_226.1 a_1 = some (.inl (0, 12, .inl (fun _ => 0))) := by rw [eS_226]; exact (am_up_n (by omega)).trans h_213
  have h_228 : S_226.1 a_10 = some (.inl (0, 12, .inl (fun _ => 0))) := by rw [eS_226]; exact (am_up_n (by omega)).trans h_214
  have h_229 : S_226.1 a_21 = some (.inl (1, 3600, .inr (.inl (fun _ => 0)))) := by rw [eS_226]; exact (am_up_n (by omega)).trans h_215
  have h_230 : S_226.1 a_34 = some (.inl (0, 80, .inl (fun _ => 0))) := by rw [eS_226]; exact (am_up_n (by omega)).trans h_216
  have h_231 : S_226.1 a_49 = some (.inl (0, 80, .inl (fun _ => 0))) := by rw [eS_226]; exact (am_up_n (by omega)).trans h_217
  have h_232 : S_226.1 a_66 = some (.inl (0, 80, .inl (fun _ => 0))) := by rw [eS_226]; exact (am_up_n (by omega)).trans h_218
  have h_233 : S_226.1 a_85 = some (.inl (0, 320, .inl (fun _ => 0))) := by rw [eS_226]; exact (am_up_n (by omega)).trans h_219
  have h_234 : S_226.1 a_106 = some (.inl (0, 320, .inl (fun _ => 0))) := by rw [eS_226]; exact (am_up_n (by omega)).trans h_220
  have h_235 : S_226.1 a_129 = some (.inl (1, 5, .inr (.inl (fun _ => 0)))) := by rw [eS_226]; exact (am_up_n (by omega)).trans h_221
  have h_236 : S_226.1 a_154 = some (.inl (1, 5, .inr (.inl (fun _ => 0)))) := by rw [eS_226]; exact (am_up_n (by omega)).trans h_222
  have h_237 : S_226.1 a_181 = some (.inl (1, 3000, .inr (.inl (fun _ => 0)))) := by rw [eS_226]; exact (am_up_n (by omega)).trans h_223
  have h_238 : S_226.1 a_210 = some (.inl (2, 300, .inl (fun _ => 0))) := by rw [eS_226]; exact (am_up_n (by omega)).trans h_225
  have hf_239 : ∀ q, q < g.2.2.1 + 6 → S_226.1 q = S.1 q := by rw [eS_226]; exact fun q hq => (am_up_n (by omega)).trans (hf_224 q hq)
  have h_240 : S_226.1 (g.2.2.1 + 6) = some (.inr (3, [.int 0, .int 0, .ref a_1, .ref a_10, .ref a_21, .int 0, .ref a_34, .ref a_49, .ref a_66, .ref a_85, .ref a_106, .ref a_129, .ref a_154, .int 0, .ref a_181, .ref a_210])) := by rw [eS_226]; exact am_up_s
  have hnS_226 : S_226.2.1 = S_211.2.1 := by rw [eS_226]
  have hzS_226 : S_226.2.2 = S_211.2.2 := by rw [eS_226]
  obtain rfl : a_1 = g.2.2.1 + 7 := by omega
  obtain rfl : a_10 = g.2.2.1 + 8 := by omega
  obtain rfl : a_21 = g.2.2.1 + 9 := by omega
  obtain rfl : a_34 = g.2.2.1 + 10 := by omega
  obtain rfl : a_49 = g.2.2.1 + 11 := by omega
  obtain rfl : a_66 = g.2.2.1 + 12 := by omega
  obtain rfl : a_85 = g.2.2.1 + 13 := by omega
  obtain rfl : a_106 = g.2.2.1 + 14 := by omega
  obtain rfl : a_129 = g.2.2.1 + 15 := by omega
  obtain rfl : a_154 = g.2.2.1 + 16 := by omega
  obtain rfl : a_181 = g.2.2.1 + 17 := by omega
  obtain rfl : a_210 = g.2.2.1 + 18 := by omega
  exact am_vret d_M_init_103 rfl (hP S_226 ⟨h_240, h_227, h_228, h_229, h_230, h_231, h_232, h_233, h_234, h_235, h_236, h_237, h_238⟩ (Prod.ext (by show S_226.2.1 = g.2.2.1 + 19; omega) (by show S_226.2.2 = S.2.2 + 7814; omega)) hf_239)
