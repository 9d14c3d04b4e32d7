abbrev mi_Li_init_2 : q_M := (prog_5_method_1_code, 1, (Option.none : Option Jvm.ClassFile.FieldType), "LassoDesk$Line", "<init>", [], some 2)
set_option maxHeartbeats 8000000 in
set_option maxRecDepth 100000 in
theorem ti_Li_init_2 {E : q_E} : q_Ct E y_Li_init mi_Li_init_2 { frames := 1, cells := 1, slots := 18, locals := 64 } [.inr (0, [.null, .null, .null, .null, .null, .null, .int 0, .int 0]), .inr (1, [.null, .int 0, .int 0])] [.ref 1] (.inl none, [.inr (0, [.null, .null, .null, .null, .null, .null, .int 0, .int 0]), .inr (1, [.ref 2, .int 0, .int 0]), .inl (q_kA E 2, 18, .inl fun _ => 0)], 1, 18) := by
  refine q_Ct.of (lv := [(0, .ref 1)]) (by decide) ⟨rfl, rfl⟩ rfl (Nat.le_of_ble_eq_true rfl) ?_
  refine q_aloadn 1 d_Li_init_0 rfl 0 rfl ?_
  refine q_objI 4 d_Li_init_1 rfl (q_tb 28 (by decide +kernel)) ⟨by decide, Nat.le_of_ble_eq_true rfl⟩ ?_
  refine q_aloadn 5 d_Li_init_4 rfl 0 rfl ?_
  refine q_bipush (v := 18) 7 d_Li_init_5 rfl (by decide) ?_
  refine q_newa (t := 2) (N := 18) (a0 := (18, .inl fun _ => 0)) (ty := .char) 9 d_Li_init_7 rfl (k0 := 2) rfl rfl (Nat.le_of_ble_eq_true rfl) rfl rfl (by rintro ⟨_, h⟩; cases h) (q_tb 39 (by decide +kernel)) (fun _ => rfl) (by decide) (by decide) (by decide) (by decide) (by decide) ?_
  refine q_weq (ws' := [.inr (0, [.null, .null, .null, .null, .null, .null, .int 0, .int 0]), .inr (1, [.null, .int 0, .int 0]), .inl (q_kA E 2, 18, .inl fun _ => 0)]) rfl ?_
  refine q_putF (ws' := [.inr (0, [.null, .null, .null, .null, .null, .null, .int 0, .int 0]), .inr (1, [.ref 2, .int 0, .int 0]), .inl (q_kA E 2, 18, .inl fun _ => 0)]) 12 d_Li_init_9 rfl fl_Li_9 (by decide) rfl rfl rfl (fun C T N h => by cases h; rfl) rfl rfl (Nat.le_of_ble_eq_true rfl) rfl ?_
  refine q_aloadn 13 d_Li_init_12 rfl 0 rfl ?_
  refine q_iconst (v := 0) 14 d_Li_init_13 rfl (by decide) ?_
  refine q_put (ws' := [.inr (0, [.null, .null, .null, .null, .null, .null, .int 0, .int 0]), .inr (1, [.ref 2, .int 0, .int 0]), .inl (q_kA E 2, 18, .inl fun _ => 0)]) 17 d_Li_init_14 rfl fl_Li_15 (by decide) rfl rfl rfl rfl (Nat.le_of_ble_eq_true rfl) rfl ?_
  refine q_aloadn 18 d_Li_init_17 rfl 0 rfl ?_
  refine q_iconst (v := 0) 19 d_Li_init_18 rfl (by decide) ?_
  refine q_put (ws' := [.inr (0, [.null, .null, .null, .null, .null, .null, .int 0, .int 0]), .inr (1, [.ref 2, .int 0, .int 0]), .inl (q_kA E 2, 18, .inl fun _ => 0)]) 22 d_Li_init_19 rfl fl_Li_19 (by decide) rfl rfl rfl rfl (Nat.le_of_ble_eq_true rfl) rfl ?_
  exact q_vret d_Li_init_22 rfl (by decide) (by decide)
