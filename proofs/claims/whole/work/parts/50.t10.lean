set_option maxHeartbeats 4000000 in
set_option maxRecDepth 100000 in
theorem t_Mo_stem {E : q_E} {c d : Nat} {x : q_W} {ρ : Int32 × q_W} (h : f_Mo_stem x = some ρ) : q_Ct E y_Mo_stem m_Mo_stem (q_rm 1) (q_cells E c d x) [.ref 32] (q_rS E c d ρ) := by
  unfold f_Mo_stem at h
  refine q_Ct.of (lv := [(0, .ref 32)]) (by decide) ⟨rfl, rfl⟩ rfl (Nat.le_of_ble_eq_true rfl) ?_
  refine q_aloadn 1 d_Mo_stem_0 rfl 0 rfl ?_
  refine q_iconst (v := 1) 2 d_Mo_stem_1 rfl (by decide) ?_
  refine q_xcallS (as := [.ref 32, .int 1]) (rest := []) 5 h (fun z e => t_Mo_refused e) (q_xinvV (Y := m_Mo_refused) d_Mo_stem_2 ml_Mo_208 ms_Mo_refused.1 ms_Mo_refused.2 k_Mo_refused.1 (by decide) n_Mo_refused (by decide) rfl rfl) k_Mo_refused (q_ro (by decide) (by decide)) (Nat.le_of_ble_eq_true rfl) d_Mo_stem_2 rfl rfl rfl (fun q1 eq1 h => ?_)
  refine q_ite h (fun c2 h => ?_) (fun c2 h => ?_)
  · refine q_if_eq_t 12 d_Mo_stem_5 (by decide) c2 ?_
    refine q_aloadn 13 d_Mo_stem_12 rfl 0 rfl ?_
    refine q_xget 16 d_Mo_stem_13 rfl fl_Mo_192 (by decide) rfl rfl ?_
    cases h
    exact q_iret d_Mo_stem_16 rfl (Nat.zero_le _) (Nat.zero_le _)
  · refine q_if_eq_f 8 d_Mo_stem_5 rfl 12 (by decide) c2 ?_
    refine q_iconst (v := 0) 9 d_Mo_stem_8 rfl (by decide) ?_
    refine q_goto 16 d_Mo_stem_9 (by decide) ?_
    cases h
    exact q_iret d_Mo_stem_16 rfl (Nat.zero_le _) (Nat.zero_le _)
set_option maxHeartbeats 4000000 in
set_option maxRecDepth 100000 in
theorem t_Mo_loop {E : q_E} {c d : Nat} {x : q_W} {ρ : Int32 × q_W} (h : f_Mo_loop x = some ρ) : q_Ct E y_Mo_loop m_Mo_loop (q_rm 1) (q_cells E c d x) [.ref 32] (q_rS E c d ρ) := by
  unfold f_Mo_loop at h
  refine q_Ct.of (lv := [(0, .ref 32)]) (by decide) ⟨rfl, rfl⟩ rfl (Nat.le_of_ble_eq_true rfl) ?_
  refine q_aloadn 1 d_Mo_loop_0 rfl 0 rfl ?_
  refine q_iconst (v := 1) 2 d_Mo_loop_1 rfl (by decide) ?_
  refine q_xcallS (as := [.ref 32, .int 1]) (rest := []) 5 h (fun z e => t_Mo_refused e) (q_xinvV (Y := m_Mo_refused) d_Mo_loop_2 ml_Mo_208 ms_Mo_refused.1 ms_Mo_refused.2 k_Mo_refused.1 (by decide) n_Mo_refused (by decide) rfl rfl) k_Mo_refused (q_ro (by decide) (by decide)) (Nat.le_of_ble_eq_true rfl) d_Mo_loop_2 rfl rfl rfl (fun q1 eq1 h => ?_)
  refine q_ite h (fun c2 h => ?_) (fun c2 h => ?_)
  · refine q_if_eq_t 12 d_Mo_loop_5 (by decide) c2 ?_
    refine q_aloadn 13 d_Mo_loop_12 rfl 0 rfl ?_
    refine q_xget 16 d_Mo_loop_13 rfl fl_Mo_195 (by decide) rfl rfl ?_
    cases h
    exact q_iret d_Mo_loop_16 rfl (Nat.zero_le _) (Nat.zero_le _)
  · refine q_if_eq_f 8 d_Mo_loop_5 rfl 12 (by decide) c2 ?_
    refine q_iconst (v := 0) 9 d_Mo_loop_8 rfl (by decide) ?_
    refine q_goto 16 d_Mo_loop_9 (by decide) ?_
    cases h
    exact q_iret d_Mo_loop_16 rfl (Nat.zero_le _) (Nat.zero_le _)
set_option maxHeartbeats 4000000 in
set_option maxRecDepth 100000 in
theorem t_Mo_step_J41 {E : q_E} {c d : Nat} {ρ : Int32 × q_W} : ∀ (x : q_W) (v1 : Int32) (s0 : Int32), f_Mo_step_J41  x v1 s0 = some ρ → AW E (q_rm 0) m_Mo_step (q_cells E c d x) 0 0 41 [(0, .ref 32), (1, .int v1)] [.int s0, .ref 32] (q_rS E c d ρ) := by
  intro x v1 s0 h
  unfold f_Mo_step_J41 at h
  refine q_xput 44 d_Mo_step_41 rfl fl_Mo_93 (by decide) rfl rfl rfl rfl (Nat.le_of_ble_eq_true rfl) (fun _ => rfl) h (fun x5 ex5 h => ?_)
  refine q_aloadn 45 d_Mo_step_44 rfl 0 rfl ?_
  refine q_xget 48 d_Mo_step_45 rfl fl_Mo_93 (by decide) rfl rfl ?_
  refine q_ite h (fun c7 h => ?_) (fun c7 h => ?_)
  · refine q_if_le_t 55 d_Mo_step_48 (by decide) c7 ?_
    refine q_aloadn 56 d_Mo_step_55 rfl 0 rfl ?_
    refine q_xget 59 d_Mo_step_56 rfl fl_Mo_77 (by decide) rfl rfl ?_
    refine q_iloadn 60 d_Mo_step_59 rfl 1 rfl ?_
    refine q_xiald 61 d_Mo_step_60 rfl (by decide) (fun _ => rfl) h (fun w6 ew6 h => ?_)
    cases h
    exact q_iret d_Mo_step_61 rfl (Nat.zero_le _) (Nat.zero_le _)
  · refine q_if_le_f 51 d_Mo_step_48 rfl 55 (by decide) c7 ?_
    refine q_iconst (v := 0) 52 d_Mo_step_51 rfl (by decide) ?_
    refine q_goto 61 d_Mo_step_52 (by decide) ?_
    cases h
    exact q_iret d_Mo_step_61 rfl (Nat.zero_le _) (Nat.zero_le _)
set_option maxHeartbeats 4000000 in
set_option maxRecDepth 100000 in
theorem t_Mo_step_J36 {E : q_E} {c d : Nat} {ρ : Int32 × q_W} : ∀ (x : q_W) (v1 : Int32), f_Mo_step_J36  x v1 = some ρ → AW E (q_rm 0) m_Mo_step (q_cells E c d x) 0 0 36 [(0, .ref 32), (1, .int v1)] [.ref 32] (q_rS E c d ρ) := by
  intro x v1 h
  unfold f_Mo_step_J36 at h
  refine q_iconst (v := 2) 37 d_Mo_step_36 rfl (by decide) ?_
  refine q_goto 41 d_Mo_step_37 (by decide) ?_
  exact t_Mo_step_J41  _ _ _ h
set_option maxHeartbeats 4000000 in
set_option maxRecDepth 100000 in
theorem t_Mo_step_J15 {E : q_E} {c d : Nat} {ρ : Int32 × q_W} : ∀ (x : q_W) (v1 : Int32), f_Mo_step_J15  x v1 = some ρ → AW E (q_rm 0) m_Mo_step (q_cells E c d x) 0 0 15 [(0, .ref 32), (1, .int v1)] [.ref 32] (q_rS E c d ρ) := by
  intro x v1 h
  unfold f_Mo_step_J15 at h
  refine q_iconst (v := 1) 16 d_Mo_step_15 rfl (by decide) ?_
  refine q_goto 41 d_Mo_step_16 (by decide) ?_
  exact t_Mo_step_J41  _ _ _ h
set_option maxHeartbeats 4000000 in
set_option maxRecDepth 100000 in
theorem t_Mo_step {E : q_E} {c d : Nat} {x : q_W} {a1 : Int32} {ρ : Int32 × q_W} (h : f_Mo_step x a1 = some ρ) : q_Ct E y_Mo_step m_Mo_step (q_rm 0) (q_cells E c d x) [.ref 32, .int a1] (q_rS E c d ρ) := by
  unfold f_Mo_step at h
  refine q_Ct.of (lv := [(0, .ref 32), (1, .int a1)]) (by decide) ⟨rfl, rfl⟩ rfl (Nat.le_of_ble_eq_true rfl) ?_
  refine q_aloadn 1 d_Mo_step_0 rfl 0 rfl ?_
  refine q_aloadn 2 d_Mo_step_1 rfl 0 rfl ?_
  refine q_xget 5 d_Mo_step_2 rfl fl_Mo_146 (by decide) rfl rfl ?_
  refine q_ite h (fun c4 h => ?_) (fun c4 h => ?_)
  · refine q_if_eq_t 15 d_Mo_step_5 (by decide) c4 ?_
    exact t_Mo_step_J15  _ _ h
  · refine q_if_eq_f 8 d_Mo_step_5 rfl 15 (by decide) c4 ?_
    refine q_aloadn 9 d_Mo_step_8 rfl 0 rfl ?_
    refine q_xget 12 d_Mo_step_9 rfl fl_Mo_192 (by decide) rfl rfl ?_
    refine q_ite h (fun c3 h => ?_) (fun c3 h => ?_)
    · refine q_if_ge_t 19 d_Mo_step_12 (by decide) c3 ?_
      refine q_iloadn 20 d_Mo_step_19 rfl 1 rfl ?_
      refine q_ite h (fun c2 h => ?_) (fun c2 h => ?_)
      · refine q_if_lt_t 36 d_Mo_step_20 (by decide) c2 ?_
        exact t_Mo_step_J36  _ _ h
      · refine q_if_lt_f 23 d_Mo_step_20 rfl 36 (by decide) c2 ?_
        refine q_iloadn 24 d_Mo_step_23 rfl 1 rfl ?_
        refine q_aloadn 25 d_Mo_step_24 rfl 0 rfl ?_
        refine q_xget 28 d_Mo_step_25 rfl fl_Mo_192 (by decide) rfl rfl ?_
        refine q_aloadn 29 d_Mo_step_28 rfl 0 rfl ?_
        refine q_xget 32 d_Mo_step_29 rfl fl_Mo_195 (by decide) rfl rfl ?_
        refine q_iadd 33 d_Mo_step_32 rfl ?_
        refine q_ite h (fun c1 h => ?_) (fun c1 h => ?_)
        · refine q_icmp_lt_t 40 d_Mo_step_33 (by decide) c1 ?_
          refine q_iconst (v := 0) 41 d_Mo_step_40 rfl (by decide) ?_
          exact t_Mo_step_J41  _ _ _ h
        · refine q_icmp_lt_f 36 d_Mo_step_33 rfl 40 (by decide) c1 ?_
          exact t_Mo_step_J36  _ _ h
    · refine q_if_ge_f 15 d_Mo_step_12 rfl 19 (by decide) c3 ?_
      exact t_Mo_step_J15  _ _ h
set_option maxHeartbeats 4000000 in
set_option maxRecDepth 100000 in
theorem t_Mo_shape_L71 {E : q_E} {c d : Nat} {ρ : q_W} : ∀ (n : Nat) (x : q_W) (v1 : Int32) (v2 : Int32) (v3 : Int32), f_Mo_shape_L71  n x v1 v2 v3 = some ρ → AW E (q_rm 0) m_Mo_shape (q_cells E c d x) 0 0 71 [(0, .ref 32), (1, .int v1), (2, .int v2), (3, .int v3)] [] (q_rV E c d ρ) := by
  intro n
  induction n with
  | zero =>
    intro x v1 v2 v3 h
    have h : (none : Option q_W) = some ρ := h
    cases h
  | succ n ih =>
    intro x v1 v2 v3 h
    unfold f_Mo_shape_L71 at h
    refine q_iloadn 72 d_Mo_shape_71 rfl 3 rfl ?_
    refine q_bipush (v := 16) 74 d_Mo_shape_72 rfl (by decide) ?_
    refine q_ite h (fun c14 h => ?_) (fun c14 h => ?_)
    · refine q_icmp_ge_t 90 d_Mo_shape_74 (by decide) c14 ?_
      refine q_aloadn 91 d_Mo_shape_90 rfl 0 rfl ?_
      refine q_iloadn 92 d_Mo_shape_91 rfl 1 rfl ?_
      refine q_xput 95 d_Mo_shape_92 rfl fl_Mo_215 (by decide) rfl rfl rfl rfl (Nat.le_of_ble_eq_true rfl) (fun _ => rfl) h (fun x11 ex11 h => ?_)
      refine q_aloadn 96 d_Mo_shape_95 rfl 0 rfl ?_
      refine q_iloadn 97 d_Mo_shape_96 rfl 2 rfl ?_
      refine q_xput 100 d_Mo_shape_97 rfl fl_Mo_89 (by decide) rfl rfl rfl rfl (Nat.le_of_ble_eq_true rfl) (fun _ => rfl) h (fun x12 ex12 h => ?_)
      cases h
      exact q_vret d_Mo_shape_100 rfl (Nat.zero_le _) (Nat.zero_le _)
    · refine q_icmp_ge_f 77 d_Mo_shape_74 rfl 90 (by decide) c14 ?_
      refine q_aloadn 78 d_Mo_shape_77 rfl 0 rfl ?_
      refine q_xget 81 d_Mo_shape_78 rfl fl_Mo_83 (by decide) rfl rfl ?_
      refine q_iloadn 82 d_Mo_shape_81 rfl 3 rfl ?_
      refine q_iconst (v := 0) 83 d_Mo_shape_82 rfl (by decide) ?_
      refine q_xiast 84 d_Mo_shape_83 rfl (by decide) (fun _ => rfl) h (fun x13 ex13 h => ?_)
      refine q_iinc (v := (v3 + 1)) (lv' := [(3, .int (v3 + 1)), (0, .ref 32), (1, .int v1), (2, .int v2)]) 87 d_Mo_shape_84 rfl 3 rfl (q_ai (by decide)) (by decide) rfl ?_
      refine q_goto 71 d_Mo_shape_87 (by decide) ?_
      refine q_sub (lv' := [(0, .ref 32), (1, .int v1), (2, .int v2), (3, .int (v3 + 1))]) [1, 2, 3, 0] rfl ?_
      exact ih _ _ _ _ h
set_option maxHeartbeats 4000000 in
set_option maxRecDepth 100000 in
theorem t_Mo_shape_L48 {E : q_E} {c d : Nat} {ρ : q_W} : ∀ (n : Nat) (x : q_W) (v1 : Int32) (v2 : Int32) (v3 : Int32), f_Mo_shape_L48  n x v1 v2 v3 = some ρ → AW E (q_rm 0) m_Mo_shape (q_cells E c d x) 0 0 48 [(0, .ref 32), (1, .int v1), (2, .int v2), (3, .int v3)] [] (q_rV E c d ρ) := by
  intro n
  induction n with
  | zero =>
    intro x v1 v2 v3 h
    have h : (none : Option q_W) = some ρ := h
    cases h
  | succ n ih =>
    intro x v1 v2 v3 h
    unfold f_Mo_shape_L48 at h
    refine q_iloadn 49 d_Mo_shape_48 rfl 3 rfl ?_
    refine q_bipush (v := 16) 51 d_Mo_shape_49 rfl (by decide) ?_
    refine q_ite h (fun c10 h => ?_) (fun c10 h => ?_)
    · refine q_icmp_ge_t 67 d_Mo_shape_51 (by decide) c10 ?_
      refine q_iloadn 68 d_Mo_shape_67 rfl 1 rfl ?_
      refine q_iloadn 69 d_Mo_shape_68 rfl 2 rfl ?_
      refine q_iadd 70 d_Mo_shape_69 rfl ?_
      refine q_xtop h (fun z8 ez8 h => ?_)
      refine q_istoren (lv' := [(3, .int z8), (0, .ref 32), (1, .int v1), (2, .int v2)]) 71 d_Mo_shape_70 rfl (by decide) rfl ?_
      refine q_sub (lv' := [(0, .ref 32), (1, .int v1), (2, .int v2), (3, .int z8)]) [1, 2, 3, 0] rfl ?_
      exact t_Mo_shape_L71  q_fu _ _ _ _ h
    · refine q_icmp_ge_f 54 d_Mo_shape_51 rfl 67 (by decide) c10 ?_
      refine q_aloadn 55 d_Mo_shape_54 rfl 0 rfl ?_
      refine q_xget 58 d_Mo_shape_55 rfl fl_Mo_83 (by decide) rfl rfl ?_
      refine q_iloadn 59 d_Mo_shape_58 rfl 3 rfl ?_
      refine q_iconst (v := 0) 60 d_Mo_shape_59 rfl (by decide) ?_
      refine q_xiast 61 d_Mo_shape_60 rfl (by decide) (fun _ => rfl) h (fun x9 ex9 h => ?_)
      refine q_iinc (v := (v3 + 1)) (lv' := [(3, .int (v3 + 1)), (0, .ref 32), (1, .int v1), (2, .int v2)]) 64 d_Mo_shape_61 rfl 3 rfl (q_ai (by decide)) (by decide) rfl ?_
      refine q_goto 48 d_Mo_shape_64 (by decide) ?_
      refine q_sub (lv' := [(0, .ref 32), (1, .int v1), (2, .int v2), (3, .int (v3 + 1))]) [1, 2, 3, 0] rfl ?_
      exact ih _ _ _ _ h
set_option maxHeartbeats 4000000 in
set_option maxRecDepth 100000 in
theorem t_Mo_shape_J27 {E : q_E} {c d : Nat} {ρ : q_W} : ∀ (x : q_W) (v1 : Int32) (v2 : Int32) (s0 : Int32), f_Mo_shape_J27  x v1 v2 s0 = some ρ → AW E (q_rm 0) m_Mo_shape (q_cells E c d x) 0 0 27 [(0, .ref 32), (1, .int v1), (2, .int v2)] [.int s0, .ref 32] (q_rV E c d ρ) := by
  intro x v1 v2 s0 h
  unfold f_Mo_shape_J27 at h
  refine q_xput 30 d_Mo_shape_27 rfl fl_Mo_93 (by decide) rfl rfl rfl rfl (Nat.le_of_ble_eq_true rfl) (fun _ => rfl) h (fun x5 ex5 h => ?_)
  refine q_aloadn 31 d_Mo_shape_30 rfl 0 rfl ?_
  refine q_xget 34 d_Mo_shape_31 rfl fl_Mo_93 (by decide) rfl rfl ?_
  refine q_ite h (fun c7 h => ?_) (fun c7 h => ?_)
  · refine q_if_le_t 38 d_Mo_shape_34 (by decide) c7 ?_
    refine q_aloadn 39 d_Mo_shape_38 rfl 0 rfl ?_
    refine q_xget 42 d_Mo_shape_39 rfl fl_Mo_215 (by decide) rfl rfl ?_
    refine q_aloadn 43 d_Mo_shape_42 rfl 0 rfl ?_
    refine q_xget 46 d_Mo_shape_43 rfl fl_Mo_89 (by decide) rfl rfl ?_
    refine q_iadd 47 d_Mo_shape_46 rfl ?_
    refine q_xtop h (fun z6 ez6 h => ?_)
    refine q_istoren (lv' := [(3, .int z6), (0, .ref 32), (1, .int v1), (2, .int v2)]) 48 d_Mo_shape_47 rfl (by decide) rfl ?_
    refine q_sub (lv' := [(0, .ref 32), (1, .int v1), (2, .int v2), (3, .int z6)]) [1, 2, 3, 0] rfl ?_
    exact t_Mo_shape_L48  q_fu _ _ _ _ h
  · refine q_if_le_f 37 d_Mo_shape_34 rfl 38 (by decide) c7 ?_
    cases h
    exact q_vret d_Mo_shape_37 rfl (Nat.zero_le _) (Nat.zero_le _)
set_option maxHeartbeats 4000000 in
set_option maxRecDepth 100000 in
theorem t_Mo_shape_J22 {E : q_E} {c d : Nat} {ρ : q_W} : ∀ (x : q_W) (v1 : Int32) (v2 : Int32), f_Mo_shape_J22  x v1 v2 = some ρ → AW E (q_rm 0) m_Mo_shape (q_cells E c d x) 0 0 22 [(0, .ref 32), (1, .int v1), (2, .int v2)] [.ref 32] (q_rV E c d ρ) := by
  intro x v1 v2 h
  unfold f_Mo_shape_J22 at h
  refine q_iconst (v := 1) 23 d_Mo_shape_22 rfl (by decide) ?_
  refine q_goto 27 d_Mo_shape_23 (by decide) ?_
  exact t_Mo_shape_J27  _ _ _ _ h
set_option maxHeartbeats 4000000 in
set_option maxRecDepth 100000 in
theorem t_Mo_shape {E : q_E} {c d : Nat} {x : q_W} {a1 : Int32} {a2 : Int32} {ρ : q_W} (h : f_Mo_shape x a1 a2 = some ρ) : q_Ct E y_Mo_shape m_Mo_shape (q_rm 0) (q_cells E c d x) [.ref 32, .int a1, .int a2] (q_rV E c d ρ) := by
  unfold f_Mo_shape at h
  refine q_Ct.of (lv := [(0, .ref 32), (1, .int a1), (2, .int a2)]) (by decide) ⟨rfl, rfl⟩ rfl (Nat.le_of_ble_eq_true rfl) ?_
  refine q_aloadn 1 d_Mo_shape_0 rfl 0 rfl ?_
  refine q_iloadn 2 d_Mo_shape_1 rfl 1 rfl ?_
  refine q_ite h (fun c4 h => ?_) (fun c4 h => ?_)
  · refine q_if_lt_t 22 d_Mo_shape_2 (by decide) c4 ?_
    exact t_Mo_shape_J22  _ _ _ h
  · refine q_if_lt_f 5 d_Mo_shape_2 rfl 22 (by decide) c4 ?_
    refine q_iloadn 6 d_Mo_shape_5 rfl 1 rfl ?_
    refine q_bipush (v := 8) 8 d_Mo_shape_6 rfl (by decide) ?_
    refine q_ite h (fun c3 h => ?_) (fun c3 h => ?_)
    · refine q_icmp_gt_t 22 d_Mo_shape_8 (by decide) c3 ?_
      exact t_Mo_shape_J22  _ _ _ h
    · refine q_icmp_gt_f 11 d_Mo_shape_8 rfl 22 (by decide) c3 ?_
      refine q_iloadn 12 d_Mo_shape_11 rfl 2 rfl ?_
      refine q_iconst (v := 1) 13 d_Mo_shape_12 rfl (by decide) ?_
      refine q_ite h (fun c2 h => ?_) (fun c2 h => ?_)
      · refine q_icmp_lt_t 22 d_Mo_shape_13 (by decide) c2 ?_
        exact t_Mo_shape_J22  _ _ _ h
      · refine q_icmp_lt_f 16 d_Mo_shape_13 rfl 22 (by decide) c2 ?_
        refine q_iloadn 17 d_Mo_shape_16 rfl 2 rfl ?_
        refine q_bipush (v := 8) 19 d_Mo_shape_17 rfl (by decide) ?_
        refine q_ite h (fun c1 h => ?_) (fun c1 h => ?_)
        · refine q_icmp_le_t 26 d_Mo_shape_19 (by decide) c1 ?_
          refine q_iconst (v := 0) 27 d_Mo_shape_26 rfl (by decide) ?_
          exact t_Mo_shape_J27  _ _ _ _ h
        · refine q_icmp_le_f 22 d_Mo_shape_19 rfl 26 (by decide) c1 ?_
          exact t_Mo_shape_J22  _ _ _ h
set_option maxHeartbeats 4000000 in
set_option maxRecDepth 100000 in
theorem t_Mo_set_J23 {E : q_E} {c d : Nat} {ρ : Int32 × q_W} : ∀ (x : q_W) (v1 : Int32) (v2 : Int32) (s0 : Int32), f_Mo_set_J23  x v1 v2 s0 = some ρ → AW E (q_rm 0) m_Mo_set (q_cells E c d x) 0 0 23 [(0, .ref 32), (1, .int v1), (2, .int v2)] [.int s0, .ref 32] (q_rS E c d ρ) := by
  intro x v1 v2 s0 h
  unfold f_Mo_set_J23 at h
  refine q_xput 26 d_Mo_set_23 rfl fl_Mo_93 (by decide) rfl rfl rfl rfl (Nat.le_of_ble_eq_true rfl) (fun _ => rfl) h (fun x3 ex3 h => ?_)
  refine q_aloadn 27 d_Mo_set_26 rfl 0 rfl ?_
  refine q_xget 30 d_Mo_set_27 rfl fl_Mo_93 (by decide) rfl rfl ?_
  refine q_ite h (fun c6 h => ?_) (fun c6 h => ?_)
  · refine q_if_le_t 35 d_Mo_set_30 (by decide) c6 ?_
    refine q_aloadn 36 d_Mo_set_35 rfl 0 rfl ?_
    refine q_xget 39 d_Mo_set_36 rfl fl_Mo_83 (by decide) rfl rfl ?_
    refine q_iloadn 40 d_Mo_set_39 rfl 1 rfl ?_
    refine q_xiald 41 d_Mo_set_40 rfl (by decide) (fun _ => rfl) h (fun w4 ew4 h => ?_)
    refine q_istoren (lv' := [(3, .int w4), (0, .ref 32), (1, .int v1), (2, .int v2)]) 42 d_Mo_set_41 rfl (by decide) rfl ?_
    refine q_aloadn 43 d_Mo_set_42 rfl 1 rfl ?_
    refine q_xget 46 d_Mo_set_43 rfl fl_Mo_83 (by decide) rfl rfl ?_
    refine q_iloadn 47 d_Mo_set_46 rfl 2 rfl ?_
    refine q_iloadn 48 d_Mo_set_47 rfl 3 rfl ?_
    refine q_bipush (v := 7) 50 d_Mo_set_48 rfl (by decide) ?_
    refine q_iand 51 d_Mo_set_50 rfl ?_
    refine q_xiast 52 d_Mo_set_51 rfl (by decide) (fun _ => rfl) h (fun x5 ex5 h => ?_)
    refine q_iloadn 53 d_Mo_set_52 rfl 0 rfl ?_
    cases h
    exact q_iret d_Mo_set_53 rfl (Nat.zero_le _) (Nat.zero_le _)
  · refine q_if_le_f 33 d_Mo_set_30 rfl 35 (by decide) c6 ?_
    refine q_iconst (v := 0) 34 d_Mo_set_33 rfl (by decide) ?_
    cases h
    exact q_iret d_Mo_set_34 rfl (Nat.zero_le _) (Nat.zero_le _)
set_option maxHeartbeats 4000000 in
set_option maxRecDepth 100000 in
theorem t_Mo_set_J18 {E : q_E} {c d : Nat} {ρ : Int32 × q_W} : ∀ (x : q_W) (v1 : Int32) (v2 : Int32), f_Mo_set_J18  x v1 v2 = some ρ → AW E (q_rm 0) m_Mo_set (q_cells E c d x) 0 0 18 [(0, .ref 32), (1, .int v1), (2, .int v2)] [.ref 32] (q_rS E c d ρ) := by
  intro x v1 v2 h
  unfold f_Mo_set_J18 at h
  refine q_iconst (v := 1) 19 d_Mo_set_18 rfl (by decide) ?_
  refine q_goto 23 d_Mo_set_19 (by decide) ?_
  exact t_Mo_set_J23  _ _ _ _ h
set_option maxHeartbeats 4000000 in
set_option maxRecDepth 100000 in
theorem t_Mo_set {E : q_E} {c d : Nat} {x : q_W} {a1 : Int32} {a2 : Int32} {ρ : Int32 × q_W} (h : f_Mo_set x a1 a2 = some ρ) : q_Ct E y_Mo_set m_Mo_set (q_rm 0) (q_cells E c d x) [.ref 32, .int a1, .int a2] (q_rS E c d ρ) := by
  unfold f_Mo_set at h
  refine q_Ct.of (lv := [(0, .ref 32), (1, .int a1), (2, .int a2)]) (by decide) ⟨rfl, rfl⟩ rfl (Nat.le_of_ble_eq_true rfl) ?_
  refine q_aloadn 1 d_Mo_set_0 rfl 0 rfl ?_
  refine q_iloadn 2 d_Mo_set_1 rfl 1 rfl ?_
  refine q_ite h (fun c2 h => ?_) (fun c2 h => ?_)
  · refine q_if_lt_t 18 d_Mo_set_2 (by decide) c2 ?_
    exact t_Mo_set_J18  _ _ _ h
  · refine q_if_lt_f 5 d_Mo_set_2 rfl 18 (by decide) c2 ?_
    refine q_iloadn 6 d_Mo_set_5 rfl 1 rfl ?_
    refine q_aloadn 7 d_Mo_set_6 rfl 0 rfl ?_
    refine q_xget 10 d_Mo_set_7 rfl fl_Mo_215 (by decide) rfl rfl ?_
    refine q_aloadn 11 d_Mo_set_10 rfl 0 rfl ?_
    refine q_xget 14 d_Mo_set_11 rfl fl_Mo_89 (by decide) rfl rfl ?_
    refine q_iadd 15 d_Mo_set_14 rfl ?_
    refine q_ite h (fun c1 h => ?_) (fun c1 h => ?_)
    · refine q_icmp_lt_t 22 d_Mo_set_15 (by decide) c1 ?_
      refine q_iconst (v := 0) 23 d_Mo_set_22 rfl (by decide) ?_
      exact t_Mo_set_J23  _ _ _ _ h
    · refine q_icmp_lt_f 18 d_Mo_set_15 rfl 22 (by decide) c1 ?_
      exact t_Mo_set_J18  _ _ _ h
set_option maxHeartbeats 4000000 in
set_option maxRecDepth 100000 in
theorem t_Mo_adopt_L53 {E : q_E} {c d : Nat} {ρ : Int32 × q_W} : ∀ (n : Nat) (x : q_W) (v1 : Int32), f_Mo_adopt_L53  n x v1 = some ρ → AW E (q_rm 1) m_Mo_adopt (q_cells E c d x) 0 0 53 [(0, .ref 32), (1, .int v1)] [] (q_rS E c d ρ) := by
  intro n
  induction n with
  | zero =>
    intro x v1 h
    have h : (none : Option (Int32 × q_W)) = some ρ := h
    cases h
  | succ n ih =>
    intro x v1 h
    unfold f_Mo_adopt_L53 at h
    refine q_iloadn 54 d_Mo_adopt_53 rfl 1 rfl ?_
    refine q_bipush (v := 16) 56 d_Mo_adopt_54 rfl (by decide) ?_
    refine q_ite h (fun c12 h => ?_) (fun c12 h => ?_)
    · refine q_icmp_ge_t 97 d_Mo_adopt_56 (by decide) c12 ?_
      refine q_iconst (v := 1) 98 d_Mo_adopt_97 rfl (by decide) ?_
      cases h
      exact q_zret d_Mo_adopt_98 rfl (Nat.zero_le _) (Nat.zero_le _)
    · refine q_icmp_ge_f 59 d_Mo_adopt_56 rfl 97 (by decide) c12 ?_
      refine q_aloadn 60 d_Mo_adopt_59 rfl 0 rfl ?_
      refine q_xget 63 d_Mo_adopt_60 rfl fl_Mo_83 (by decide) rfl rfl ?_
      refine q_iloadn 64 d_Mo_adopt_63 rfl 1 rfl ?_
      refine q_iloadn 65 d_Mo_adopt_64 rfl 1 rfl ?_
      refine q_aloadn 66 d_Mo_adopt_65 rfl 0 rfl ?_
      refine q_xget 69 d_Mo_adopt_66 rfl fl_Mo_192 (by decide) rfl rfl ?_
      refine q_aloadn 70 d_Mo_adopt_69 rfl 0 rfl ?_
      refine q_xget 73 d_Mo_adopt_70 rfl fl_Mo_195 (by decide) rfl rfl ?_
      refine q_iadd 74 d_Mo_adopt_73 rfl ?_
      refine q_ite h (fun c11 h => ?_) (fun c11 h => ?_)
      · refine q_icmp_ge_t 89 d_Mo_adopt_74 (by decide) c11 ?_
        refine q_iconst (v := 0) 90 d_Mo_adopt_89 rfl (by decide) ?_
        refine q_xiast 91 d_Mo_adopt_90 rfl (by decide) (fun _ => rfl) h (fun x8 ex8 h => ?_)
        refine q_iinc (v := (v1 + 1)) (lv' := [(1, .int (v1 + 1)), (0, .ref 32)]) 94 d_Mo_adopt_91 rfl 1 rfl (q_ai (by decide)) (by decide) rfl ?_
        refine q_goto 53 d_Mo_adopt_94 (by decide) ?_
        refine q_sub (lv' := [(0, .ref 32), (1, .int (v1 + 1))]) [1, 0] rfl ?_
        exact ih _ _ h
      · refine q_icmp_ge_f 77 d_Mo_adopt_74 rfl 89 (by decide) c11 ?_
        refine q_aloadn 78 d_Mo_adopt_77 rfl 0 rfl ?_
        refine q_xget 81 d_Mo_adopt_78 rfl fl_Mo_77 (by decide) rfl rfl ?_
        refine q_iloadn 82 d_Mo_adopt_81 rfl 1 rfl ?_
        refine q_xiald 83 d_Mo_adopt_82 rfl (by decide) (fun _ => rfl) h (fun w9 ew9 h => ?_)
        refine q_bipush (v := 7) 85 d_Mo_adopt_83 rfl (by decide) ?_
        refine q_iand 86 d_Mo_adopt_85 rfl ?_
        refine q_goto 90 d_Mo_adopt_86 (by decide) ?_
        refine q_xiast 91 d_Mo_adopt_90 rfl (by decide) (fun _ => rfl) h (fun x10 ex10 h => ?_)
        refine q_iinc (v := (v1 + 1)) (lv' := [(1, .int (v1 + 1)), (0, .ref 32)]) 94 d_Mo_adopt_91 rfl 1 rfl (q_ai (by decide)) (by decide) rfl ?_
        refine q_goto 53 d_Mo_adopt_94 (by decide) ?_
        refine q_sub (lv' := [(0, .ref 32), (1, .int (v1 + 1))]) [1, 0] rfl ?_
        exact ih _ _ h
set_option maxHeartbeats 4000000 in
set_option maxRecDepth 100000 in
theorem t_Mo_adopt {E : q_E} {c d : Nat} {x : q_W} {ρ : Int32 × q_W} (h : f_Mo_adopt x = some ρ) : q_Ct E y_Mo_adopt m_Mo_adopt (q_rm 1) (q_cells E c d x) [.ref 32] (q_rS E c d ρ) := by
  unfold f_Mo_adopt at h
  refine q_Ct.of (lv := [(0, .ref 32)]) (by decide) ⟨rfl, rfl⟩ rfl (Nat.le_of_ble_eq_true rfl) ?_
  refine q_aloadn 1 d_Mo_adopt_0 rfl 0 rfl ?_
  refine q_iconst (v := 1) 2 d_Mo_adopt_1 rfl (by decide) ?_
  refine q_xcallS (as := [.ref 32, .int 1]) (rest := []) 5 h (fun z e => t_Mo_refused e) (q_xinvV (Y := m_Mo_refused) d_Mo_adopt_2 ml_Mo_208 ms_Mo_refused.1 ms_Mo_refused.2 k_Mo_refused.1 (by decide) n_Mo_refused (by decide) rfl rfl) k_Mo_refused (q_ro (by decide) (by decide)) (Nat.le_of_ble_eq_true rfl) d_Mo_adopt_2 rfl rfl rfl (fun q1 eq1 h => ?_)
  refine q_ite h (fun c7 h => ?_) (fun c7 h => ?_)
  · refine q_if_ne_t 33 d_Mo_adopt_5 (by decide) c7 ?_
    refine q_iconst (v := 0) 34 d_Mo_adopt_33 rfl (by decide) ?_
    cases h
    exact q_zret d_Mo_adopt_34 rfl (Nat.zero_le _) (Nat.zero_le _)
  · refine q_if_ne_f 8 d_Mo_adopt_5 rfl 33 (by decide) (Classical.not_not.mp c7) ?_
    refine q_aloadn 9 d_Mo_adopt_8 rfl 0 rfl ?_
    refine q_xget 12 d_Mo_adopt_9 rfl fl_Mo_192 (by decide) rfl rfl ?_
    refine q_ite h (fun c6 h => ?_) (fun c6 h => ?_)
    · refine q_if_lt_t 33 d_Mo_adopt_12 (by decide) c6 ?_
      refine q_iconst (v := 0) 34 d_Mo_adopt_33 rfl (by decide) ?_
      cases h
      exact q_zret d_Mo_adopt_34 rfl (Nat.zero_le _) (Nat.zero_le _)
    · refine q_if_lt_f 15 d_Mo_adopt_12 rfl 33 (by decide) c6 ?_
      refine q_aloadn 16 d_Mo_adopt_15 rfl 0 rfl ?_
      refine q_xget 19 d_Mo_adopt_16 rfl fl_Mo_192 (by decide) rfl rfl ?_
      refine q_bipush (v := 8) 21 d_Mo_adopt_19 rfl (by decide) ?_
      refine q_ite h (fun c5 h => ?_) (fun c5 h => ?_)
      · refine q_icmp_gt_t 33 d_Mo_adopt_21 (by decide) c5 ?_
        refine q_iconst (v := 0) 34 d_Mo_adopt_33 rfl (by decide) ?_
        cases h
        exact q_zret d_Mo_adopt_34 rfl (Nat.zero_le _) (Nat.zero_le _)
      · refine q_icmp_gt_f 24 d_Mo_adopt_21 rfl 33 (by decide) c5 ?_
        refine q_aloadn 25 d_Mo_adopt_24 rfl 0 rfl ?_
        refine q_xget 28 d_Mo_adopt_25 rfl fl_Mo_195 (by decide) rfl rfl ?_
        refine q_bipush (v := 8) 30 d_Mo_adopt_28 rfl (by decide) ?_
        refine q_ite h (fun c4 h => ?_) (fun c4 h => ?_)
        · refine q_icmp_le_t 35 d_Mo_adopt_30 (by decide) c4 ?_
          refine q_aloadn 36 d_Mo_adopt_35 rfl 0 rfl ?_
          refine q_aloadn 37 d_Mo_adopt_36 rfl 0 rfl ?_
          refine q_xget 40 d_Mo_adopt_37 rfl fl_Mo_192 (by decide) rfl rfl ?_
          refine q_xput 43 d_Mo_adopt_40 rfl fl_Mo_215 (by decide) rfl rfl rfl rfl (Nat.le_of_ble_eq_true rfl) (fun _ => rfl) h (fun x2 ex2 h => ?_)
          refine q_aloadn 44 d_Mo_adopt_43 rfl 0 rfl ?_
          refine q_aloadn 45 d_Mo_adopt_44 rfl 0 rfl ?_
          refine q_xget 48 d_Mo_adopt_45 rfl fl_Mo_195 (by decide) rfl rfl ?_
          refine q_xput 51 d_Mo_adopt_48 rfl fl_Mo_89 (by decide) rfl rfl rfl rfl (Nat.le_of_ble_eq_true rfl) (fun _ => rfl) h (fun x3 ex3 h => ?_)
          refine q_iconst (v := 0) 52 d_Mo_adopt_51 rfl (by decide) ?_
          refine q_istoren (lv' := [(1, .int 0), (0, .ref 32)]) 53 d_Mo_adopt_52 rfl (by decide) rfl ?_
          refine q_sub (lv' := [(0, .ref 32), (1, .int 0)]) [1, 0] rfl ?_
          exact t_Mo_adopt_L53  q_fu _ _ h
        · refine q_icmp_le_f 33 d_Mo_adopt_30 rfl 35 (by decide) c4 ?_
          refine q_iconst (v := 0) 34 d_Mo_adopt_33 rfl (by decide) ?_
          cases h
          exact q_zret d_Mo_adopt_34 rfl (Nat.zero_le _) (Nat.zero_le _)
set_option maxHeartbeats 4000000 in
set_option maxRecDepth 100000 in
theorem t_Mo_placeOf {E : q_E} {c d : Nat} {x : q_W} {a1 : Int32} {ρ : Int32} (h : f_Mo_placeOf x a1 = some ρ) : q_Ct E y_Mo_placeOf m_Mo_placeOf (q_rm 0) (q_cells E c d x) [.ref 32, .int a1] (q_rP E c d x ρ) := by
  unfold f_Mo_placeOf at h
  refine q_Ct.of (lv := [(0, .ref 32), (1, .int a1)]) (by decide) ⟨rfl, rfl⟩ rfl (Nat.le_of_ble_eq_true rfl) ?_
  refine q_iloadn 1 d_Mo_placeOf_0 rfl 1 rfl ?_
  refine q_aloadn 2 d_Mo_placeOf_1 rfl 0 rfl ?_
  refine q_xget 5 d_Mo_placeOf_2 rfl fl_Mo_215 (by decide) rfl rfl ?_
  refine q_ite h (fun c1 h => ?_) (fun c1 h => ?_)
  · refine q_icmp_ge_t 12 d_Mo_placeOf_5 (by decide) c1 ?_
    refine q_aloadn 13 d_Mo_placeOf_12 rfl 0 rfl ?_
    refine q_xget 16 d_Mo_placeOf_13 rfl fl_Mo_215 (by decide) rfl rfl ?_
    refine q_iloadn 17 d_Mo_placeOf_16 rfl 1 rfl ?_
    refine q_aloadn 18 d_Mo_placeOf_17 rfl 0 rfl ?_
    refine q_xget 21 d_Mo_placeOf_18 rfl fl_Mo_215 (by decide) rfl rfl ?_
    refine q_isub 22 d_Mo_placeOf_21 rfl ?_
    refine q_aloadn 23 d_Mo_placeOf_22 rfl 0 rfl ?_
    refine q_xget 26 d_Mo_placeOf_23 rfl fl_Mo_89 (by decide) rfl rfl ?_
    refine q_ite h (fun c0 h => absurd h (fun q => nomatch q)) (fun c0 h => ?_)
    refine q_irem 27 d_Mo_placeOf_26 rfl c0 ?_
    refine q_iadd 28 d_Mo_placeOf_27 rfl ?_
    cases h
    exact q_iret d_Mo_placeOf_28 rfl (Nat.zero_le _) (Nat.zero_le _)
  · refine q_icmp_ge_f 8 d_Mo_placeOf_5 rfl 12 (by decide) c1 ?_
    refine q_iloadn 9 d_Mo_placeOf_8 rfl 1 rfl ?_
    refine q_goto 28 d_Mo_placeOf_9 (by decide) ?_
    cases h
    exact q_iret d_Mo_placeOf_28 rfl (Nat.zero_le _) (Nat.zero_le _)
set_option maxHeartbeats 4000000 in
set_option maxRecDepth 100000 in
theorem t_Mo_letter_J10 {E : q_E} {c d : Nat} {ρ : Int32 × q_W} : ∀ (x : q_W) (v1 : Int32) (s0 : Int32), f_Mo_letter_J10  x v1 s0 = some ρ → AW E (q_rm 1) m_Mo_letter (q_cells E c d x) 0 0 10 [(0, .ref 32), (1, .int v1)] [.int s0, .ref 32] (q_rS E c d ρ) := by
  intro x v1 s0 h
  unfold f_Mo_letter_J10 at h
  refine q_xput 13 d_Mo_letter_10 rfl fl_Mo_93 (by decide) rfl rfl rfl rfl (Nat.le_of_ble_eq_true rfl) (fun _ => rfl) h (fun x2 ex2 h => ?_)
  refine q_aloadn 14 d_Mo_letter_13 rfl 0 rfl ?_
  refine q_xget 17 d_Mo_letter_14 rfl fl_Mo_93 (by decide) rfl rfl ?_
  refine q_ite h (fun c5 h => ?_) (fun c5 h => ?_)
  · refine q_if_le_t 24 d_Mo_letter_17 (by decide) c5 ?_
    refine q_aloadn 25 d_Mo_letter_24 rfl 0 rfl ?_
    refine q_xget 28 d_Mo_letter_25 rfl fl_Mo_83 (by decide) rfl rfl ?_
    refine q_aloadn 29 d_Mo_letter_28 rfl 0 rfl ?_
    refine q_iloadn 30 d_Mo_letter_29 rfl 1 rfl ?_
    refine q_xcallP (as := [.ref 32, .int v1]) (rest := [.ref 57]) 33 h (fun z e => t_Mo_placeOf e) (q_xinvV (Y := m_Mo_placeOf) d_Mo_letter_30 ml_Mo_218 ms_Mo_placeOf.1 ms_Mo_placeOf.2 k_Mo_placeOf.1 (by decide) n_Mo_placeOf (by decide) rfl rfl) k_Mo_placeOf (q_ro (by decide) (by decide)) (Nat.le_of_ble_eq_true rfl) d_Mo_letter_30 rfl rfl rfl (fun w3 ew3 h => ?_)
    refine q_xiald 34 d_Mo_letter_33 rfl (by decide) (fun _ => rfl) h (fun w4 ew4 h => ?_)
    cases h
    exact q_iret d_Mo_letter_34 rfl (Nat.zero_le _) (Nat.zero_le _)
  · refine q_if_le_f 20 d_Mo_letter_17 rfl 24 (by decide) c5 ?_
    refine q_iconst (v := 0) 21 d_Mo_letter_20 rfl (by decide) ?_
    refine q_goto 34 d_Mo_letter_21 (by decide) ?_
    cases h
    exact q_iret d_Mo_letter_34 rfl (Nat.zero_le _) (Nat.zero_le _)
set_option maxHeartbeats 4000000 in
set_option maxRecDepth 100000 in
theorem t_Mo_letter {E : q_E} {c d : Nat} {x : q_W} {a1 : Int32} {ρ : Int32 × q_W} (h : f_Mo_letter x a1 = some ρ) : q_Ct E y_Mo_letter m_Mo_letter (q_rm 1) (q_cells E c d x) [.ref 32, .int a1] (q_rS E c d ρ) := by
  unfold f_Mo_letter at h
  refine q_Ct.of (lv := [(0, .ref 32), (1, .int a1)]) (by decide) ⟨rfl, rfl⟩ rfl (Nat.le_of_ble_eq_true rfl) ?_
  refine q_aloadn 1 d_Mo_letter_0 rfl 0 rfl ?_
  refine q_iloadn 2 d_Mo_letter_1 rfl 1 rfl ?_
  refine q_ite h (fun c1 h => ?_) (fun c1 h => ?_)
  · refine q_if_ge_t 9 d_Mo_letter_2 (by decide) c1 ?_
    refine q_iconst (v := 0) 10 d_Mo_letter_9 rfl (by decide) ?_
    exact t_Mo_letter_J10  _ _ _ h
  · refine q_if_ge_f 5 d_Mo_letter_2 rfl 9 (by decide) c1 ?_
    refine q_iconst (v := 1) 6 d_Mo_letter_5 rfl (by decide) ?_
    refine q_goto 10 d_Mo_letter_6 (by decide) ?_
    exact t_Mo_letter_J10  _ _ _ h
set_option maxHeartbeats 4000000 in
set_option maxRecDepth 100000 in
theorem t_Mo_spread_J207 {E : q_E} {c d : Nat} {ρ : q_W} {K63 : q_W → Int32 → Int32 → Int32 → Option q_W} {K72 : q_W → Int32 → Int32 → Int32 → Int32 → Option q_W} (hK63 : ∀ x v1 v2 v3, K63 x v1 v2 v3 = some ρ → AW E (q_rm 1) m_Mo_spread (q_cells E c d x) 0 0 63 [(0, .ref 32), (1, .int v1), (2, .int v2), (3, .int v3)] [] (q_rV E c d ρ)) (hK72 : ∀ x v1 v2 v3 v4, K72 x v1 v2 v3 v4 = some ρ → AW E (q_rm 1) m_Mo_spread (q_cells E c d x) 0 0 72 [(0, .ref 32), (1, .int v1), (2, .int v2), (3, .int v3), (4, .int v4)] [] (q_rV E c d ρ)) : ∀ (x : q_W) (v1 : Int32) (v2 : Int32) (v3 : Int32) (v4 : Int32) (s0 : Int32), f_Mo_spread_J207 K63 K72 x v1 v2 v3 v4 s0 = some ρ → AW E (q_rm 1) m_Mo_spread (q_cells E c d x) 0 0 207 [(0, .ref 32), (1, .int v1), (2, .int v2), (3, .int v3), (4, .int v4)] [.int s0] (q_rV E c d ρ) := by
  intro x v1 v2 v3 v4 s0 h
  unfold f_Mo_spread_J207 at h
  refine q_istore (lv' := [(6, .int s0), (0, .ref 32), (1, .int v1), (2, .int v2), (3, .int v3), (4, .int v4)]) 209 d_Mo_spread_207 rfl (by decide) rfl ?_
  refine q_aloadn 210 d_Mo_spread_209 rfl 1 rfl ?_
  refine q_xget 213 d_Mo_spread_210 rfl fl_Mo_86 (by decide) rfl rfl ?_
  refine q_bipush (v := 16) 215 d_Mo_spread_213 rfl (by decide) ?_
  refine q_iloadn 216 d_Mo_spread_215 rfl 2 rfl ?_
  refine q_imul 217 d_Mo_spread_216 rfl ?_
  refine q_iload 219 d_Mo_spread_217 rfl 5 rfl ?_
  refine q_iadd 220 d_Mo_spread_219 rfl ?_
  refine q_aloadn 221 d_Mo_spread_220 rfl 1 rfl ?_
  refine q_iloadn 222 d_Mo_spread_221 rfl 2 rfl ?_
  refine q_iload 224 d_Mo_spread_222 rfl 0 rfl ?_
  refine q_aloadn 225 d_Mo_spread_224 rfl 1 rfl ?_
  refine q_xget 228 d_Mo_spread_225 rfl fl_Mo_83 (by decide) rfl rfl ?_
  refine q_iload 230 d_Mo_spread_228 rfl 5 rfl ?_
  refine q_xiald 231 d_Mo_spread_230 rfl (by decide) (fun _ => rfl) h (fun w27 ew27 h => ?_)
  refine q_xcallP (as := [.ref 32, .int v1, .int s0, .int w27]) (rest := [.int ((16 * v1) + v4), .ref 58]) 234 h (fun z e => t_Mo_valueOf e) (q_xinvV (Y := m_Mo_valueOf) d_Mo_spread_231 ml_Mo_171 ms_Mo_valueOf.1 ms_Mo_valueOf.2 k_Mo_valueOf.1 (by decide) n_Mo_valueOf (by decide) rfl rfl) k_Mo_valueOf (q_ro (by decide) (by decide)) (Nat.le_of_ble_eq_true rfl) d_Mo_spread_231 rfl rfl rfl (fun w28 ew28 h => ?_)
  refine q_xzast 235 d_Mo_spread_234 rfl (by decide) (fun _ => rfl) h (fun x29 ex29 h => ?_)
  refine q_iinc (v := (v4 + 1)) (lv' := [(4, .int (v4 + 1)), (6, .int s0), (0, .ref 32), (1, .int v1), (2, .int v2), (3, .int v3)]) 238 d_Mo_spread_235 rfl 5 rfl (q_ai (by decide)) (by decide) rfl ?_
  refine q_goto 72 d_Mo_spread_238 (by decide) ?_
  refine q_sub (lv' := [(0, .ref 32), (1, .int v1), (2, .int v2), (3, .int v3), (4, .int (v4 + 1))]) [2, 3, 4, 5, 0] rfl ?_
  exact hK72 _ _ _ _ _ h
set_option maxHeartbeats 4000000 in
set_option maxRecDepth 100000 in
theorem t_Mo_spread_J164 {E : q_E} {c d : Nat} {ρ : q_W} {K63 : q_W → Int32 → Int32 → Int32 → Option q_W} {K72 : q_W → Int32 → Int32 → Int32 → Int32 → Option q_W} (hK63 : ∀ x v1 v2 v3, K63 x v1 v2 v3 = some ρ → AW E (q_rm 1) m_Mo_spread (q_cells E c d x) 0 0 63 [(0, .ref 32), (1, .int v1), (2, .int v2), (3, .int v3)] [] (q_rV E c d ρ)) (hK72 : ∀ x v1 v2 v3 v4, K72 x v1 v2 v3 v4 = some ρ → AW E (q_rm 1) m_Mo_spread (q_cells E c d x) 0 0 72 [(0, .ref 32), (1, .int v1), (2, .int v2), (3, .int v3), (4, .int v4)] [] (q_rV E c d ρ)) : ∀ (x : q_W) (v1 : Int32) (v2 : Int32) (v3 : Int32) (v4 : Int32) (v5 : Int32), f_Mo_spread_J164 K63 K72 x v1 v2 v3 v4 v5 = some ρ → AW E (q_rm 1) m_Mo_spread (q_cells E c d x) 0 0 164 [(0, .ref 32), (1, .int v1), (2, .int v2), (3, .int v3), (4, .int v4), (5, .int v5)] [] (q_rV E c d ρ) := by
  intro x v1 v2 v3 v4 v5 h
  unfold f_Mo_spread_J164 at h
  refine q_aloadn 165 d_Mo_spread_164 rfl 0 rfl ?_
  refine q_xget 168 d_Mo_spread_165 rfl fl_Mo_13 (by decide) rfl rfl ?_
  refine q_iloadn 169 d_Mo_spread_168 rfl 1 rfl ?_
  refine q_xiald 170 d_Mo_spread_169 rfl (by decide) (fun _ => rfl) h (fun w22 ew22 h => ?_)
  refine q_bipush (v := 6) 172 d_Mo_spread_170 rfl (by decide) ?_
  refine q_ite h (fun c26 h => ?_) (fun c26 h => ?_)
  · refine q_icmp_ne_t 195 d_Mo_spread_172 (by decide) c26 ?_
    refine q_aloadn 196 d_Mo_spread_195 rfl 0 rfl ?_
    refine q_xget 199 d_Mo_spread_196 rfl fl_Mo_86 (by decide) rfl rfl ?_
    refine q_bipush (v := 16) 201 d_Mo_spread_199 rfl (by decide) ?_
    refine q_iloadn 202 d_Mo_spread_201 rfl 1 rfl ?_
    refine q_imul 203 d_Mo_spread_202 rfl ?_
    refine q_iload 205 d_Mo_spread_203 rfl 5 rfl ?_
    refine q_iadd 206 d_Mo_spread_205 rfl ?_
    refine q_xzald 207 d_Mo_spread_206 rfl (by decide) (fun _ => rfl) h (fun w23 ew23 h => ?_)
    refine q_sub (lv' := [(0, .ref 32), (1, .int v1), (2, .int v2), (3, .int v3), (4, .int v4)]) [0, 1, 2, 3, 4] rfl ?_
    exact t_Mo_spread_J207 hK63 hK72 _ _ _ _ _ _ h
  · refine q_icmp_ne_f 175 d_Mo_spread_172 rfl 195 (by decide) (Classical.not_not.mp c26) ?_
    refine q_aloadn 176 d_Mo_spread_175 rfl 0 rfl ?_
    refine q_xget 179 d_Mo_spread_176 rfl fl_Mo_86 (by decide) rfl rfl ?_
    refine q_bipush (v := 16) 181 d_Mo_spread_179 rfl (by decide) ?_
    refine q_aloadn 182 d_Mo_spread_181 rfl 0 rfl ?_
    refine q_xget 185 d_Mo_spread_182 rfl fl_Mo_19 (by decide) rfl rfl ?_
    refine q_iloadn 186 d_Mo_spread_185 rfl 1 rfl ?_
    refine q_xiald 187 d_Mo_spread_186 rfl (by decide) (fun _ => rfl) h (fun w24 ew24 h => ?_)
    refine q_imul 188 d_Mo_spread_187 rfl ?_
    refine q_iload 190 d_Mo_spread_188 rfl 5 rfl ?_
    refine q_iadd 191 d_Mo_spread_190 rfl ?_
    refine q_xzald 192 d_Mo_spread_191 rfl (by decide) (fun _ => rfl) h (fun w25 ew25 h => ?_)
    refine q_goto 207 d_Mo_spread_192 (by decide) ?_
    refine q_sub (lv' := [(0, .ref 32), (1, .int v1), (2, .int v2), (3, .int v3), (4, .int v4)]) [0, 1, 2, 3, 4] rfl ?_
    exact t_Mo_spread_J207 hK63 hK72 _ _ _ _ _ _ h
set_option maxHeartbeats 4000000 in
set_option maxRecDepth 100000 in
theorem t_Mo_spread_J97 {E : q_E} {c d : Nat} {ρ : q_W} {K63 : q_W → Int32 → Int32 → Int32 → Option q_W} {K72 : q_W → Int32 → Int32 → Int32 → Int32 → Option q_W} (hK63 : ∀ x v1 v2 v3, K63 x v1 v2 v3 = some ρ → AW E (q_rm 1) m_Mo_spread (q_cells E c d x) 0 0 63 [(0, .ref 32), (1, .int v1), (2, .int v2), (3, .int v3)] [] (q_rV E c d ρ)) (hK72 : ∀ x v1 v2 v3 v4, K72 x v1 v2 v3 v4 = some ρ → AW E (q_rm 1) m_Mo_spread (q_cells E c d x) 0 0 72 [(0, .ref 32), (1, .int v1), (2, .int v2), (3, .int v3), (4, .int v4)] [] (q_rV E c d ρ)) : ∀ (x : q_W) (v1 : Int32) (v2 : Int32) (v3 : Int32) (v4 : Int32) (s0 : Int32), f_Mo_spread_J97 K63 K72 x v1 v2 v3 v4 s0 = some ρ → AW E (q_rm 1) m_Mo_spread (q_cells E c d x) 0 0 97 [(0, .ref 32), (1, .int v1), (2, .int v2), (3, .int v3), (4, .int v4)] [.int s0] (q_rV E c d ρ) := by
  intro x v1 v2 v3 v4 s0 h
  unfold f_Mo_spread_J97 at h
  refine q_istore (lv' := [(5, .int s0), (0, .ref 32), (1, .int v1), (2, .int v2), (3, .int v3), (4, .int v4)]) 99 d_Mo_spread_97 rfl (by decide) rfl ?_
  refine q_aloadn 100 d_Mo_spread_99 rfl 1 rfl ?_
  refine q_xget 103 d_Mo_spread_100 rfl fl_Mo_16 (by decide) rfl rfl ?_
  refine q_iloadn 104 d_Mo_spread_103 rfl 2 rfl ?_
  refine q_xiald 105 d_Mo_spread_104 rfl (by decide) (fun _ => rfl) h (fun w12 ew12 h => ?_)
  refine q_ite h (fun c21 h => ?_) (fun c21 h => ?_)
  · refine q_if_lt_t 164 d_Mo_spread_105 (by decide) c21 ?_
    refine q_sub (lv' := [(0, .ref 32), (1, .int v1), (2, .int v2), (3, .int v3), (4, .int v4), (5, .int s0)]) [1, 2, 3, 4, 5, 0] rfl ?_
    exact t_Mo_spread_J164 hK63 hK72 _ _ _ _ _ _ h
  · refine q_if_lt_f 108 d_Mo_spread_105 rfl 164 (by decide) c21 ?_
    refine q_aloadn 109 d_Mo_spread_108 rfl 1 rfl ?_
    refine q_xget 112 d_Mo_spread_109 rfl fl_Mo_62 (by decide) rfl rfl ?_
    refine q_aloadn 113 d_Mo_spread_112 rfl 1 rfl ?_
    refine q_xget 116 d_Mo_spread_113 rfl fl_Mo_16 (by decide) rfl rfl ?_
    refine q_iloadn 117 d_Mo_spread_116 rfl 2 rfl ?_
    refine q_xiald 118 d_Mo_spread_117 rfl (by decide) (fun _ => rfl) h (fun w13 ew13 h => ?_)
    refine q_aloadn 119 d_Mo_spread_118 rfl 1 rfl ?_
    refine q_xget 122 d_Mo_spread_119 rfl fl_Mo_86 (by decide) rfl rfl ?_
    refine q_bipush (v := 16) 124 d_Mo_spread_122 rfl (by decide) ?_
    refine q_aloadn 125 d_Mo_spread_124 rfl 1 rfl ?_
    refine q_xget 128 d_Mo_spread_125 rfl fl_Mo_16 (by decide) rfl rfl ?_
    refine q_iloadn 129 d_Mo_spread_128 rfl 2 rfl ?_
    refine q_xiald 130 d_Mo_spread_129 rfl (by decide) (fun _ => rfl) h (fun w14 ew14 h => ?_)
    refine q_imul 131 d_Mo_spread_130 rfl ?_
    refine q_iload 133 d_Mo_spread_131 rfl 5 rfl ?_
    refine q_iadd 134 d_Mo_spread_133 rfl ?_
    refine q_xzald 135 d_Mo_spread_134 rfl (by decide) (fun _ => rfl) h (fun w15 ew15 h => ?_)
    refine q_xzast 136 d_Mo_spread_135 rfl (by decide) (fun _ => rfl) h (fun x16 ex16 h => ?_)
    refine q_aloadn 137 d_Mo_spread_136 rfl 1 rfl ?_
    refine q_xget 140 d_Mo_spread_137 rfl fl_Mo_62 (by decide) rfl rfl ?_
    refine q_aloadn 141 d_Mo_spread_140 rfl 1 rfl ?_
    refine q_xget 144 d_Mo_spread_141 rfl fl_Mo_19 (by decide) rfl rfl ?_
    refine q_iloadn 145 d_Mo_spread_144 rfl 2 rfl ?_
    refine q_xiald 146 d_Mo_spread_145 rfl (by decide) (fun _ => rfl) h (fun w17 ew17 h => ?_)
    refine q_aloadn 147 d_Mo_spread_146 rfl 1 rfl ?_
    refine q_xget 150 d_Mo_spread_147 rfl fl_Mo_86 (by decide) rfl rfl ?_
    refine q_bipush (v := 16) 152 d_Mo_spread_150 rfl (by decide) ?_
    refine q_aloadn 153 d_Mo_spread_152 rfl 1 rfl ?_
    refine q_xget 156 d_Mo_spread_153 rfl fl_Mo_19 (by decide) rfl rfl ?_
    refine q_iloadn 157 d_Mo_spread_156 rfl 2 rfl ?_
    refine q_xiald 158 d_Mo_spread_157 rfl (by decide) (fun _ => rfl) h (fun w18 ew18 h => ?_)
    refine q_imul 159 d_Mo_spread_158 rfl ?_
    refine q_iload 161 d_Mo_spread_159 rfl 5 rfl ?_
    refine q_iadd 162 d_Mo_spread_161 rfl ?_
    refine q_xzald 163 d_Mo_spread_162 rfl (by decide) (fun _ => rfl) h (fun w19 ew19 h => ?_)
    refine q_xzast 164 d_Mo_spread_163 rfl (by decide) (fun _ => rfl) h (fun x20 ex20 h => ?_)
    refine q_sub (lv' := [(0, .ref 32), (1, .int v1), (2, .int v2), (3, .int v3), (4, .int v4), (5, .int s0)]) [1, 2, 3, 4, 5, 0] rfl ?_
    exact t_Mo_spread_J164 hK63 hK72 _ _ _ _ _ _ h
set_option maxHeartbeats 4000000 in
set_option maxRecDepth 100000 in
theorem t_Mo_spread_L72 {E : q_E} {c d : Nat} {ρ : q_W} {K63 : q_W → Int32 → Int32 → Int32 → Option q_W} (hK63 : ∀ x v1 v2 v3, K63 x v1 v2 v3 = some ρ → AW E (q_rm 1) m_Mo_spread (q_cells E c d x) 0 0 63 [(0, .ref 32), (1, .int v1), (2, .int v2), (3, .int v3)] [] (q_rV E c d ρ)) : ∀ (n : Nat) (x : q_W) (v1 : Int32) (v2 : Int32) (v3 : Int32) (v4 : Int32), f_Mo_spread_L72 K63 n x v1 v2 v3 v4 = some ρ → AW E (q_rm 1) m_Mo_spread (q_cells E c d x) 0 0 72 [(0, .ref 32), (1, .int v1), (2, .int v2), (3, .int v3), (4, .int v4)] [] (q_rV E c d ρ) := by
  intro n
  induction n with
  | zero =>
    intro x v1 v2 v3 v4 h
    have h : (none : Option q_W) = some ρ := h
    cases h
  | succ n ih =>
    intro x v1 v2 v3 v4 h
    unfold f_Mo_spread_L72 at h
    refine q_iload 74 d_Mo_spread_72 rfl 4 rfl ?_
    refine q_iloadn 75 d_Mo_spread_74 rfl 2 rfl ?_
    refine q_ite h (fun c11 h => ?_) (fun c11 h => ?_)
    · refine q_icmp_ge_t 241 d_Mo_spread_75 (by decide) c11 ?_
      refine q_iinc (v := (v3 + 1)) (lv' := [(3, .int (v3 + 1)), (0, .ref 32), (1, .int v1), (2, .int v2), (4, .int v4)]) 244 d_Mo_spread_241 rfl 3 rfl (q_ai (by decide)) (by decide) rfl ?_
      refine q_goto 63 d_Mo_spread_244 (by decide) ?_
      refine q_sub (lv' := [(0, .ref 32), (1, .int v1), (2, .int v2), (3, .int (v3 + 1))]) [1, 2, 3, 0] rfl ?_
      exact hK63 _ _ _ _ h
    · refine q_icmp_ge_f 78 d_Mo_spread_75 rfl 241 (by decide) c11 ?_
      refine q_iload 80 d_Mo_spread_78 rfl 4 rfl ?_
      refine q_iconst (v := 1) 81 d_Mo_spread_80 rfl (by decide) ?_
      refine q_iadd 82 d_Mo_spread_81 rfl ?_
      refine q_iloadn 83 d_Mo_spread_82 rfl 2 rfl ?_
      refine q_ite h (fun c10 h => ?_) (fun c10 h => ?_)
      · refine q_icmp_ge_t 93 d_Mo_spread_83 (by decide) c10 ?_
        refine q_aloadn 94 d_Mo_spread_93 rfl 0 rfl ?_
        refine q_xget 97 d_Mo_spread_94 rfl fl_Mo_215 (by decide) rfl rfl ?_
        exact t_Mo_spread_J97 hK63 ih _ _ _ _ _ _ h
      · refine q_icmp_ge_f 86 d_Mo_spread_83 rfl 93 (by decide) c10 ?_
        refine q_iload 88 d_Mo_spread_86 rfl 4 rfl ?_
        refine q_iconst (v := 1) 89 d_Mo_spread_88 rfl (by decide) ?_
        refine q_iadd 90 d_Mo_spread_89 rfl ?_
        refine q_goto 97 d_Mo_spread_90 (by decide) ?_
        exact t_Mo_spread_J97 hK63 ih _ _ _ _ _ _ h
set_option maxHeartbeats 4000000 in
set_option maxRecDepth 100000 in
theorem t_Mo_spread_L63 {E : q_E} {c d : Nat} {ρ : q_W} : ∀ (n : Nat) (x : q_W) (v1 : Int32) (v2 : Int32) (v3 : Int32), f_Mo_spread_L63  n x v1 v2 v3 = some ρ → AW E (q_rm 1) m_Mo_spread (q_cells E c d x) 0 0 63 [(0, .ref 32), (1, .int v1), (2, .int v2), (3, .int v3)] [] (q_rV E c d ρ) := by
  intro n
  induction n with
  | zero =>
    intro x v1 v2 v3 h
    have h : (none : Option q_W) = some ρ := h
    cases h
  | succ n ih =>
    intro x v1 v2 v3 h
    unfold f_Mo_spread_L63 at h
    refine q_iloadn 64 d_Mo_spread_63 rfl 3 rfl ?_
    refine q_bipush (v := 18) 66 d_Mo_spread_64 rfl (by decide) ?_
    refine q_ite h (fun c8 h => ?_) (fun c8 h => ?_)
    · refine q_icmp_ge_t 247 d_Mo_spread_66 (by decide) c8 ?_
      cases h
      exact q_vret d_Mo_spread_247 rfl (Nat.zero_le _) (Nat.zero_le _)
    · refine q_icmp_ge_f 69 d_Mo_spread_66 rfl 247 (by decide) c8 ?_
      refine q_iconst (v := 0) 70 d_Mo_spread_69 rfl (by decide) ?_
      refine q_istore (lv' := [(4, .int 0), (0, .ref 32), (1, .int v1), (2, .int v2), (3, .int v3)]) 72 d_Mo_spread_70 rfl (by decide) rfl ?_
      refine q_sub (lv' := [(0, .ref 32), (1, .int v1), (2, .int v2), (3, .int v3), (4, .int 0)]) [1, 2, 3, 4, 0] rfl ?_
      exact t_Mo_spread_L72 ih q_fu _ _ _ _ _ h
set_option maxHeartbeats 4000000 in
set_option maxRecDepth 100000 in
theorem t_Mo_spread_J49 {E : q_E} {c d : Nat} {ρ : q_W} {K12 : q_W → Int32 → Int32 → Int32 → Option q_W} (hK12 : ∀ x v1 v2 v3, K12 x v1 v2 v3 = some ρ → AW E (q_rm 1) m_Mo_spread (q_cells E c d x) 0 0 12 [(0, .ref 32), (1, .int v1), (2, .int v2), (3, .int v3)] [] (q_rV E c d ρ)) : ∀ (x : q_W) (v1 : Int32) (v2 : Int32) (v3 : Int32) (s0 : Int32), f_Mo_spread_J49 K12 x v1 v2 v3 s0 = some ρ → AW E (q_rm 1) m_Mo_spread (q_cells E c d x) 0 0 49 [(0, .ref 32), (1, .int v1), (2, .int v2), (3, .int v3)] [.int s0, .ref 58] (q_rV E c d ρ) := by
  intro x v1 v2 v3 s0 h
  unfold f_Mo_spread_J49 at h
  refine q_iconst (v := 1) 50 d_Mo_spread_49 rfl (by decide) ?_
  refine q_goto 54 d_Mo_spread_50 (by decide) ?_
  refine q_xzast 55 d_Mo_spread_54 rfl (by decide) (fun _ => rfl) h (fun x9 ex9 h => ?_)
  refine q_iinc (v := (v3 + 1)) (lv' := [(3, .int (v3 + 1)), (0, .ref 32), (1, .int v1), (2, .int v2)]) 58 d_Mo_spread_55 rfl 3 rfl (q_ai (by decide)) (by decide) rfl ?_
  refine q_goto 12 d_Mo_spread_58 (by decide) ?_
  refine q_sub (lv' := [(0, .ref 32), (1, .int v1), (2, .int v2), (3, .int (v3 + 1))]) [1, 2, 3, 0] rfl ?_
  exact hK12 _ _ _ _ h
set_option maxHeartbeats 4000000 in
set_option maxRecDepth 100000 in
theorem t_Mo_spread_L12 {E : q_E} {c d : Nat} {ρ : q_W} : ∀ (n : Nat) (x : q_W) (v1 : Int32) (v2 : Int32) (v3 : Int32), f_Mo_spread_L12  n x v1 v2 v3 = some ρ → AW E (q_rm 1) m_Mo_spread (q_cells E c d x) 0 0 12 [(0, .ref 32), (1, .int v1), (2, .int v2), (3, .int v3)] [] (q_rV E c d ρ) := by
  intro n
  induction n with
  | zero =>
    intro x v1 v2 v3 h
    have h : (none : Option q_W) = some ρ := h
    cases h
  | succ n ih =>
    intro x v1 v2 v3 h
    unfold f_Mo_spread_L12 at h
    refine q_iloadn 13 d_Mo_spread_12 rfl 3 rfl ?_
    refine q_iloadn 14 d_Mo_spread_13 rfl 2 rfl ?_
    refine q_ite h (fun c7 h => ?_) (fun c7 h => ?_)
    · refine q_icmp_ge_t 61 d_Mo_spread_14 (by decide) c7 ?_
      refine q_iconst (v := 0) 62 d_Mo_spread_61 rfl (by decide) ?_
      refine q_istoren (lv' := [(3, .int 0), (0, .ref 32), (1, .int v1), (2, .int v2)]) 63 d_Mo_spread_62 rfl (by decide) rfl ?_
      refine q_sub (lv' := [(0, .ref 32), (1, .int v1), (2, .int v2), (3, .int 0)]) [1, 2, 3, 0] rfl ?_
      exact t_Mo_spread_L63  q_fu _ _ _ _ h
    · refine q_icmp_ge_f 17 d_Mo_spread_14 rfl 61 (by decide) c7 ?_
      refine q_aloadn 18 d_Mo_spread_17 rfl 0 rfl ?_
      refine q_xget 21 d_Mo_spread_18 rfl fl_Mo_86 (by decide) rfl rfl ?_
      refine q_bipush (v := 16) 23 d_Mo_spread_21 rfl (by decide) ?_
      refine q_iloadn 24 d_Mo_spread_23 rfl 1 rfl ?_
      refine q_imul 25 d_Mo_spread_24 rfl ?_
      refine q_iloadn 26 d_Mo_spread_25 rfl 3 rfl ?_
      refine q_iadd 27 d_Mo_spread_26 rfl ?_
      refine q_aloadn 28 d_Mo_spread_27 rfl 0 rfl ?_
      refine q_xget 31 d_Mo_spread_28 rfl fl_Mo_13 (by decide) rfl rfl ?_
      refine q_iloadn 32 d_Mo_spread_31 rfl 1 rfl ?_
      refine q_xiald 33 d_Mo_spread_32 rfl (by decide) (fun _ => rfl) h (fun w2 ew2 h => ?_)
      refine q_bipush (v := 8) 35 d_Mo_spread_33 rfl (by decide) ?_
      refine q_ite h (fun c6 h => ?_) (fun c6 h => ?_)
      · refine q_icmp_eq_t 49 d_Mo_spread_35 (by decide) c6 ?_
        exact t_Mo_spread_J49 ih _ _ _ _ _ h
      · refine q_icmp_eq_f 38 d_Mo_spread_35 rfl 49 (by decide) c6 ?_
        refine q_aloadn 39 d_Mo_spread_38 rfl 0 rfl ?_
        refine q_xget 42 d_Mo_spread_39 rfl fl_Mo_13 (by decide) rfl rfl ?_
        refine q_iloadn 43 d_Mo_spread_42 rfl 1 rfl ?_
        refine q_xiald 44 d_Mo_spread_43 rfl (by decide) (fun _ => rfl) h (fun w3 ew3 h => ?_)
        refine q_bipush (v := 10) 46 d_Mo_spread_44 rfl (by decide) ?_
        refine q_ite h (fun c5 h => ?_) (fun c5 h => ?_)
        · refine q_icmp_ne_t 53 d_Mo_spread_46 (by decide) c5 ?_
          refine q_iconst (v := 0) 54 d_Mo_spread_53 rfl (by decide) ?_
          refine q_xzast 55 d_Mo_spread_54 rfl (by decide) (fun _ => rfl) h (fun x4 ex4 h => ?_)
          refine q_iinc (v := (v3 + 1)) (lv' := [(3, .int (v3 + 1)), (0, .ref 32), (1, .int v1), (2, .int v2)]) 58 d_Mo_spread_55 rfl 3 rfl (q_ai (by decide)) (by decide) rfl ?_
          refine q_goto 12 d_Mo_spread_58 (by decide) ?_
          refine q_sub (lv' := [(0, .ref 32), (1, .int v1), (2, .int v2), (3, .int (v3 + 1))]) [1, 2, 3, 0] rfl ?_
          exact ih _ _ _ _ h
        · refine q_icmp_ne_f 49 d_Mo_spread_46 rfl 53 (by decide) (Classical.not_not.mp c5) ?_
          exact t_Mo_spread_J49 ih _ _ _ _ _ h
set_option maxHeartbeats 4000000 in
set_option maxRecDepth 100000 in
theorem t_Mo_spread {E : q_E} {c d : Nat} {x : q_W} {a1 : Int32} {ρ : q_W} (h : f_Mo_spread x a1 = some ρ) : q_Ct E y_Mo_spread m_Mo_spread (q_rm 1) (q_cells E c d x) [.ref 32, .int a1] (q_rV E c d ρ) := by
  unfold f_Mo_spread at h
  refine q_Ct.of (lv := [(0, .ref 32), (1, .int a1)]) (by decide) ⟨rfl, rfl⟩ rfl (Nat.le_of_ble_eq_true rfl) ?_
  refine q_aloadn 1 d_Mo_spread_0 rfl 0 rfl ?_
  refine q_xget 4 d_Mo_spread_1 rfl fl_Mo_215 (by decide) rfl rfl ?_
  refine q_aloadn 5 d_Mo_spread_4 rfl 0 rfl ?_
  refine q_xget 8 d_Mo_spread_5 rfl fl_Mo_89 (by decide) rfl rfl ?_
  refine q_iadd 9 d_Mo_spread_8 rfl ?_
  refine q_xtop h (fun z1 ez1 h => ?_)
  refine q_istoren (lv' := [(2, .int z1), (0, .ref 32), (1, .int a1)]) 10 d_Mo_spread_9 rfl (by decide) rfl ?_
  refine q_iconst (v := 0) 11 d_Mo_spread_10 rfl (by decide) ?_
  refine q_istoren (lv' := [(3, .int 0), (2, .int z1), (0, .ref 32), (1, .int a1)]) 12 d_Mo_spread_11 rfl (by decide) rfl ?_
  refine q_sub (lv' := [(0, .ref 32), (1, .int a1), (2, .int z1), (3, .int 0)]) [2, 3, 1, 0] rfl ?_
  exact t_Mo_spread_L12  q_fu _ _ _ _ h
set_option maxHeartbeats 4000000 in
set_option maxRecDepth 100000 in
theorem t_Mo_holds_L20 {E : q_E} {c d : Nat} {ρ : Int32 × q_W} {E20 : q_W → Int32 → Option (Int32 × q_W)} (hE20 : ∀ x u1, E20 x u1 = some ρ → AW E (q_rm 2) m_Mo_holds (q_cells E c d x) 0 0 39 [(0, .ref 32), (1, .int u1)] [] (q_rS E c d ρ)) : ∀ (n : Nat) (x : q_W) (v1 : Int32) (v2 : Int32), f_Mo_holds_L20 E20 n x v1 v2 = some ρ → AW E (q_rm 2) m_Mo_holds (q_cells E c d x) 0 0 20 [(0, .ref 32), (1, .int v1), (2, .int v2)] [] (q_rS E c d ρ) := by
  intro n
  induction n with
  | zero =>
    intro x v1 v2 h
    have h : (none : Option (Int32 × q_W)) = some ρ := h
    cases h
  | succ n ih =>
    intro x v1 v2 h
    unfold f_Mo_holds_L20 at h
    refine q_iloadn 21 d_Mo_holds_20 rfl 2 rfl ?_
    refine q_aloadn 22 d_Mo_holds_21 rfl 0 rfl ?_
    refine q_xget 25 d_Mo_holds_22 rfl fl_Mo_150 (by decide) rfl rfl ?_
    refine q_ite h (fun c9 h => ?_) (fun c9 h => ?_)
    · refine q_icmp_ge_t 39 d_Mo_holds_25 (by decide) c9 ?_
      refine q_sub (lv' := [(0, .ref 32), (1, .int v1)]) [0, 1] rfl ?_
      exact hE20 _ _ h
    · refine q_icmp_ge_f 28 d_Mo_holds_25 rfl 39 (by decide) c9 ?_
      refine q_aloadn 29 d_Mo_holds_28 rfl 0 rfl ?_
      refine q_iloadn 30 d_Mo_holds_29 rfl 2 rfl ?_
      refine q_xcallV (as := [.ref 32, .int v2]) (rest := []) 33 h (fun z e => t_Mo_spread e) (q_xinvV (Y := m_Mo_spread) d_Mo_holds_30 ml_Mo_221 ms_Mo_spread.1 ms_Mo_spread.2 k_Mo_spread.1 (by decide) n_Mo_spread (by decide) rfl rfl) k_Mo_spread (q_ro (by decide) (by decide)) (Nat.le_of_ble_eq_true rfl) d_Mo_holds_30 rfl rfl rfl (fun x8 ex8 h => ?_)
      refine q_iinc (v := (v2 + 1)) (lv' := [(2, .int (v2 + 1)), (0, .ref 32), (1, .int v1)]) 36 d_Mo_holds_33 rfl 2 rfl (q_ai (by decide)) (by decide) rfl ?_
      refine q_goto 20 d_Mo_holds_36 (by decide) ?_
      refine q_sub (lv' := [(0, .ref 32), (1, .int v1), (2, .int (v2 + 1))]) [1, 2, 0] rfl ?_
      exact ih _ _ _ h
set_option maxHeartbeats 4000000 in
set_option maxRecDepth 100000 in
theorem t_Mo_holds_J10 {E : q_E} {c d : Nat} {ρ : Int32 × q_W} : ∀ (x : q_W) (v1 : Int32) (s0 : Int32), f_Mo_holds_J10  x v1 s0 = some ρ → AW E (q_rm 2) m_Mo_holds (q_cells E c d x) 0 0 10 [(0, .ref 32), (1, .int v1)] [.int s0, .ref 32] (q_rS E c d ρ) := by
  intro x v1 s0 h
  unfold f_Mo_holds_J10 at h
  refine q_xcallS (as := [.ref 32, .int s0]) (rest := []) 13 h (fun z e => t_Mo_refused e) (q_xinvV (Y := m_Mo_refused) d_Mo_holds_10 ml_Mo_208 ms_Mo_refused.1 ms_Mo_refused.2 k_Mo_refused.1 (by decide) n_Mo_refused (by decide) rfl rfl) k_Mo_refused (q_ro (by decide) (by decide)) (Nat.le_of_ble_eq_true rfl) d_Mo_holds_10 rfl rfl rfl (fun q2 eq2 h => ?_)
  refine q_ite h (fun c7 h => ?_) (fun c7 h => ?_)
  · refine q_if_eq_t 18 d_Mo_holds_13 (by decide) c7 ?_
    refine q_iconst (v := 0) 19 d_Mo_holds_18 rfl (by decide) ?_
    refine q_istoren (lv' := [(2, .int 0), (0, .ref 32), (1, .int v1)]) 20 d_Mo_holds_19 rfl (by decide) rfl ?_
    refine q_sub (lv' := [(0, .ref 32), (1, .int v1), (2, .int 0)]) [1, 2, 0] rfl ?_
    refine t_Mo_holds_L20 (fun x3 u4 h => ?_) q_fu _ _ _ h
    refine q_aloadn 40 d_Mo_holds_39 rfl 0 rfl ?_
    refine q_xget 43 d_Mo_holds_40 rfl fl_Mo_86 (by decide) rfl rfl ?_
    refine q_bipush (v := 16) 45 d_Mo_holds_43 rfl (by decide) ?_
    refine q_aloadn 46 d_Mo_holds_45 rfl 0 rfl ?_
    refine q_xget 49 d_Mo_holds_46 rfl fl_Mo_150 (by decide) rfl rfl ?_
    refine q_iconst (v := 1) 50 d_Mo_holds_49 rfl (by decide) ?_
    refine q_isub 51 d_Mo_holds_50 rfl ?_
    refine q_imul 52 d_Mo_holds_51 rfl ?_
    refine q_aloadn 53 d_Mo_holds_52 rfl 0 rfl ?_
    refine q_iloadn 54 d_Mo_holds_53 rfl 1 rfl ?_
    refine q_xcallP (as := [.ref 32, .int u4]) (rest := [.int (16 * ((x3.2 32 4) - 1)), .ref 58]) 57 h (fun z e => t_Mo_placeOf e) (q_xinvV (Y := m_Mo_placeOf) d_Mo_holds_54 ml_Mo_218 ms_Mo_placeOf.1 ms_Mo_placeOf.2 k_Mo_placeOf.1 (by decide) n_Mo_placeOf (by decide) rfl rfl) k_Mo_placeOf (q_ro (by decide) (by decide)) (Nat.le_of_ble_eq_true rfl) d_Mo_holds_54 rfl rfl rfl (fun w5 ew5 h => ?_)
    refine q_iadd 58 d_Mo_holds_57 rfl ?_
    refine q_xzald 59 d_Mo_holds_58 rfl (by decide) (fun _ => rfl) h (fun w6 ew6 h => ?_)
    cases h
    exact q_zret d_Mo_holds_59 rfl (Nat.zero_le _) (Nat.zero_le _)
  · refine q_if_eq_f 16 d_Mo_holds_13 rfl 18 (by decide) c7 ?_
    refine q_iconst (v := 0) 17 d_Mo_holds_16 rfl (by decide) ?_
    cases h
    exact q_zret d_Mo_holds_17 rfl (Nat.zero_le _) (Nat.zero_le _)
set_option maxHeartbeats 4000000 in
set_option maxRecDepth 100000 in
theorem t_Mo_holds {E : q_E} {c d : Nat} {x : q_W} {a1 : Int32} {ρ : Int32 × q_W} (h : f_Mo_holds x a1 = some ρ) : q_Ct E y_Mo_holds m_Mo_holds (q_rm 2) (q_cells E c d x) [.ref 32, .int a1] (q_rS E c d ρ) := by
  unfold f_Mo_holds at h
  refine q_Ct.of (lv := [(0, .ref 32), (1, .int a1)]) (by decide) ⟨rfl, rfl⟩ rfl (Nat.le_of_ble_eq_true rfl) ?_
  refine q_aloadn 1 d_Mo_holds_0 rfl 0 rfl ?_
  refine q_iloadn 2 d_Mo_holds_1 rfl 1 rfl ?_
  refine q_ite h (fun c1 h => ?_) (fun c1 h => ?_)
  · refine q_if_lt_t 9 d_Mo_holds_2 (by decide) c1 ?_
    refine q_iconst (v := 0) 10 d_Mo_holds_9 rfl (by decide) ?_
    exact t_Mo_holds_J10  _ _ _ h
  · refine q_if_lt_f 5 d_Mo_holds_2 rfl 9 (by decide) c1 ?_
    refine q_iconst (v := 1) 6 d_Mo_holds_5 rfl (by decide) ?_
    refine q_goto 10 d_Mo_holds_6 (by decide) ?_
    exact t_Mo_holds_J10  _ _ _ h
set_option maxHeartbeats 4000000 in
set_option maxRecDepth 100000 in
theorem t_Lw_type {E : q_E} {c d : Nat} (hcd : q_cd c d) {x : q_W} {a1 : Int32} {ρ : Int32 × q_W} (h : f_Lw_type c d x a1 = some ρ) : q_Ct E y_Lw_type m_Lw_type (q_rm 7) (q_cells E c d x) [.ref 0, .int a1, .ref 59] (q_rL E c d ρ) := by
  unfold f_Lw_type at h
  refine q_Ct.of (lv := [(0, .ref 0), (1, .int a1), (2, .ref 59)]) (by decide) ⟨rfl, rfl⟩ rfl (Nat.le_of_ble_eq_true rfl) ?_
  refine q_aloadn 1 d_Lw_type_0 rfl 2 rfl ?_
  refine q_iconst (v := 0) 2 d_Lw_type_1 rfl (by decide) ?_
  refine q_aloadn 3 d_Lw_type_2 rfl 0 rfl ?_
  refine q_iloadn 4 d_Lw_type_3 rfl 1 rfl ?_
  refine q_xcatT (as := [.ref 0, .int a1]) (rest := [.int 0, .ref 59]) 7 h (fun z e => t_D_type hcd e) (q_xinvV (Y := m_D_type) d_Lw_type_4 ml_Lw_7 ms_D_type.1 ms_D_type.2 k_D_type.1 (by decide) n_D_type (by decide) rfl rfl) k_D_type (q_ro (by decide) (by decide)) (Nat.le_of_ble_eq_true rfl) d_Lw_type_4 rfl rfl rfl (fun w1 x2 ew1 h => ?_) (fun k6 x7 ek6 h => ?_)
  · refine q_ite h (fun c5 h => ?_) (fun c5 h => ?_)
    · refine q_if_eq_t 14 d_Lw_type_7 (by decide) c5 ?_
      refine q_lconst (v := 0) 15 d_Lw_type_14 rfl (by decide) ?_
      refine q_xlast 16 d_Lw_type_15 rfl h (fun x3 ex3 h => ?_)
      refine q_goto 22 d_Lw_type_16 (by decide) ?_
      refine q_iconst (v := 0) 23 d_Lw_type_22 rfl (by decide) ?_
      cases h
      exact q_iret d_Lw_type_23 rfl (by decide) (by decide)
    · refine q_if_eq_f 10 d_Lw_type_7 rfl 14 (by decide) c5 ?_
      refine q_lconst (v := 1) 11 d_Lw_type_10 rfl (by decide) ?_
      refine q_goto 15 d_Lw_type_11 (by decide) ?_
      refine q_xlast 16 d_Lw_type_15 rfl h (fun x4 ex4 h => ?_)
      refine q_goto 22 d_Lw_type_16 (by decide) ?_
      refine q_iconst (v := 0) 23 d_Lw_type_22 rfl (by decide) ?_
      cases h
      exact q_iret d_Lw_type_23 rfl (by decide) (by decide)
  · refine q_ite h (fun c8 h => ?_) (fun c8 h => ?_)
    · subst c8
      refine q_callC (lv := [(0, .ref 0), (1, .int a1), (2, .ref 59)]) (as := [.ref 0, .int a1]) (rest := [.int 0, .ref 59]) (i := 3) (name := "java/lang/IllegalArgumentException") 20 (t_D_type hcd ek6) (q_xinvV (Y := m_D_type) d_Lw_type_4 ml_Lw_7 ms_D_type.1 ms_D_type.2 k_D_type.1 (by decide) n_D_type (by decide) rfl rfl) k_D_type (q_ro (by decide) (by decide)) (Nat.le_of_ble_eq_true rfl) d_Lw_type_4 rfl [] (0, 16, 19, 13) [] rfl (fun q hq => nomatch hq) (by decide) (by decide) (q_tb 179 (by decide +kernel)) (q_tb 195 (by decide +kernel)) d_Lw_type_19 rfl (by decide) rfl ?_
      refine q_iconst (v := 1) 21 d_Lw_type_20 rfl (by decide) ?_
      cases h
      exact q_iret d_Lw_type_21 rfl (by decide) (by decide)
    · cases h
set_option maxHeartbeats 4000000 in
set_option maxRecDepth 100000 in
theorem t_Lw_formula {E : q_E} {c d : Nat} (hcd : q_cd c d) {x : q_W} {ρ : Int32 × (Nat × Nat × q_W)} (h : f_Lw_formula c d x = some ρ) : q_Ct E y_Lw_formula m_Lw_formula (q_rm 75) (q_cells E c d x) [.ref 0, .ref 59] (q_rSF E ρ) := by
  unfold f_Lw_formula at h
  refine q_Ct.of (lv := [(0, .ref 0), (1, .ref 59)]) (by decide) ⟨rfl, rfl⟩ rfl (Nat.le_of_ble_eq_true rfl) ?_
  refine q_aloadn 1 d_Lw_formula_0 rfl 1 rfl ?_
  refine q_iconst (v := 0) 2 d_Lw_formula_1 rfl (by decide) ?_
  refine q_aloadn 3 d_Lw_formula_2 rfl 0 rfl ?_
  refine q_xcatF (as := [.ref 0]) (rest := [.int 0, .ref 59]) 6 h (fun z e => t_D_formula hcd e) (q_xinvV (Y := m_D_formula) d_Lw_formula_3 ml_Lw_15 ms_D_formula.1 ms_D_formula.2 k_D_formula.1 (by decide) n_D_formula (by decide) rfl rfl) k_D_formula (q_ro (by decide) (by decide)) (Nat.le_of_ble_eq_true rfl) d_Lw_formula_3 rfl rfl rfl (fun w1 x2 ew1 h => ?_) (fun k4 x5 ek4 h => ?_)
  · refine q_i2l 7 d_Lw_formula_6 rfl ?_
    refine q_xlast 8 d_Lw_formula_7 rfl h (fun x3 ex3 h => ?_)
    refine q_goto 14 d_Lw_formula_8 (by decide) ?_
    refine q_iconst (v := 0) 15 d_Lw_formula_14 rfl (by decide) ?_
    cases h
    exact q_iret d_Lw_formula_15 rfl (by decide) (by decide)
  · refine q_ite h (fun c6 h => ?_) (fun c6 h => ?_)
    · subst c6
      refine q_callC (lv := [(0, .ref 0), (1, .ref 59)]) (as := [.ref 0]) (rest := [.int 0, .ref 59]) (i := 2) (name := "java/lang/IllegalArgumentException") 12 (t_D_formula hcd ek4) (q_xinvV (Y := m_D_formula) d_Lw_formula_3 ml_Lw_15 ms_D_formula.1 ms_D_formula.2 k_D_formula.1 (by decide) n_D_formula (by decide) rfl rfl) k_D_formula (q_ro (by decide) (by decide)) (Nat.le_of_ble_eq_true rfl) d_Lw_formula_3 rfl [] (0, 8, 11, 13) [] rfl (fun q hq => nomatch hq) (by decide) (by decide) (q_tb 179 (by decide +kernel)) (q_tb 195 (by decide +kernel)) d_Lw_formula_11 rfl (by decide) rfl ?_
      refine q_iconst (v := 1) 13 d_Lw_formula_12 rfl (by decide) ?_
      cases h
      exact q_iret d_Lw_formula_13 rfl (by decide) (by decide)
    · cases h
set_option maxHeartbeats 4000000 in
set_option maxRecDepth 100000 in
theorem t_Lw_states {E : q_E} {c d : Nat} (hcd : q_cd c d) {x : q_W} {ρ : Int32 × q_W} (h : f_Lw_states c d x = some ρ) : q_Ct E y_Lw_states m_Lw_states (q_rm 8) (q_cells E c d x) [.ref 0, .ref 59] (q_rL E c d ρ) := by
  unfold f_Lw_states at h
  refine q_Ct.of (lv := [(0, .ref 0), (1, .ref 59)]) (by decide) ⟨rfl, rfl⟩ rfl (Nat.le_of_ble_eq_true rfl) ?_
  refine q_aloadn 1 d_Lw_states_0 rfl 1 rfl ?_
  refine q_iconst (v := 0) 2 d_Lw_states_1 rfl (by decide) ?_
  refine q_aloadn 3 d_Lw_states_2 rfl 0 rfl ?_
  refine q_xcatP (as := [.ref 0]) (rest := [.int 0, .ref 59]) 6 h (fun z e => t_D_states hcd e) (q_xinvV (Y := m_D_states) d_Lw_states_3 ml_Lw_19 ms_D_states.1 ms_D_states.2 k_D_states.1 (by decide) n_D_states (by decide) rfl rfl) k_D_states (q_ro (by decide) (by decide)) (Nat.le_of_ble_eq_true rfl) d_Lw_states_3 rfl rfl rfl (fun w1  ew1 h => ?_) (fun k4  ek4 h => ?_)
  · refine q_i2l 7 d_Lw_states_6 rfl ?_
    refine q_xlast 8 d_Lw_states_7 rfl h (fun x3 ex3 h => ?_)
    refine q_goto 14 d_Lw_states_8 (by decide) ?_
    refine q_iconst (v := 0) 15 d_Lw_states_14 rfl (by decide) ?_
    cases h
    exact q_iret d_Lw_states_15 rfl (by decide) (by decide)
  · refine q_ite h (fun c6 h => ?_) (fun c6 h => ?_)
    · subst c6
      refine q_callC (lv := [(0, .ref 0), (1, .ref 59)]) (as := [.ref 0]) (rest := [.int 0, .ref 59]) (i := 2) (name := "java/lang/IllegalStateException") 12 (t_D_states hcd ek4) (q_xinvV (Y := m_D_states) d_Lw_states_3 ml_Lw_19 ms_D_states.1 ms_D_states.2 k_D_states.1 (by decide) n_D_states (by decide) rfl rfl) k_D_states (q_ro (by decide) (by decide)) (Nat.le_of_ble_eq_true rfl) d_Lw_states_3 rfl [] (0, 8, 11, 22) [] rfl (fun q hq => nomatch hq) (by decide) (by decide) (q_tb 327 (by decide +kernel)) (q_tb 338 (by decide +kernel)) d_Lw_states_11 rfl (by decide) rfl ?_
      refine q_iconst (v := 1) 13 d_Lw_states_12 rfl (by decide) ?_
      cases h
      exact q_iret d_Lw_states_13 rfl (by decide) (by decide)
    · cases h
