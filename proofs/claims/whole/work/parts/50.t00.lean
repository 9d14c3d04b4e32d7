set_option maxHeartbeats 4000000 in
set_option maxRecDepth 100000 in
theorem t_Li_byteOf {E : q_E} {c d : Nat} {x : q_W} {a0 : Int32} {a1 : Int32} {ρ : Int32} (h : f_Li_byteOf x a0 a1 = some ρ) : q_Ct E y_Li_byteOf m_Li_byteOf (q_rm 0) (q_cells E c d x) [.int a0, .int a1] (q_rP E c d x ρ) := by
  unfold f_Li_byteOf at h
  refine q_Ct.of (lv := [(0, .int a0), (1, .int a1)]) (by decide) ⟨rfl, rfl⟩ rfl (Nat.le_of_ble_eq_true rfl) ?_
  refine q_iloadn 1 d_Li_byteOf_0 rfl 0 rfl ?_
  refine q_bipush (v := 8) 3 d_Li_byteOf_1 rfl (by decide) ?_
  refine q_iloadn 4 d_Li_byteOf_3 rfl 1 rfl ?_
  refine q_imul 5 d_Li_byteOf_4 rfl ?_
  refine q_iushr 6 d_Li_byteOf_5 rfl ?_
  refine q_sipush (v := 255) 9 d_Li_byteOf_6 rfl (by decide) ?_
  refine q_iand 10 d_Li_byteOf_9 rfl ?_
  cases h
  exact q_iret d_Li_byteOf_10 rfl (Nat.zero_le _) (Nat.zero_le _)
set_option maxHeartbeats 4000000 in
set_option maxRecDepth 100000 in
theorem t_Li_append_L15 {E : q_E} {c d : Nat} {ρ : Int32 × q_W} : ∀ (n : Nat) (x : q_W) (v1 : Int32) (v2 : Int32) (v3 : Int32), f_Li_append_L15  n x v1 v2 v3 = some ρ → AW E (q_rm 1) m_Li_append (q_cells E c d x) 0 0 15 [(0, .ref 1), (1, .int v1), (2, .int v2), (3, .int v3)] [] (q_rS E c d ρ) := by
  intro n
  induction n with
  | zero =>
    intro x v1 v2 v3 h
    have h : (none : Option (Int32 × q_W)) = some ρ := h
    cases h
  | succ n ih =>
    intro x v1 v2 v3 h
    unfold f_Li_append_L15 at h
    refine q_iloadn 16 d_Li_append_15 rfl 3 rfl ?_
    refine q_iloadn 17 d_Li_append_16 rfl 2 rfl ?_
    refine q_ite h (fun c5 h => ?_) (fun c5 h => ?_)
    · refine q_icmp_ge_t 43 d_Li_append_17 (by decide) c5 ?_
      refine q_aloadn 44 d_Li_append_43 rfl 0 rfl ?_
      refine q_dup 45 d_Li_append_44 rfl rfl ?_
      refine q_xget 48 d_Li_append_45 rfl fl_Li_15 (by decide) rfl rfl ?_
      refine q_iloadn 49 d_Li_append_48 rfl 2 rfl ?_
      refine q_iadd 50 d_Li_append_49 rfl ?_
      refine q_xput 53 d_Li_append_50 rfl fl_Li_15 (by decide) rfl rfl rfl rfl (Nat.le_of_ble_eq_true rfl) (fun _ => rfl) h (fun x2 ex2 h => ?_)
      refine q_iconst (v := 1) 54 d_Li_append_53 rfl (by decide) ?_
      cases h
      exact q_zret d_Li_append_54 rfl (Nat.zero_le _) (Nat.zero_le _)
    · refine q_icmp_ge_f 20 d_Li_append_17 rfl 43 (by decide) c5 ?_
      refine q_aloadn 21 d_Li_append_20 rfl 0 rfl ?_
      refine q_xget 24 d_Li_append_21 rfl fl_Li_9 (by decide) rfl rfl ?_
      refine q_aloadn 25 d_Li_append_24 rfl 0 rfl ?_
      refine q_xget 28 d_Li_append_25 rfl fl_Li_15 (by decide) rfl rfl ?_
      refine q_iloadn 29 d_Li_append_28 rfl 3 rfl ?_
      refine q_iadd 30 d_Li_append_29 rfl ?_
      refine q_iloadn 31 d_Li_append_30 rfl 1 rfl ?_
      refine q_iloadn 32 d_Li_append_31 rfl 3 rfl ?_
      refine q_xcallP (as := [.int v1, .int v3]) (rest := [.int ((x.2 1 1) + v3), .ref 2]) 35 h (fun z e => t_Li_byteOf e) (q_invS (Y := m_Li_byteOf) d_Li_append_32 ml_Li_22 ms_Li_byteOf k_Li_byteOf.2 k_Li_byteOf.1 (by decide) n_Li_byteOf) k_Li_byteOf (q_ro (by decide) (by decide)) (Nat.le_of_ble_eq_true rfl) d_Li_append_32 rfl rfl rfl (fun w3 ew3 h => ?_)
      refine q_i2c 36 d_Li_append_35 rfl ?_
      refine q_xcast 37 d_Li_append_36 rfl (by decide) (fun _ => rfl) h (fun x4 ex4 h => ?_)
      refine q_iinc (v := (v3 + 1)) (lv' := [(3, .int (v3 + 1)), (0, .ref 1), (1, .int v1), (2, .int v2)]) 40 d_Li_append_37 rfl 3 rfl (q_ai (by decide)) (by decide) rfl ?_
      refine q_goto 15 d_Li_append_40 (by decide) ?_
      refine q_sub (lv' := [(0, .ref 1), (1, .int v1), (2, .int v2), (3, .int (v3 + 1))]) [1, 2, 3, 0] rfl ?_
      exact ih _ _ _ _ h
set_option maxHeartbeats 4000000 in
set_option maxRecDepth 100000 in
theorem t_Li_append {E : q_E} {c d : Nat} {x : q_W} {a1 : Int32} {a2 : Int32} {ρ : Int32 × q_W} (h : f_Li_append x a1 a2 = some ρ) : q_Ct E y_Li_append m_Li_append (q_rm 1) (q_cells E c d x) [.ref 1, .int a1, .int a2] (q_rS E c d ρ) := by
  unfold f_Li_append at h
  refine q_Ct.of (lv := [(0, .ref 1), (1, .int a1), (2, .int a2)]) (by decide) ⟨rfl, rfl⟩ rfl (Nat.le_of_ble_eq_true rfl) ?_
  refine q_aloadn 1 d_Li_append_0 rfl 0 rfl ?_
  refine q_xget 4 d_Li_append_1 rfl fl_Li_15 (by decide) rfl rfl ?_
  refine q_iloadn 5 d_Li_append_4 rfl 2 rfl ?_
  refine q_iadd 6 d_Li_append_5 rfl ?_
  refine q_bipush (v := 18) 8 d_Li_append_6 rfl (by decide) ?_
  refine q_ite h (fun c1 h => ?_) (fun c1 h => ?_)
  · refine q_icmp_le_t 13 d_Li_append_8 (by decide) c1 ?_
    refine q_iconst (v := 0) 14 d_Li_append_13 rfl (by decide) ?_
    refine q_istoren (lv' := [(3, .int 0), (0, .ref 1), (1, .int a1), (2, .int a2)]) 15 d_Li_append_14 rfl (by decide) rfl ?_
    refine q_sub (lv' := [(0, .ref 1), (1, .int a1), (2, .int a2), (3, .int 0)]) [1, 2, 3, 0] rfl ?_
    exact t_Li_append_L15  q_fu _ _ _ _ h
  · refine q_icmp_le_f 11 d_Li_append_8 rfl 13 (by decide) c1 ?_
    refine q_iconst (v := 0) 12 d_Li_append_11 rfl (by decide) ?_
    cases h
    exact q_zret d_Li_append_12 rfl (Nat.zero_le _) (Nat.zero_le _)
set_option maxHeartbeats 4000000 in
set_option maxRecDepth 100000 in
theorem t_Li_areVisible_L2 {E : q_E} {c d : Nat} {ρ : Int32} : ∀ (n : Nat) (x : q_W) (v0 : Int32) (v1 : Int32) (v2 : Int32), f_Li_areVisible_L2  n x v0 v1 v2 = some ρ → AW E (q_rm 1) m_Li_areVisible (q_cells E c d x) 0 0 2 [(0, .int v0), (1, .int v1), (2, .int v2)] [] (q_rP E c d x ρ) := by
  intro n
  induction n with
  | zero =>
    intro x v0 v1 v2 h
    have h : (none : Option Int32) = some ρ := h
    cases h
  | succ n ih =>
    intro x v0 v1 v2 h
    unfold f_Li_areVisible_L2 at h
    refine q_iloadn 3 d_Li_areVisible_2 rfl 2 rfl ?_
    refine q_iloadn 4 d_Li_areVisible_3 rfl 1 rfl ?_
    refine q_ite h (fun c4 h => ?_) (fun c4 h => ?_)
    · refine q_icmp_ge_t 33 d_Li_areVisible_4 (by decide) c4 ?_
      refine q_iconst (v := 1) 34 d_Li_areVisible_33 rfl (by decide) ?_
      cases h
      exact q_zret d_Li_areVisible_34 rfl (Nat.zero_le _) (Nat.zero_le _)
    · refine q_icmp_ge_f 7 d_Li_areVisible_4 rfl 33 (by decide) c4 ?_
      refine q_iloadn 8 d_Li_areVisible_7 rfl 0 rfl ?_
      refine q_iloadn 9 d_Li_areVisible_8 rfl 2 rfl ?_
      refine q_xcallP (as := [.int v0, .int v2]) (rest := []) 12 h (fun z e => t_Li_byteOf e) (q_invS (Y := m_Li_byteOf) d_Li_areVisible_9 ml_Li_22 ms_Li_byteOf k_Li_byteOf.2 k_Li_byteOf.1 (by decide) n_Li_byteOf) k_Li_byteOf (q_ro (by decide) (by decide)) (Nat.le_of_ble_eq_true rfl) d_Li_areVisible_9 rfl rfl rfl (fun w1 ew1 h => ?_)
      refine q_istoren (lv' := [(3, .int w1), (0, .int v0), (1, .int v1), (2, .int v2)]) 13 d_Li_areVisible_12 rfl (by decide) rfl ?_
      refine q_iloadn 14 d_Li_areVisible_13 rfl 0 rfl ?_
      refine q_bipush (v := 33) 16 d_Li_areVisible_14 rfl (by decide) ?_
      refine q_ite h (fun c3 h => ?_) (fun c3 h => ?_)
      · refine q_icmp_lt_t 25 d_Li_areVisible_16 (by decide) c3 ?_
        refine q_iconst (v := 0) 26 d_Li_areVisible_25 rfl (by decide) ?_
        cases h
        exact q_zret d_Li_areVisible_26 rfl (Nat.zero_le _) (Nat.zero_le _)
      · refine q_icmp_lt_f 19 d_Li_areVisible_16 rfl 25 (by decide) c3 ?_
        refine q_iloadn 20 d_Li_areVisible_19 rfl 0 rfl ?_
        refine q_bipush (v := 126) 22 d_Li_areVisible_20 rfl (by decide) ?_
        refine q_ite h (fun c2 h => ?_) (fun c2 h => ?_)
        · refine q_icmp_le_t 27 d_Li_areVisible_22 (by decide) c2 ?_
          refine q_iinc (v := (v2 + 1)) (lv' := [(2, .int (v2 + 1)), (3, .int w1), (0, .int v0), (1, .int v1)]) 30 d_Li_areVisible_27 rfl 3 rfl (q_ai (by decide)) (by decide) rfl ?_
          refine q_goto 2 d_Li_areVisible_30 (by decide) ?_
          refine q_sub (lv' := [(0, .int v0), (1, .int v1), (2, .int (v2 + 1))]) [2, 3, 0] rfl ?_
          exact ih _ _ _ _ h
        · refine q_icmp_le_f 25 d_Li_areVisible_22 rfl 27 (by decide) c2 ?_
          refine q_iconst (v := 0) 26 d_Li_areVisible_25 rfl (by decide) ?_
          cases h
          exact q_zret d_Li_areVisible_26 rfl (Nat.zero_le _) (Nat.zero_le _)
set_option maxHeartbeats 4000000 in
set_option maxRecDepth 100000 in
theorem t_Li_areVisible {E : q_E} {c d : Nat} {x : q_W} {a0 : Int32} {a1 : Int32} {ρ : Int32} (h : f_Li_areVisible x a0 a1 = some ρ) : q_Ct E y_Li_areVisible m_Li_areVisible (q_rm 1) (q_cells E c d x) [.int a0, .int a1] (q_rP E c d x ρ) := by
  unfold f_Li_areVisible at h
  refine q_Ct.of (lv := [(0, .int a0), (1, .int a1)]) (by decide) ⟨rfl, rfl⟩ rfl (Nat.le_of_ble_eq_true rfl) ?_
  refine q_iconst (v := 0) 1 d_Li_areVisible_0 rfl (by decide) ?_
  refine q_istoren (lv' := [(2, .int 0), (0, .int a0), (1, .int a1)]) 2 d_Li_areVisible_1 rfl (by decide) rfl ?_
  refine q_sub (lv' := [(0, .int a0), (1, .int a1), (2, .int 0)]) [1, 2, 0] rfl ?_
  exact t_Li_areVisible_L2  q_fu _ _ _ _ h
set_option maxHeartbeats 4000000 in
set_option maxRecDepth 100000 in
theorem t_Li_countTyped_L2 {E : q_E} {c d : Nat} {ρ : Int32} : ∀ (n : Nat) (x : q_W) (v0 : Int32) (v1 : Int32), f_Li_countTyped_L2  n x v0 v1 = some ρ → AW E (q_rm 1) m_Li_countTyped (q_cells E c d x) 0 0 2 [(0, .int v0), (1, .int v1)] [] (q_rP E c d x ρ) := by
  intro n
  induction n with
  | zero =>
    intro x v0 v1 h
    have h : (none : Option Int32) = some ρ := h
    cases h
  | succ n ih =>
    intro x v0 v1 h
    unfold f_Li_countTyped_L2 at h
    refine q_iloadn 3 d_Li_countTyped_2 rfl 1 rfl ?_
    refine q_iconst (v := 4) 4 d_Li_countTyped_3 rfl (by decide) ?_
    refine q_ite h (fun c3 h => ?_) (fun c3 h => ?_)
    · refine q_icmp_ge_t 21 d_Li_countTyped_4 (by decide) c3 ?_
      refine q_iloadn 22 d_Li_countTyped_21 rfl 1 rfl ?_
      cases h
      exact q_iret d_Li_countTyped_22 rfl (Nat.zero_le _) (Nat.zero_le _)
    · refine q_icmp_ge_f 7 d_Li_countTyped_4 rfl 21 (by decide) c3 ?_
      refine q_iloadn 8 d_Li_countTyped_7 rfl 0 rfl ?_
      refine q_iloadn 9 d_Li_countTyped_8 rfl 1 rfl ?_
      refine q_xcallP (as := [.int v0, .int v1]) (rest := []) 12 h (fun z e => t_Li_byteOf e) (q_invS (Y := m_Li_byteOf) d_Li_countTyped_9 ml_Li_22 ms_Li_byteOf k_Li_byteOf.2 k_Li_byteOf.1 (by decide) n_Li_byteOf) k_Li_byteOf (q_ro (by decide) (by decide)) (Nat.le_of_ble_eq_true rfl) d_Li_countTyped_9 rfl rfl rfl (fun w1 ew1 h => ?_)
      refine q_ite h (fun c2 h => ?_) (fun c2 h => ?_)
      · refine q_if_eq_t 21 d_Li_countTyped_12 (by decide) c2 ?_
        refine q_iloadn 22 d_Li_countTyped_21 rfl 1 rfl ?_
        cases h
        exact q_iret d_Li_countTyped_22 rfl (Nat.zero_le _) (Nat.zero_le _)
      · refine q_if_eq_f 15 d_Li_countTyped_12 rfl 21 (by decide) c2 ?_
        refine q_iinc (v := (v1 + 1)) (lv' := [(1, .int (v1 + 1)), (0, .int v0)]) 18 d_Li_countTyped_15 rfl 1 rfl (q_ai (by decide)) (by decide) rfl ?_
        refine q_goto 2 d_Li_countTyped_18 (by decide) ?_
        refine q_sub (lv' := [(0, .int v0), (1, .int (v1 + 1))]) [1, 0] rfl ?_
        exact ih _ _ _ h
set_option maxHeartbeats 4000000 in
set_option maxRecDepth 100000 in
theorem t_Li_countTyped {E : q_E} {c d : Nat} {x : q_W} {a0 : Int32} {ρ : Int32} (h : f_Li_countTyped x a0 = some ρ) : q_Ct E y_Li_countTyped m_Li_countTyped (q_rm 1) (q_cells E c d x) [.int a0] (q_rP E c d x ρ) := by
  unfold f_Li_countTyped at h
  refine q_Ct.of (lv := [(0, .int a0)]) (by decide) ⟨rfl, rfl⟩ rfl (Nat.le_of_ble_eq_true rfl) ?_
  refine q_iconst (v := 0) 1 d_Li_countTyped_0 rfl (by decide) ?_
  refine q_istoren (lv' := [(1, .int 0), (0, .int a0)]) 2 d_Li_countTyped_1 rfl (by decide) rfl ?_
  refine q_sub (lv' := [(0, .int a0), (1, .int 0)]) [1, 0] rfl ?_
  exact t_Li_countTyped_L2  q_fu _ _ _ h
set_option maxHeartbeats 4000000 in
set_option maxRecDepth 100000 in
theorem t_D_type {E : q_E} {c d : Nat} (hcd : q_cd c d) {x : q_W} {a1 : Int32} {ρ : (Int32 ⊕ Nat) × q_W} (h : f_D_type c d x a1 = some ρ) : q_Ct E y_D_type m_D_type (q_rm 6) (q_cells E c d x) [.ref 0, .int a1] (q_rT E c d false ρ) := by
  rcases hcd with ⟨rfl, rfl⟩ | ⟨rfl, rfl⟩
  · unfold f_D_type at h
    refine q_Ct.of (lv := [(0, .ref 0), (1, .int a1)]) (by decide) ⟨rfl, rfl⟩ rfl (Nat.le_of_ble_eq_true rfl) ?_
    refine q_iloadn 1 d_D_type_0 rfl 1 rfl ?_
    refine q_xcallP (as := [.int a1]) (rest := []) 4 h (fun z e => t_Li_countTyped e) (q_invS (Y := m_Li_countTyped) d_D_type_1 ml_D_54 ms_Li_countTyped k_Li_countTyped.2 k_Li_countTyped.1 (by decide) n_Li_countTyped) k_Li_countTyped (q_ro (by decide) (by decide)) (Nat.le_of_ble_eq_true rfl) d_D_type_1 rfl rfl rfl (fun w1 ew1 h => ?_)
    refine q_istoren (lv' := [(2, .int w1), (0, .ref 0), (1, .int a1)]) 5 d_D_type_4 rfl (by decide) rfl ?_
    refine q_iloadn 6 d_D_type_5 rfl 2 rfl ?_
    refine q_iloadn 7 d_D_type_6 rfl 0 rfl ?_
    refine q_xcallP (as := [.int a1, .int w1]) (rest := []) 10 h (fun z e => t_Li_areVisible e) (q_invS (Y := m_Li_areVisible) d_D_type_7 ml_D_58 ms_Li_areVisible k_Li_areVisible.2 k_Li_areVisible.1 (by decide) n_Li_areVisible) k_Li_areVisible (q_ro (by decide) (by decide)) (Nat.le_of_ble_eq_true rfl) d_D_type_7 rfl rfl rfl (fun w2 ew2 h => ?_)
    refine q_ite h (fun c4 h => ?_) (fun c4 h => ?_)
    · refine q_if_ne_t 23 d_D_type_10 (by decide) c4 ?_
      refine q_aloadn 24 d_D_type_23 rfl 1 rfl ?_
      refine q_xget 27 d_D_type_24 rfl fl_D_12 (by decide) rfl rfl ?_
      refine q_iloadn 28 d_D_type_27 rfl 2 rfl ?_
      refine q_iloadn 29 d_D_type_28 rfl 0 rfl ?_
      refine q_xcallS (as := [.ref 1, .int a1, .int w1]) (rest := []) 32 h (fun z e => t_Li_append e) (q_xinvV (Y := m_Li_append) d_D_type_29 ml_D_69 ms_Li_append.1 ms_Li_append.2 k_Li_append.1 (by decide) n_Li_append (by decide) rfl rfl) k_Li_append (q_ro (by decide) (by decide)) (Nat.le_of_ble_eq_true rfl) d_D_type_29 rfl rfl rfl (fun q3 eq3 h => ?_)
      cases h
      exact q_zret d_D_type_32 rfl (Nat.zero_le _) (Nat.zero_le _)
    · refine q_if_ne_f 13 d_D_type_10 rfl 23 (by decide) (Classical.not_not.mp c4) ?_
      cases h
      exact q_throw_D_type_13
  · unfold f_D_type at h
    refine q_Ct.of (lv := [(0, .ref 0), (1, .int a1)]) (by decide) ⟨rfl, rfl⟩ rfl (Nat.le_of_ble_eq_true rfl) ?_
    refine q_iloadn 1 d_D_type_0 rfl 1 rfl ?_
    refine q_xcallP (as := [.int a1]) (rest := []) 4 h (fun z e => t_Li_countTyped e) (q_invS (Y := m_Li_countTyped) d_D_type_1 ml_D_54 ms_Li_countTyped k_Li_countTyped.2 k_Li_countTyped.1 (by decide) n_Li_countTyped) k_Li_countTyped (q_ro (by decide) (by decide)) (Nat.le_of_ble_eq_true rfl) d_D_type_1 rfl rfl rfl (fun w1 ew1 h => ?_)
    refine q_istoren (lv' := [(2, .int w1), (0, .ref 0), (1, .int a1)]) 5 d_D_type_4 rfl (by decide) rfl ?_
    refine q_iloadn 6 d_D_type_5 rfl 2 rfl ?_
    refine q_iloadn 7 d_D_type_6 rfl 0 rfl ?_
    refine q_xcallP (as := [.int a1, .int w1]) (rest := []) 10 h (fun z e => t_Li_areVisible e) (q_invS (Y := m_Li_areVisible) d_D_type_7 ml_D_58 ms_Li_areVisible k_Li_areVisible.2 k_Li_areVisible.1 (by decide) n_Li_areVisible) k_Li_areVisible (q_ro (by decide) (by decide)) (Nat.le_of_ble_eq_true rfl) d_D_type_7 rfl rfl rfl (fun w2 ew2 h => ?_)
    refine q_ite h (fun c4 h => ?_) (fun c4 h => ?_)
    · refine q_if_ne_t 23 d_D_type_10 (by decide) c4 ?_
      refine q_aloadn 24 d_D_type_23 rfl 1 rfl ?_
      refine q_xget 27 d_D_type_24 rfl fl_D_12 (by decide) rfl rfl ?_
      refine q_iloadn 28 d_D_type_27 rfl 2 rfl ?_
      refine q_iloadn 29 d_D_type_28 rfl 0 rfl ?_
      refine q_xcallS (as := [.ref 1, .int a1, .int w1]) (rest := []) 32 h (fun z e => t_Li_append e) (q_xinvV (Y := m_Li_append) d_D_type_29 ml_D_69 ms_Li_append.1 ms_Li_append.2 k_Li_append.1 (by decide) n_Li_append (by decide) rfl rfl) k_Li_append (q_ro (by decide) (by decide)) (Nat.le_of_ble_eq_true rfl) d_D_type_29 rfl rfl rfl (fun q3 eq3 h => ?_)
      cases h
      exact q_zret d_D_type_32 rfl (Nat.zero_le _) (Nat.zero_le _)
    · refine q_if_ne_f 13 d_D_type_10 rfl 23 (by decide) (Classical.not_not.mp c4) ?_
      cases h
      exact q_throw_D_type_13
set_option maxHeartbeats 4000000 in
set_option maxRecDepth 100000 in
theorem t_Fo_size {E : q_E} {c d : Nat} {f : Nat} (hf : f = 16 ∨ f = 24) {x : q_W} {ρ : Int32} (h : f_Fo_size f x = some ρ) : q_Ct E y_Fo_size m_Fo_size (q_rm 0) (q_cells E c d x) [.ref f] (q_rP E c d x ρ) := by
  rcases hf with rfl | rfl
  · unfold f_Fo_size at h
    refine q_Ct.of (lv := [(0, .ref 16)]) (by decide) ⟨rfl, rfl⟩ rfl (Nat.le_of_ble_eq_true rfl) ?_
    refine q_aloadn 1 d_Fo_size_0 rfl 0 rfl ?_
    refine q_xget 4 d_Fo_size_1 rfl fl_Fo_33 (by decide) rfl rfl ?_
    cases h
    exact q_iret d_Fo_size_4 rfl (Nat.zero_le _) (Nat.zero_le _)
  · unfold f_Fo_size at h
    refine q_Ct.of (lv := [(0, .ref 24)]) (by decide) ⟨rfl, rfl⟩ rfl (Nat.le_of_ble_eq_true rfl) ?_
    refine q_aloadn 1 d_Fo_size_0 rfl 0 rfl ?_
    refine q_xget 4 d_Fo_size_1 rfl fl_Fo_33 (by decide) rfl rfl ?_
    cases h
    exact q_iret d_Fo_size_4 rfl (Nat.zero_le _) (Nat.zero_le _)
set_option maxHeartbeats 4000000 in
set_option maxRecDepth 100000 in
theorem t_Li_clear {E : q_E} {c d : Nat} {x : q_W} {ρ : q_W} (h : f_Li_clear x = some ρ) : q_Ct E y_Li_clear m_Li_clear (q_rm 0) (q_cells E c d x) [.ref 1] (q_rV E c d ρ) := by
  unfold f_Li_clear at h
  refine q_Ct.of (lv := [(0, .ref 1)]) (by decide) ⟨rfl, rfl⟩ rfl (Nat.le_of_ble_eq_true rfl) ?_
  refine q_aloadn 1 d_Li_clear_0 rfl 0 rfl ?_
  refine q_iconst (v := 0) 2 d_Li_clear_1 rfl (by decide) ?_
  refine q_xput 5 d_Li_clear_2 rfl fl_Li_15 (by decide) rfl rfl rfl rfl (Nat.le_of_ble_eq_true rfl) (fun _ => rfl) h (fun x1 ex1 h => ?_)
  cases h
  exact q_vret d_Li_clear_5 rfl (Nat.zero_le _) (Nat.zero_le _)
set_option maxHeartbeats 4000000 in
set_option maxRecDepth 100000 in
theorem t_Fo_clear {E : q_E} {c d : Nat} {f : Nat} (hf : f = 16 ∨ f = 24) {x : q_W} {ρ : q_W} (h : f_Fo_clear f x = some ρ) : q_Ct E y_Fo_clear m_Fo_clear (q_rm 0) (q_cells E c d x) [.ref f] (q_rV E c d ρ) := by
  rcases hf with rfl | rfl
  · unfold f_Fo_clear at h
    refine q_Ct.of (lv := [(0, .ref 16)]) (by decide) ⟨rfl, rfl⟩ rfl (Nat.le_of_ble_eq_true rfl) ?_
    refine q_aloadn 1 d_Fo_clear_0 rfl 0 rfl ?_
    refine q_iconst (v := 0) 2 d_Fo_clear_1 rfl (by decide) ?_
    refine q_xput 5 d_Fo_clear_2 rfl fl_Fo_33 (by decide) rfl rfl rfl rfl (Nat.le_of_ble_eq_true rfl) (fun _ => rfl) h (fun x1 ex1 h => ?_)
    refine q_aloadn 6 d_Fo_clear_5 rfl 0 rfl ?_
    refine q_iconst (v := 0) 7 d_Fo_clear_6 rfl (by decide) ?_
    refine q_xput 10 d_Fo_clear_7 rfl fl_Fo_37 (by decide) rfl rfl rfl rfl (Nat.le_of_ble_eq_true rfl) (fun _ => rfl) h (fun x2 ex2 h => ?_)
    refine q_aloadn 11 d_Fo_clear_10 rfl 0 rfl ?_
    refine q_iconst (v := 0) 12 d_Fo_clear_11 rfl (by decide) ?_
    refine q_xput 15 d_Fo_clear_12 rfl fl_Fo_40 (by decide) rfl rfl rfl rfl (Nat.le_of_ble_eq_true rfl) (fun _ => rfl) h (fun x3 ex3 h => ?_)
    cases h
    exact q_vret d_Fo_clear_15 rfl (Nat.zero_le _) (Nat.zero_le _)
  · unfold f_Fo_clear at h
    refine q_Ct.of (lv := [(0, .ref 24)]) (by decide) ⟨rfl, rfl⟩ rfl (Nat.le_of_ble_eq_true rfl) ?_
    refine q_aloadn 1 d_Fo_clear_0 rfl 0 rfl ?_
    refine q_iconst (v := 0) 2 d_Fo_clear_1 rfl (by decide) ?_
    refine q_xput 5 d_Fo_clear_2 rfl fl_Fo_33 (by decide) rfl rfl rfl rfl (Nat.le_of_ble_eq_true rfl) (fun _ => rfl) h (fun x1 ex1 h => ?_)
    refine q_aloadn 6 d_Fo_clear_5 rfl 0 rfl ?_
    refine q_iconst (v := 0) 7 d_Fo_clear_6 rfl (by decide) ?_
    refine q_xput 10 d_Fo_clear_7 rfl fl_Fo_37 (by decide) rfl rfl rfl rfl (Nat.le_of_ble_eq_true rfl) (fun _ => rfl) h (fun x2 ex2 h => ?_)
    refine q_aloadn 11 d_Fo_clear_10 rfl 0 rfl ?_
    refine q_iconst (v := 0) 12 d_Fo_clear_11 rfl (by decide) ?_
    refine q_xput 15 d_Fo_clear_12 rfl fl_Fo_40 (by decide) rfl rfl rfl rfl (Nat.le_of_ble_eq_true rfl) (fun _ => rfl) h (fun x3 ex3 h => ?_)
    cases h
    exact q_vret d_Fo_clear_15 rfl (Nat.zero_le _) (Nat.zero_le _)
set_option maxHeartbeats 4000000 in
set_option maxRecDepth 100000 in
theorem t_Fo_listPromises_L7 {E : q_E} {c d : Nat} {f : Nat} (hf : f = 16 ∨ f = 24) {ρ : q_W} : ∀ (n : Nat) (x : q_W) (v1 : Int32), f_Fo_listPromises_L7 f n x v1 = some ρ → AW E (q_rm 0) m_Fo_listPromises (q_cells E c d x) 0 0 7 [(0, .ref f), (1, .int v1)] [] (q_rV E c d ρ) := by
  rcases hf with rfl | rfl
  · intro n
    induction n with
    | zero =>
      intro x v1 h
      have h : (none : Option q_W) = some ρ := h
      cases h
    | succ n ih =>
      intro x v1 h
      unfold f_Fo_listPromises_L7 at h
      refine q_iloadn 8 d_Fo_listPromises_7 rfl 1 rfl ?_
      refine q_aloadn 9 d_Fo_listPromises_8 rfl 0 rfl ?_
      refine q_xget 12 d_Fo_listPromises_9 rfl fl_Fo_37 (by decide) rfl rfl ?_
      refine q_ite h (fun c9 h => ?_) (fun c9 h => ?_)
      · refine q_icmp_ge_t 67 d_Fo_listPromises_12 (by decide) c9 ?_
        cases h
        exact q_vret d_Fo_listPromises_67 rfl (Nat.zero_le _) (Nat.zero_le _)
      · refine q_icmp_ge_f 15 d_Fo_listPromises_12 rfl 67 (by decide) c9 ?_
        refine q_iloadn 16 d_Fo_listPromises_15 rfl 1 rfl ?_
        refine q_iconst (v := 5) 17 d_Fo_listPromises_16 rfl (by decide) ?_
        refine q_ite h (fun c8 h => ?_) (fun c8 h => ?_)
        · refine q_icmp_ge_t 67 d_Fo_listPromises_17 (by decide) c8 ?_
          cases h
          exact q_vret d_Fo_listPromises_67 rfl (Nat.zero_le _) (Nat.zero_le _)
        · refine q_icmp_ge_f 20 d_Fo_listPromises_17 rfl 67 (by decide) c8 ?_
          refine q_aloadn 21 d_Fo_listPromises_20 rfl 0 rfl ?_
          refine q_xget 24 d_Fo_listPromises_21 rfl fl_Fo_9 (by decide) rfl rfl ?_
          refine q_aloadn 25 d_Fo_listPromises_24 rfl 0 rfl ?_
          refine q_xget 28 d_Fo_listPromises_25 rfl fl_Fo_24 (by decide) rfl rfl ?_
          refine q_iloadn 29 d_Fo_listPromises_28 rfl 1 rfl ?_
          refine q_xiald 30 d_Fo_listPromises_29 rfl (by decide) (fun _ => rfl) h (fun w2 ew2 h => ?_)
          refine q_xiald 31 d_Fo_listPromises_30 rfl (by decide) (fun _ => rfl) h (fun w3 ew3 h => ?_)
          refine q_bipush (v := 88) 33 d_Fo_listPromises_31 rfl (by decide) ?_
          refine q_ite h (fun c7 h => ?_) (fun c7 h => ?_)
          · refine q_icmp_eq_t 61 d_Fo_listPromises_33 (by decide) c7 ?_
            refine q_iinc (v := (v1 + 1)) (lv' := [(1, .int (v1 + 1)), (0, .ref 16)]) 64 d_Fo_listPromises_61 rfl 1 rfl (q_ai (by decide)) (by decide) rfl ?_
            refine q_goto 7 d_Fo_listPromises_64 (by decide) ?_
            refine q_sub (lv' := [(0, .ref 16), (1, .int (v1 + 1))]) [1, 0] rfl ?_
            exact ih _ _ h
          · refine q_icmp_eq_f 36 d_Fo_listPromises_33 rfl 61 (by decide) c7 ?_
            refine q_aloadn 37 d_Fo_listPromises_36 rfl 0 rfl ?_
            refine q_xget 40 d_Fo_listPromises_37 rfl fl_Fo_27 (by decide) rfl rfl ?_
            refine q_aloadn 41 d_Fo_listPromises_40 rfl 0 rfl ?_
            refine q_xget 44 d_Fo_listPromises_41 rfl fl_Fo_40 (by decide) rfl rfl ?_
            refine q_aloadn 45 d_Fo_listPromises_44 rfl 0 rfl ?_
            refine q_xget 48 d_Fo_listPromises_45 rfl fl_Fo_24 (by decide) rfl rfl ?_
            refine q_iloadn 49 d_Fo_listPromises_48 rfl 1 rfl ?_
            refine q_xiald 50 d_Fo_listPromises_49 rfl (by decide) (fun _ => rfl) h (fun w4 ew4 h => ?_)
            refine q_xiast 51 d_Fo_listPromises_50 rfl (by decide) (fun _ => rfl) h (fun x5 ex5 h => ?_)
            refine q_aloadn 52 d_Fo_listPromises_51 rfl 0 rfl ?_
            refine q_dup 53 d_Fo_listPromises_52 rfl rfl ?_
            refine q_xget 56 d_Fo_listPromises_53 rfl fl_Fo_40 (by decide) rfl rfl ?_
            refine q_iconst (v := 1) 57 d_Fo_listPromises_56 rfl (by decide) ?_
            refine q_iadd 58 d_Fo_listPromises_57 rfl ?_
            refine q_xput 61 d_Fo_listPromises_58 rfl fl_Fo_40 (by decide) rfl rfl rfl rfl (Nat.le_of_ble_eq_true rfl) (fun _ => rfl) h (fun x6 ex6 h => ?_)
            refine q_iinc (v := (v1 + 1)) (lv' := [(1, .int (v1 + 1)), (0, .ref 16)]) 64 d_Fo_listPromises_61 rfl 1 rfl (q_ai (by decide)) (by decide) rfl ?_
            refine q_goto 7 d_Fo_listPromises_64 (by decide) ?_
            refine q_sub (lv' := [(0, .ref 16), (1, .int (v1 + 1))]) [1, 0] rfl ?_
            exact ih _ _ h
  · intro n
    induction n with
    | zero =>
      intro x v1 h
      have h : (none : Option q_W) = some ρ := h
      cases h
    | succ n ih =>
      intro x v1 h
      unfold f_Fo_listPromises_L7 at h
      refine q_iloadn 8 d_Fo_listPromises_7 rfl 1 rfl ?_
      refine q_aloadn 9 d_Fo_listPromises_8 rfl 0 rfl ?_
      refine q_xget 12 d_Fo_listPromises_9 rfl fl_Fo_37 (by decide) rfl rfl ?_
      refine q_ite h (fun c9 h => ?_) (fun c9 h => ?_)
      · refine q_icmp_ge_t 67 d_Fo_listPromises_12 (by decide) c9 ?_
        cases h
        exact q_vret d_Fo_listPromises_67 rfl (Nat.zero_le _) (Nat.zero_le _)
      · refine q_icmp_ge_f 15 d_Fo_listPromises_12 rfl 67 (by decide) c9 ?_
        refine q_iloadn 16 d_Fo_listPromises_15 rfl 1 rfl ?_
        refine q_iconst (v := 5) 17 d_Fo_listPromises_16 rfl (by decide) ?_
        refine q_ite h (fun c8 h => ?_) (fun c8 h => ?_)
        · refine q_icmp_ge_t 67 d_Fo_listPromises_17 (by decide) c8 ?_
          cases h
          exact q_vret d_Fo_listPromises_67 rfl (Nat.zero_le _) (Nat.zero_le _)
        · refine q_icmp_ge_f 20 d_Fo_listPromises_17 rfl 67 (by decide) c8 ?_
          refine q_aloadn 21 d_Fo_listPromises_20 rfl 0 rfl ?_
          refine q_xget 24 d_Fo_listPromises_21 rfl fl_Fo_9 (by decide) rfl rfl ?_
          refine q_aloadn 25 d_Fo_listPromises_24 rfl 0 rfl ?_
          refine q_xget 28 d_Fo_listPromises_25 rfl fl_Fo_24 (by decide) rfl rfl ?_
          refine q_iloadn 29 d_Fo_listPromises_28 rfl 1 rfl ?_
          refine q_xiald 30 d_Fo_listPromises_29 rfl (by decide) (fun _ => rfl) h (fun w2 ew2 h => ?_)
          refine q_xiald 31 d_Fo_listPromises_30 rfl (by decide) (fun _ => rfl) h (fun w3 ew3 h => ?_)
          refine q_bipush (v := 88) 33 d_Fo_listPromises_31 rfl (by decide) ?_
          refine q_ite h (fun c7 h => ?_) (fun c7 h => ?_)
          · refine q_icmp_eq_t 61 d_Fo_listPromises_33 (by decide) c7 ?_
            refine q_iinc (v := (v1 + 1)) (lv' := [(1, .int (v1 + 1)), (0, .ref 24)]) 64 d_Fo_listPromises_61 rfl 1 rfl (q_ai (by decide)) (by decide) rfl ?_
            refine q_goto 7 d_Fo_listPromises_64 (by decide) ?_
            refine q_sub (lv' := [(0, .ref 24), (1, .int (v1 + 1))]) [1, 0] rfl ?_
            exact ih _ _ h
          · refine q_icmp_eq_f 36 d_Fo_listPromises_33 rfl 61 (by decide) c7 ?_
            refine q_aloadn 37 d_Fo_listPromises_36 rfl 0 rfl ?_
            refine q_xget 40 d_Fo_listPromises_37 rfl fl_Fo_27 (by decide) rfl rfl ?_
            refine q_aloadn 41 d_Fo_listPromises_40 rfl 0 rfl ?_
            refine q_xget 44 d_Fo_listPromises_41 rfl fl_Fo_40 (by decide) rfl rfl ?_
            refine q_aloadn 45 d_Fo_listPromises_44 rfl 0 rfl ?_
            refine q_xget 48 d_Fo_listPromises_45 rfl fl_Fo_24 (by decide) rfl rfl ?_
            refine q_iloadn 49 d_Fo_listPromises_48 rfl 1 rfl ?_
            refine q_xiald 50 d_Fo_listPromises_49 rfl (by decide) (fun _ => rfl) h (fun w4 ew4 h => ?_)
            refine q_xiast 51 d_Fo_listPromises_50 rfl (by decide) (fun _ => rfl) h (fun x5 ex5 h => ?_)
            refine q_aloadn 52 d_Fo_listPromises_51 rfl 0 rfl ?_
            refine q_dup 53 d_Fo_listPromises_52 rfl rfl ?_
            refine q_xget 56 d_Fo_listPromises_53 rfl fl_Fo_40 (by decide) rfl rfl ?_
            refine q_iconst (v := 1) 57 d_Fo_listPromises_56 rfl (by decide) ?_
            refine q_iadd 58 d_Fo_listPromises_57 rfl ?_
            refine q_xput 61 d_Fo_listPromises_58 rfl fl_Fo_40 (by decide) rfl rfl rfl rfl (Nat.le_of_ble_eq_true rfl) (fun _ => rfl) h (fun x6 ex6 h => ?_)
            refine q_iinc (v := (v1 + 1)) (lv' := [(1, .int (v1 + 1)), (0, .ref 24)]) 64 d_Fo_listPromises_61 rfl 1 rfl (q_ai (by decide)) (by decide) rfl ?_
            refine q_goto 7 d_Fo_listPromises_64 (by decide) ?_
            refine q_sub (lv' := [(0, .ref 24), (1, .int (v1 + 1))]) [1, 0] rfl ?_
            exact ih _ _ h
set_option maxHeartbeats 4000000 in
set_option maxRecDepth 100000 in
theorem t_Fo_listPromises {E : q_E} {c d : Nat} {f : Nat} (hf : f = 16 ∨ f = 24) {x : q_W} {ρ : q_W} (h : f_Fo_listPromises f x = some ρ) : q_Ct E y_Fo_listPromises m_Fo_listPromises (q_rm 0) (q_cells E c d x) [.ref f] (q_rV E c d ρ) := by
  rcases hf with rfl | rfl
  · unfold f_Fo_listPromises at h
    refine q_Ct.of (lv := [(0, .ref 16)]) (by decide) ⟨rfl, rfl⟩ rfl (Nat.le_of_ble_eq_true rfl) ?_
    refine q_aloadn 1 d_Fo_listPromises_0 rfl 0 rfl ?_
    refine q_iconst (v := 0) 2 d_Fo_listPromises_1 rfl (by decide) ?_
    refine q_xput 5 d_Fo_listPromises_2 rfl fl_Fo_40 (by decide) rfl rfl rfl rfl (Nat.le_of_ble_eq_true rfl) (fun _ => rfl) h (fun x1 ex1 h => ?_)
    refine q_iconst (v := 0) 6 d_Fo_listPromises_5 rfl (by decide) ?_
    refine q_istoren (lv' := [(1, .int 0), (0, .ref 16)]) 7 d_Fo_listPromises_6 rfl (by decide) rfl ?_
    refine q_sub (lv' := [(0, .ref 16), (1, .int 0)]) [1, 0] rfl ?_
    exact t_Fo_listPromises_L7 (Or.inl rfl) q_fu _ _ h
  · unfold f_Fo_listPromises at h
    refine q_Ct.of (lv := [(0, .ref 24)]) (by decide) ⟨rfl, rfl⟩ rfl (Nat.le_of_ble_eq_true rfl) ?_
    refine q_aloadn 1 d_Fo_listPromises_0 rfl 0 rfl ?_
    refine q_iconst (v := 0) 2 d_Fo_listPromises_1 rfl (by decide) ?_
    refine q_xput 5 d_Fo_listPromises_2 rfl fl_Fo_40 (by decide) rfl rfl rfl rfl (Nat.le_of_ble_eq_true rfl) (fun _ => rfl) h (fun x1 ex1 h => ?_)
    refine q_iconst (v := 0) 6 d_Fo_listPromises_5 rfl (by decide) ?_
    refine q_istoren (lv' := [(1, .int 0), (0, .ref 24)]) 7 d_Fo_listPromises_6 rfl (by decide) rfl ?_
    refine q_sub (lv' := [(0, .ref 24), (1, .int 0)]) [1, 0] rfl ?_
    exact t_Fo_listPromises_L7 (Or.inr rfl) q_fu _ _ h
set_option maxHeartbeats 4000000 in
set_option maxRecDepth 100000 in
theorem t_D_isTemporal {E : q_E} {c d : Nat} {x : q_W} {a0 : Int32} {ρ : Int32} (h : f_D_isTemporal x a0 = some ρ) : q_Ct E y_D_isTemporal m_D_isTemporal (q_rm 0) (q_cells E c d x) [.int a0] (q_rP E c d x ρ) := by
  unfold f_D_isTemporal at h
  refine q_Ct.of (lv := [(0, .int a0)]) (by decide) ⟨rfl, rfl⟩ rfl (Nat.le_of_ble_eq_true rfl) ?_
  refine q_iloadn 1 d_D_isTemporal_0 rfl 0 rfl ?_
  refine q_bipush (v := 88) 3 d_D_isTemporal_1 rfl (by decide) ?_
  refine q_ite h (fun c5 h => ?_) (fun c5 h => ?_)
  · refine q_icmp_eq_t 30 d_D_isTemporal_3 (by decide) c5 ?_
    refine q_iconst (v := 1) 31 d_D_isTemporal_30 rfl (by decide) ?_
    refine q_goto 35 d_D_isTemporal_31 (by decide) ?_
    cases h
    exact q_zret d_D_isTemporal_35 rfl (Nat.zero_le _) (Nat.zero_le _)
  · refine q_icmp_eq_f 6 d_D_isTemporal_3 rfl 30 (by decide) c5 ?_
    refine q_iloadn 7 d_D_isTemporal_6 rfl 0 rfl ?_
    refine q_bipush (v := 70) 9 d_D_isTemporal_7 rfl (by decide) ?_
    refine q_ite h (fun c4 h => ?_) (fun c4 h => ?_)
    · refine q_icmp_eq_t 30 d_D_isTemporal_9 (by decide) c4 ?_
      refine q_iconst (v := 1) 31 d_D_isTemporal_30 rfl (by decide) ?_
      refine q_goto 35 d_D_isTemporal_31 (by decide) ?_
      cases h
      exact q_zret d_D_isTemporal_35 rfl (Nat.zero_le _) (Nat.zero_le _)
    · refine q_icmp_eq_f 12 d_D_isTemporal_9 rfl 30 (by decide) c4 ?_
      refine q_iloadn 13 d_D_isTemporal_12 rfl 0 rfl ?_
      refine q_bipush (v := 71) 15 d_D_isTemporal_13 rfl (by decide) ?_
      refine q_ite h (fun c3 h => ?_) (fun c3 h => ?_)
      · refine q_icmp_eq_t 30 d_D_isTemporal_15 (by decide) c3 ?_
        refine q_iconst (v := 1) 31 d_D_isTemporal_30 rfl (by decide) ?_
        refine q_goto 35 d_D_isTemporal_31 (by decide) ?_
        cases h
        exact q_zret d_D_isTemporal_35 rfl (Nat.zero_le _) (Nat.zero_le _)
      · refine q_icmp_eq_f 18 d_D_isTemporal_15 rfl 30 (by decide) c3 ?_
        refine q_iloadn 19 d_D_isTemporal_18 rfl 0 rfl ?_
        refine q_bipush (v := 85) 21 d_D_isTemporal_19 rfl (by decide) ?_
        refine q_ite h (fun c2 h => ?_) (fun c2 h => ?_)
        · refine q_icmp_eq_t 30 d_D_isTemporal_21 (by decide) c2 ?_
          refine q_iconst (v := 1) 31 d_D_isTemporal_30 rfl (by decide) ?_
          refine q_goto 35 d_D_isTemporal_31 (by decide) ?_
          cases h
          exact q_zret d_D_isTemporal_35 rfl (Nat.zero_le _) (Nat.zero_le _)
        · refine q_icmp_eq_f 24 d_D_isTemporal_21 rfl 30 (by decide) c2 ?_
          refine q_iloadn 25 d_D_isTemporal_24 rfl 0 rfl ?_
          refine q_bipush (v := 82) 27 d_D_isTemporal_25 rfl (by decide) ?_
          refine q_ite h (fun c1 h => ?_) (fun c1 h => ?_)
          · refine q_icmp_ne_t 34 d_D_isTemporal_27 (by decide) c1 ?_
            refine q_iconst (v := 0) 35 d_D_isTemporal_34 rfl (by decide) ?_
            cases h
            exact q_zret d_D_isTemporal_35 rfl (Nat.zero_le _) (Nat.zero_le _)
          · refine q_icmp_ne_f 30 d_D_isTemporal_27 rfl 34 (by decide) (Classical.not_not.mp c1) ?_
            refine q_iconst (v := 1) 31 d_D_isTemporal_30 rfl (by decide) ?_
            refine q_goto 35 d_D_isTemporal_31 (by decide) ?_
            cases h
            exact q_zret d_D_isTemporal_35 rfl (Nat.zero_le _) (Nat.zero_le _)
set_option maxHeartbeats 4000000 in
set_option maxRecDepth 100000 in
theorem t_Fo_add_J86 {E : q_E} {c d : Nat} {f : Nat} (hf : f = 16 ∨ f = 24) {ρ : Int32 × q_W} : ∀ (x : q_W), f_Fo_add_J86 f x = some ρ → AW E (q_rm 1) m_Fo_add (q_cells E c d x) 0 0 86 [(0, .ref f)] [] (q_rS E c d ρ) := by
  rcases hf with rfl | rfl
  · intro x h
    unfold f_Fo_add_J86 at h
    refine q_aloadn 87 d_Fo_add_86 rfl 0 rfl ?_
    refine q_dup 88 d_Fo_add_87 rfl rfl ?_
    refine q_xget 91 d_Fo_add_88 rfl fl_Fo_33 (by decide) rfl rfl ?_
    refine q_iconst (v := 1) 92 d_Fo_add_91 rfl (by decide) ?_
    refine q_iadd 93 d_Fo_add_92 rfl ?_
    refine q_xput 96 d_Fo_add_93 rfl fl_Fo_33 (by decide) rfl rfl rfl rfl (Nat.le_of_ble_eq_true rfl) (fun _ => rfl) h (fun x11 ex11 h => ?_)
    refine q_aloadn 97 d_Fo_add_96 rfl 0 rfl ?_
    refine q_xget 100 d_Fo_add_97 rfl fl_Fo_33 (by decide) rfl rfl ?_
    refine q_iconst (v := 1) 101 d_Fo_add_100 rfl (by decide) ?_
    refine q_isub 102 d_Fo_add_101 rfl ?_
    cases h
    exact q_iret d_Fo_add_102 rfl (Nat.zero_le _) (Nat.zero_le _)
  · intro x h
    unfold f_Fo_add_J86 at h
    refine q_aloadn 87 d_Fo_add_86 rfl 0 rfl ?_
    refine q_dup 88 d_Fo_add_87 rfl rfl ?_
    refine q_xget 91 d_Fo_add_88 rfl fl_Fo_33 (by decide) rfl rfl ?_
    refine q_iconst (v := 1) 92 d_Fo_add_91 rfl (by decide) ?_
    refine q_iadd 93 d_Fo_add_92 rfl ?_
    refine q_xput 96 d_Fo_add_93 rfl fl_Fo_33 (by decide) rfl rfl rfl rfl (Nat.le_of_ble_eq_true rfl) (fun _ => rfl) h (fun x11 ex11 h => ?_)
    refine q_aloadn 97 d_Fo_add_96 rfl 0 rfl ?_
    refine q_xget 100 d_Fo_add_97 rfl fl_Fo_33 (by decide) rfl rfl ?_
    refine q_iconst (v := 1) 101 d_Fo_add_100 rfl (by decide) ?_
    refine q_isub 102 d_Fo_add_101 rfl ?_
    cases h
    exact q_iret d_Fo_add_102 rfl (Nat.zero_le _) (Nat.zero_le _)
set_option maxHeartbeats 4000000 in
set_option maxRecDepth 100000 in
theorem t_Fo_add {E : q_E} {c d : Nat} {f : Nat} (hf : f = 16 ∨ f = 24) {x : q_W} {a1 : Int32} {a2 : Int32} {a3 : Int32} {a4 : Int32} {ρ : Int32 × q_W} (h : f_Fo_add f x a1 a2 a3 a4 = some ρ) : q_Ct E y_Fo_add m_Fo_add (q_rm 1) (q_cells E c d x) [.ref f, .int a1, .int a2, .int a3, .int a4] (q_rS E c d ρ) := by
  rcases hf with rfl | rfl
  · unfold f_Fo_add at h
    refine q_Ct.of (lv := [(0, .ref 16), (1, .int a1), (2, .int a2), (3, .int a3), (4, .int a4)]) (by decide) ⟨rfl, rfl⟩ rfl (Nat.le_of_ble_eq_true rfl) ?_
    refine q_aloadn 1 d_Fo_add_0 rfl 0 rfl ?_
    refine q_xget 4 d_Fo_add_1 rfl fl_Fo_33 (by decide) rfl rfl ?_
    refine q_bipush (v := 18) 6 d_Fo_add_4 rfl (by decide) ?_
    refine q_ite h (fun c10 h => ?_) (fun c10 h => ?_)
    · refine q_icmp_lt_t 11 d_Fo_add_6 (by decide) c10 ?_
      refine q_aloadn 12 d_Fo_add_11 rfl 0 rfl ?_
      refine q_xget 15 d_Fo_add_12 rfl fl_Fo_9 (by decide) rfl rfl ?_
      refine q_aloadn 16 d_Fo_add_15 rfl 0 rfl ?_
      refine q_xget 19 d_Fo_add_16 rfl fl_Fo_33 (by decide) rfl rfl ?_
      refine q_iloadn 20 d_Fo_add_19 rfl 1 rfl ?_
      refine q_xiast 21 d_Fo_add_20 rfl (by decide) (fun _ => rfl) h (fun x1 ex1 h => ?_)
      refine q_aloadn 22 d_Fo_add_21 rfl 0 rfl ?_
      refine q_xget 25 d_Fo_add_22 rfl fl_Fo_15 (by decide) rfl rfl ?_
      refine q_aloadn 26 d_Fo_add_25 rfl 0 rfl ?_
      refine q_xget 29 d_Fo_add_26 rfl fl_Fo_33 (by decide) rfl rfl ?_
      refine q_iloadn 30 d_Fo_add_29 rfl 2 rfl ?_
      refine q_xiast 31 d_Fo_add_30 rfl (by decide) (fun _ => rfl) h (fun x2 ex2 h => ?_)
      refine q_aloadn 32 d_Fo_add_31 rfl 0 rfl ?_
      refine q_xget 35 d_Fo_add_32 rfl fl_Fo_18 (by decide) rfl rfl ?_
      refine q_aloadn 36 d_Fo_add_35 rfl 0 rfl ?_
      refine q_xget 39 d_Fo_add_36 rfl fl_Fo_33 (by decide) rfl rfl ?_
      refine q_iloadn 40 d_Fo_add_39 rfl 3 rfl ?_
      refine q_xiast 41 d_Fo_add_40 rfl (by decide) (fun _ => rfl) h (fun x3 ex3 h => ?_)
      refine q_aloadn 42 d_Fo_add_41 rfl 0 rfl ?_
      refine q_xget 45 d_Fo_add_42 rfl fl_Fo_21 (by decide) rfl rfl ?_
      refine q_aloadn 46 d_Fo_add_45 rfl 0 rfl ?_
      refine q_xget 49 d_Fo_add_46 rfl fl_Fo_33 (by decide) rfl rfl ?_
      refine q_iload 51 d_Fo_add_49 rfl 4 rfl ?_
      refine q_xiast 52 d_Fo_add_51 rfl (by decide) (fun _ => rfl) h (fun x4 ex4 h => ?_)
      refine q_iloadn 53 d_Fo_add_52 rfl 1 rfl ?_
      refine q_xcallP (as := [.int a1]) (rest := []) 56 h (fun z e => t_D_isTemporal e) (q_invSN (Y := m_D_isTemporal) d_Fo_add_53 ml_Fo_43 ms_D_isTemporal k_D_isTemporal.2 k_D_isTemporal.1 (by decide) n_D_isTemporal) k_D_isTemporal (q_ro (by decide) (by decide)) (Nat.le_of_ble_eq_true rfl) d_Fo_add_53 rfl rfl rfl (fun w5 ew5 h => ?_)
      refine q_ite h (fun c9 h => ?_) (fun c9 h => ?_)
      · refine q_if_eq_t 86 d_Fo_add_56 (by decide) c9 ?_
        refine q_sub (lv' := [(0, .ref 16)]) [0] rfl ?_
        exact t_Fo_add_J86 (Or.inl rfl) _ h
      · refine q_if_eq_f 59 d_Fo_add_56 rfl 86 (by decide) c9 ?_
        refine q_iload 61 d_Fo_add_59 rfl 4 rfl ?_
        refine q_iconst (v := 5) 62 d_Fo_add_61 rfl (by decide) ?_
        refine q_ite h (fun c8 h => ?_) (fun c8 h => ?_)
        · refine q_icmp_ge_t 86 d_Fo_add_62 (by decide) c8 ?_
          refine q_sub (lv' := [(0, .ref 16)]) [0] rfl ?_
          exact t_Fo_add_J86 (Or.inl rfl) _ h
        · refine q_icmp_ge_f 65 d_Fo_add_62 rfl 86 (by decide) c8 ?_
          refine q_aloadn 66 d_Fo_add_65 rfl 0 rfl ?_
          refine q_xget 69 d_Fo_add_66 rfl fl_Fo_24 (by decide) rfl rfl ?_
          refine q_iload 71 d_Fo_add_69 rfl 4 rfl ?_
          refine q_aloadn 72 d_Fo_add_71 rfl 0 rfl ?_
          refine q_xget 75 d_Fo_add_72 rfl fl_Fo_33 (by decide) rfl rfl ?_
          refine q_xiast 76 d_Fo_add_75 rfl (by decide) (fun _ => rfl) h (fun x6 ex6 h => ?_)
          refine q_aloadn 77 d_Fo_add_76 rfl 0 rfl ?_
          refine q_dup 78 d_Fo_add_77 rfl rfl ?_
          refine q_xget 81 d_Fo_add_78 rfl fl_Fo_37 (by decide) rfl rfl ?_
          refine q_iconst (v := 1) 82 d_Fo_add_81 rfl (by decide) ?_
          refine q_iadd 83 d_Fo_add_82 rfl ?_
          refine q_xput 86 d_Fo_add_83 rfl fl_Fo_37 (by decide) rfl rfl rfl rfl (Nat.le_of_ble_eq_true rfl) (fun _ => rfl) h (fun x7 ex7 h => ?_)
          refine q_sub (lv' := [(0, .ref 16)]) [0] rfl ?_
          exact t_Fo_add_J86 (Or.inl rfl) _ h
    · refine q_icmp_lt_f 9 d_Fo_add_6 rfl 11 (by decide) c10 ?_
      refine q_iconst (v := (-1)) 10 d_Fo_add_9 rfl (by decide) ?_
      cases h
      exact q_iret d_Fo_add_10 rfl (Nat.zero_le _) (Nat.zero_le _)
  · unfold f_Fo_add at h
    refine q_Ct.of (lv := [(0, .ref 24), (1, .int a1), (2, .int a2), (3, .int a3), (4, .int a4)]) (by decide) ⟨rfl, rfl⟩ rfl (Nat.le_of_ble_eq_true rfl) ?_
    refine q_aloadn 1 d_Fo_add_0 rfl 0 rfl ?_
    refine q_xget 4 d_Fo_add_1 rfl fl_Fo_33 (by decide) rfl rfl ?_
    refine q_bipush (v := 18) 6 d_Fo_add_4 rfl (by decide) ?_
    refine q_ite h (fun c10 h => ?_) (fun c10 h => ?_)
    · refine q_icmp_lt_t 11 d_Fo_add_6 (by decide) c10 ?_
      refine q_aloadn 12 d_Fo_add_11 rfl 0 rfl ?_
      refine q_xget 15 d_Fo_add_12 rfl fl_Fo_9 (by decide) rfl rfl ?_
      refine q_aloadn 16 d_Fo_add_15 rfl 0 rfl ?_
      refine q_xget 19 d_Fo_add_16 rfl fl_Fo_33 (by decide) rfl rfl ?_
      refine q_iloadn 20 d_Fo_add_19 rfl 1 rfl ?_
      refine q_xiast 21 d_Fo_add_20 rfl (by decide) (fun _ => rfl) h (fun x1 ex1 h => ?_)
      refine q_aloadn 22 d_Fo_add_21 rfl 0 rfl ?_
      refine q_xget 25 d_Fo_add_22 rfl fl_Fo_15 (by decide) rfl rfl ?_
      refine q_aloadn 26 d_Fo_add_25 rfl 0 rfl ?_
      refine q_xget 29 d_Fo_add_26 rfl fl_Fo_33 (by decide) rfl rfl ?_
      refine q_iloadn 30 d_Fo_add_29 rfl 2 rfl ?_
      refine q_xiast 31 d_Fo_add_30 rfl (by decide) (fun _ => rfl) h (fun x2 ex2 h => ?_)
      refine q_aloadn 32 d_Fo_add_31 rfl 0 rfl ?_
      refine q_xget 35 d_Fo_add_32 rfl fl_Fo_18 (by decide) rfl rfl ?_
      refine q_aloadn 36 d_Fo_add_35 rfl 0 rfl ?_
      refine q_xget 39 d_Fo_add_36 rfl fl_Fo_33 (by decide) rfl rfl ?_
      refine q_iloadn 40 d_Fo_add_39 rfl 3 rfl ?_
      refine q_xiast 41 d_Fo_add_40 rfl (by decide) (fun _ => rfl) h (fun x3 ex3 h => ?_)
      refine q_aloadn 42 d_Fo_add_41 rfl 0 rfl ?_
      refine q_xget 45 d_Fo_add_42 rfl fl_Fo_21 (by decide) rfl rfl ?_
      refine q_aloadn 46 d_Fo_add_45 rfl 0 rfl ?_
      refine q_xget 49 d_Fo_add_46 rfl fl_Fo_33 (by decide) rfl rfl ?_
      refine q_iload 51 d_Fo_add_49 rfl 4 rfl ?_
      refine q_xiast 52 d_Fo_add_51 rfl (by decide) (fun _ => rfl) h (fun x4 ex4 h => ?_)
      refine q_iloadn 53 d_Fo_add_52 rfl 1 rfl ?_
      refine q_xcallP (as := [.int a1]) (rest := []) 56 h (fun z e => t_D_isTemporal e) (q_invSN (Y := m_D_isTemporal) d_Fo_add_53 ml_Fo_43 ms_D_isTemporal k_D_isTemporal.2 k_D_isTemporal.1 (by decide) n_D_isTemporal) k_D_isTemporal (q_ro (by decide) (by decide)) (Nat.le_of_ble_eq_true rfl) d_Fo_add_53 rfl rfl rfl (fun w5 ew5 h => ?_)
      refine q_ite h (fun c9 h => ?_) (fun c9 h => ?_)
      · refine q_if_eq_t 86 d_Fo_add_56 (by decide) c9 ?_
        refine q_sub (lv' := [(0, .ref 24)]) [0] rfl ?_
        exact t_Fo_add_J86 (Or.inr rfl) _ h
      · refine q_if_eq_f 59 d_Fo_add_56 rfl 86 (by decide) c9 ?_
        refine q_iload 61 d_Fo_add_59 rfl 4 rfl ?_
        refine q_iconst (v := 5) 62 d_Fo_add_61 rfl (by decide) ?_
        refine q_ite h (fun c8 h => ?_) (fun c8 h => ?_)
        · refine q_icmp_ge_t 86 d_Fo_add_62 (by decide) c8 ?_
          refine q_sub (lv' := [(0, .ref 24)]) [0] rfl ?_
          exact t_Fo_add_J86 (Or.inr rfl) _ h
        · refine q_icmp_ge_f 65 d_Fo_add_62 rfl 86 (by decide) c8 ?_
          refine q_aloadn 66 d_Fo_add_65 rfl 0 rfl ?_
          refine q_xget 69 d_Fo_add_66 rfl fl_Fo_24 (by decide) rfl rfl ?_
          refine q_iload 71 d_Fo_add_69 rfl 4 rfl ?_
          refine q_aloadn 72 d_Fo_add_71 rfl 0 rfl ?_
          refine q_xget 75 d_Fo_add_72 rfl fl_Fo_33 (by decide) rfl rfl ?_
          refine q_xiast 76 d_Fo_add_75 rfl (by decide) (fun _ => rfl) h (fun x6 ex6 h => ?_)
          refine q_aloadn 77 d_Fo_add_76 rfl 0 rfl ?_
          refine q_dup 78 d_Fo_add_77 rfl rfl ?_
          refine q_xget 81 d_Fo_add_78 rfl fl_Fo_37 (by decide) rfl rfl ?_
          refine q_iconst (v := 1) 82 d_Fo_add_81 rfl (by decide) ?_
          refine q_iadd 83 d_Fo_add_82 rfl ?_
          refine q_xput 86 d_Fo_add_83 rfl fl_Fo_37 (by decide) rfl rfl rfl rfl (Nat.le_of_ble_eq_true rfl) (fun _ => rfl) h (fun x7 ex7 h => ?_)
          refine q_sub (lv' := [(0, .ref 24)]) [0] rfl ?_
          exact t_Fo_add_J86 (Or.inr rfl) _ h
    · refine q_icmp_lt_f 9 d_Fo_add_6 rfl 11 (by decide) c10 ?_
      refine q_iconst (v := (-1)) 10 d_Fo_add_9 rfl (by decide) ?_
      cases h
      exact q_iret d_Fo_add_10 rfl (Nat.zero_le _) (Nat.zero_le _)
set_option maxHeartbeats 4000000 in
set_option maxRecDepth 100000 in
theorem t_Li_levelJoinedBy {E : q_E} {c d : Nat} {x : q_W} {a0 : Int32} {ρ : Int32} (h : f_Li_levelJoinedBy x a0 = some ρ) : q_Ct E y_Li_levelJoinedBy m_Li_levelJoinedBy (q_rm 0) (q_cells E c d x) [.int a0] (q_rP E c d x ρ) := by
  unfold f_Li_levelJoinedBy at h
  refine q_Ct.of (lv := [(0, .int a0)]) (by decide) ⟨rfl, rfl⟩ rfl (Nat.le_of_ble_eq_true rfl) ?_
  refine q_iloadn 1 d_Li_levelJoinedBy_0 rfl 0 rfl ?_
  refine q_ite h (fun c1 h => ?_) (fun c1 h => ?_)
  · refine q_lookup 56 d_Li_levelJoinedBy_1 (by decide) (by rw [c1] <;> decide +kernel) (by decide) ?_
    refine q_iconst (v := 2) 57 d_Li_levelJoinedBy_56 rfl (by decide) ?_
    cases h
    exact q_iret d_Li_levelJoinedBy_57 rfl (Nat.zero_le _) (Nat.zero_le _)
  · refine q_ite h (fun c2 h => ?_) (fun c2 h => ?_)
    · refine q_lookup 52 d_Li_levelJoinedBy_1 (by decide) (by rw [c2] <;> decide +kernel) (by decide) ?_
      refine q_iconst (v := 0) 53 d_Li_levelJoinedBy_52 rfl (by decide) ?_
      cases h
      exact q_iret d_Li_levelJoinedBy_53 rfl (Nat.zero_le _) (Nat.zero_le _)
    · refine q_ite h (fun c3 h => ?_) (fun c3 h => ?_)
      · refine q_lookup 58 d_Li_levelJoinedBy_1 (by decide) (by rw [c3] <;> decide +kernel) (by decide) ?_
        refine q_iconst (v := 3) 59 d_Li_levelJoinedBy_58 rfl (by decide) ?_
        cases h
        exact q_iret d_Li_levelJoinedBy_59 rfl (Nat.zero_le _) (Nat.zero_le _)
      · refine q_ite h (fun c4 h => ?_) (fun c4 h => ?_)
        · refine q_lookup 58 d_Li_levelJoinedBy_1 (by decide) (by rw [c4] <;> decide +kernel) (by decide) ?_
          refine q_iconst (v := 3) 59 d_Li_levelJoinedBy_58 rfl (by decide) ?_
          cases h
          exact q_iret d_Li_levelJoinedBy_59 rfl (Nat.zero_le _) (Nat.zero_le _)
        · refine q_ite h (fun c5 h => ?_) (fun c5 h => ?_)
          · refine q_lookup 54 d_Li_levelJoinedBy_1 (by decide) (by rw [c5] <;> decide +kernel) (by decide) ?_
            refine q_iconst (v := 1) 55 d_Li_levelJoinedBy_54 rfl (by decide) ?_
            cases h
            exact q_iret d_Li_levelJoinedBy_55 rfl (Nat.zero_le _) (Nat.zero_le _)
          · refine q_lookup (off := 59) 60 d_Li_levelJoinedBy_1 (by decide) (by rw [lv_osw c1 (by decide : (38 : Int32).toInt = 38), lv_osw c2 (by decide : (62 : Int32).toInt = 62), lv_osw c3 (by decide : (82 : Int32).toInt = 82), lv_osw c4 (by decide : (85 : Int32).toInt = 85), lv_osw c5 (by decide : (124 : Int32).toInt = 124)] <;> rfl) (by decide) ?_
            refine q_iconst (v := (-1)) 61 d_Li_levelJoinedBy_60 rfl (by decide) ?_
            cases h
            exact q_iret d_Li_levelJoinedBy_61 rfl (Nat.zero_le _) (Nat.zero_le _)
set_option maxHeartbeats 4000000 in
set_option maxRecDepth 100000 in
theorem t_Li_signAt {E : q_E} {c d : Nat} {x : q_W} {a1 : Int32} {ρ : Int32} (h : f_Li_signAt x a1 = some ρ) : q_Ct E y_Li_signAt m_Li_signAt (q_rm 0) (q_cells E c d x) [.ref 1, .int a1] (q_rP E c d x ρ) := by
  unfold f_Li_signAt at h
  refine q_Ct.of (lv := [(0, .ref 1), (1, .int a1)]) (by decide) ⟨rfl, rfl⟩ rfl (Nat.le_of_ble_eq_true rfl) ?_
  refine q_iloadn 1 d_Li_signAt_0 rfl 1 rfl ?_
  refine q_ite h (fun c3 h => ?_) (fun c3 h => ?_)
  · refine q_if_lt_t 21 d_Li_signAt_1 (by decide) c3 ?_
    refine q_iconst (v := 0) 22 d_Li_signAt_21 rfl (by decide) ?_
    cases h
    exact q_iret d_Li_signAt_22 rfl (Nat.zero_le _) (Nat.zero_le _)
  · refine q_if_lt_f 4 d_Li_signAt_1 rfl 21 (by decide) c3 ?_
    refine q_iloadn 5 d_Li_signAt_4 rfl 1 rfl ?_
    refine q_aloadn 6 d_Li_signAt_5 rfl 0 rfl ?_
    refine q_xget 9 d_Li_signAt_6 rfl fl_Li_15 (by decide) rfl rfl ?_
    refine q_ite h (fun c2 h => ?_) (fun c2 h => ?_)
    · refine q_icmp_ge_t 21 d_Li_signAt_9 (by decide) c2 ?_
      refine q_iconst (v := 0) 22 d_Li_signAt_21 rfl (by decide) ?_
      cases h
      exact q_iret d_Li_signAt_22 rfl (Nat.zero_le _) (Nat.zero_le _)
    · refine q_icmp_ge_f 12 d_Li_signAt_9 rfl 21 (by decide) c2 ?_
      refine q_aloadn 13 d_Li_signAt_12 rfl 0 rfl ?_
      refine q_xget 16 d_Li_signAt_13 rfl fl_Li_9 (by decide) rfl rfl ?_
      refine q_iloadn 17 d_Li_signAt_16 rfl 1 rfl ?_
      refine q_xcald 18 d_Li_signAt_17 rfl (by decide) (fun _ => rfl) h (fun w1 ew1 h => ?_)
      refine q_goto 22 d_Li_signAt_18 (by decide) ?_
      cases h
      exact q_iret d_Li_signAt_22 rfl (Nat.zero_le _) (Nat.zero_le _)
set_option maxHeartbeats 4000000 in
set_option maxRecDepth 100000 in
theorem t_Li_readBracket {E : q_E} {c d : Nat} {REC : Nat → Int32 → Int32 → q_W → Option (Int32 × q_W)} {nn : Nat} {f : Nat} (hREC : q_hREC E c d f REC (2 + nn)) (hf : f = 16 ∨ f = 24) {x : q_W} {a2 : Int32} {ρ : Int32 × q_W} (h : f_Li_readBracket REC f x a2 = some ρ) : q_Ct E y_Li_readBracket m_Li_readBracket (q_rm (2 + nn + 1)) (q_cells E c d x) [.ref 1, .ref f, .int a2] (q_rS E c d ρ) := by
  rcases hf with rfl | rfl
  · unfold f_Li_readBracket at h
    refine q_Ct.of (lv := [(0, .ref 1), (1, .ref 16), (2, .int a2)]) (by decide) ⟨rfl, rfl⟩ rfl (Nat.le_of_ble_eq_true rfl) ?_
    refine q_aloadn 1 d_Li_readBracket_0 rfl 0 rfl ?_
    refine q_aloadn 2 d_Li_readBracket_1 rfl 1 rfl ?_
    refine q_iconst (v := 0) 3 d_Li_readBracket_2 rfl (by decide) ?_
    refine q_iloadn 4 d_Li_readBracket_3 rfl 2 rfl ?_
    refine q_xcallS (as := [.ref 1, .ref 16, .int 0, .int a2]) (rest := []) 7 h (fun z e => hREC 0 _ _ _ _ e) (q_xinvV (Y := m_Li_readLevel) d_Li_readBracket_4 ml_Li_42 ms_Li_readLevel.1 ms_Li_readLevel.2 k_Li_readLevel.1 (by decide) n_Li_readLevel (by decide) rfl rfl) k_Li_readLevel (q_ro (by omega) (by decide)) (Nat.le_of_ble_eq_true rfl) d_Li_readBracket_4 rfl rfl rfl (fun q1 eq1 h => ?_)
    refine q_istoren (lv' := [(3, .int q1.1), (0, .ref 1), (1, .ref 16), (2, .int a2)]) 8 d_Li_readBracket_7 rfl (by decide) rfl ?_
    refine q_aloadn 9 d_Li_readBracket_8 rfl 1 rfl ?_
    refine q_aloadn 10 d_Li_readBracket_9 rfl 1 rfl ?_
    refine q_xget 13 d_Li_readBracket_10 rfl fl_Li_19 (by decide) rfl rfl ?_
    refine q_xcallP (as := [.ref 1, .int (q1.2.2 1 2)]) (rest := []) 16 h (fun z e => t_Li_signAt e) (q_xinvV (Y := m_Li_signAt) d_Li_readBracket_13 ml_Li_26 ms_Li_signAt.1 ms_Li_signAt.2 k_Li_signAt.1 (by decide) n_Li_signAt (by decide) rfl rfl) k_Li_signAt (q_ro (by omega) (by decide)) (Nat.le_of_ble_eq_true rfl) d_Li_readBracket_13 rfl rfl rfl (fun w2 ew2 h => ?_)
    refine q_bipush (v := 41) 18 d_Li_readBracket_16 rfl (by decide) ?_
    refine q_ite h (fun c4 h => ?_) (fun c4 h => ?_)
    · refine q_icmp_eq_t 23 d_Li_readBracket_18 (by decide) c4 ?_
      refine q_aloadn 24 d_Li_readBracket_23 rfl 1 rfl ?_
      refine q_dup 25 d_Li_readBracket_24 rfl rfl ?_
      refine q_xget 28 d_Li_readBracket_25 rfl fl_Li_19 (by decide) rfl rfl ?_
      refine q_iconst (v := 1) 29 d_Li_readBracket_28 rfl (by decide) ?_
      refine q_iadd 30 d_Li_readBracket_29 rfl ?_
      refine q_xput 33 d_Li_readBracket_30 rfl fl_Li_19 (by decide) rfl rfl rfl rfl (Nat.le_of_ble_eq_true rfl) (fun _ => rfl) h (fun x3 ex3 h => ?_)
      refine q_iloadn 34 d_Li_readBracket_33 rfl 0 rfl ?_
      cases h
      exact q_iret d_Li_readBracket_34 rfl (Nat.zero_le _) (Nat.zero_le _)
    · refine q_icmp_eq_f 21 d_Li_readBracket_18 rfl 23 (by decide) c4 ?_
      refine q_iconst (v := (-1)) 22 d_Li_readBracket_21 rfl (by decide) ?_
      cases h
      exact q_iret d_Li_readBracket_22 rfl (Nat.zero_le _) (Nat.zero_le _)
  · unfold f_Li_readBracket at h
    refine q_Ct.of (lv := [(0, .ref 1), (1, .ref 24), (2, .int a2)]) (by decide) ⟨rfl, rfl⟩ rfl (Nat.le_of_ble_eq_true rfl) ?_
    refine q_aloadn 1 d_Li_readBracket_0 rfl 0 rfl ?_
    refine q_aloadn 2 d_Li_readBracket_1 rfl 1 rfl ?_
    refine q_iconst (v := 0) 3 d_Li_readBracket_2 rfl (by decide) ?_
    refine q_iloadn 4 d_Li_readBracket_3 rfl 2 rfl ?_
    refine q_xcallS (as := [.ref 1, .ref 24, .int 0, .int a2]) (rest := []) 7 h (fun z e => hREC 0 _ _ _ _ e) (q_xinvV (Y := m_Li_readLevel) d_Li_readBracket_4 ml_Li_42 ms_Li_readLevel.1 ms_Li_readLevel.2 k_Li_readLevel.1 (by decide) n_Li_readLevel (by decide) rfl rfl) k_Li_readLevel (q_ro (by omega) (by decide)) (Nat.le_of_ble_eq_true rfl) d_Li_readBracket_4 rfl rfl rfl (fun q1 eq1 h => ?_)
    refine q_istoren (lv' := [(3, .int q1.1), (0, .ref 1), (1, .ref 24), (2, .int a2)]) 8 d_Li_readBracket_7 rfl (by decide) rfl ?_
    refine q_aloadn 9 d_Li_readBracket_8 rfl 1 rfl ?_
    refine q_aloadn 10 d_Li_readBracket_9 rfl 1 rfl ?_
    refine q_xget 13 d_Li_readBracket_10 rfl fl_Li_19 (by decide) rfl rfl ?_
    refine q_xcallP (as := [.ref 1, .int (q1.2.2 1 2)]) (rest := []) 16 h (fun z e => t_Li_signAt e) (q_xinvV (Y := m_Li_signAt) d_Li_readBracket_13 ml_Li_26 ms_Li_signAt.1 ms_Li_signAt.2 k_Li_signAt.1 (by decide) n_Li_signAt (by decide) rfl rfl) k_Li_signAt (q_ro (by omega) (by decide)) (Nat.le_of_ble_eq_true rfl) d_Li_readBracket_13 rfl rfl rfl (fun w2 ew2 h => ?_)
    refine q_bipush (v := 41) 18 d_Li_readBracket_16 rfl (by decide) ?_
    refine q_ite h (fun c4 h => ?_) (fun c4 h => ?_)
    · refine q_icmp_eq_t 23 d_Li_readBracket_18 (by decide) c4 ?_
      refine q_aloadn 24 d_Li_readBracket_23 rfl 1 rfl ?_
      refine q_dup 25 d_Li_readBracket_24 rfl rfl ?_
      refine q_xget 28 d_Li_readBracket_25 rfl fl_Li_19 (by decide) rfl rfl ?_
      refine q_iconst (v := 1) 29 d_Li_readBracket_28 rfl (by decide) ?_
      refine q_iadd 30 d_Li_readBracket_29 rfl ?_
      refine q_xput 33 d_Li_readBracket_30 rfl fl_Li_19 (by decide) rfl rfl rfl rfl (Nat.le_of_ble_eq_true rfl) (fun _ => rfl) h (fun x3 ex3 h => ?_)
      refine q_iloadn 34 d_Li_readBracket_33 rfl 0 rfl ?_
      cases h
      exact q_iret d_Li_readBracket_34 rfl (Nat.zero_le _) (Nat.zero_le _)
    · refine q_icmp_eq_f 21 d_Li_readBracket_18 rfl 23 (by decide) c4 ?_
      refine q_iconst (v := (-1)) 22 d_Li_readBracket_21 rfl (by decide) ?_
      cases h
      exact q_iret d_Li_readBracket_22 rfl (Nat.zero_le _) (Nat.zero_le _)
set_option maxHeartbeats 4000000 in
set_option maxRecDepth 100000 in
theorem t_Li_temporalsBefore_L4 {E : q_E} {c d : Nat} {ρ : Int32} : ∀ (n : Nat) (x : q_W) (v1 : Int32) (v2 : Int32) (v3 : Int32), f_Li_temporalsBefore_L4  n x v1 v2 v3 = some ρ → AW E (q_rm 1) m_Li_temporalsBefore (q_cells E c d x) 0 0 4 [(0, .ref 1), (1, .int v1), (2, .int v2), (3, .int v3)] [] (q_rP E c d x ρ) := by
  intro n
  induction n with
  | zero =>
    intro x v1 v2 v3 h
    have h : (none : Option Int32) = some ρ := h
    cases h
  | succ n ih =>
    intro x v1 v2 v3 h
    unfold f_Li_temporalsBefore_L4 at h
    refine q_iloadn 5 d_Li_temporalsBefore_4 rfl 3 rfl ?_
    refine q_iloadn 6 d_Li_temporalsBefore_5 rfl 1 rfl ?_
    refine q_ite h (fun c4 h => ?_) (fun c4 h => ?_)
    · refine q_icmp_ge_t 29 d_Li_temporalsBefore_6 (by decide) c4 ?_
      refine q_iloadn 30 d_Li_temporalsBefore_29 rfl 2 rfl ?_
      cases h
      exact q_iret d_Li_temporalsBefore_30 rfl (Nat.zero_le _) (Nat.zero_le _)
    · refine q_icmp_ge_f 9 d_Li_temporalsBefore_6 rfl 29 (by decide) c4 ?_
      refine q_aloadn 10 d_Li_temporalsBefore_9 rfl 0 rfl ?_
      refine q_iloadn 11 d_Li_temporalsBefore_10 rfl 3 rfl ?_
      refine q_xcallP (as := [.ref 1, .int v3]) (rest := []) 14 h (fun z e => t_Li_signAt e) (q_xinvV (Y := m_Li_signAt) d_Li_temporalsBefore_11 ml_Li_26 ms_Li_signAt.1 ms_Li_signAt.2 k_Li_signAt.1 (by decide) n_Li_signAt (by decide) rfl rfl) k_Li_signAt (q_ro (by decide) (by decide)) (Nat.le_of_ble_eq_true rfl) d_Li_temporalsBefore_11 rfl rfl rfl (fun w1 ew1 h => ?_)
      refine q_xcallP (as := [.int w1]) (rest := []) 17 h (fun z e => t_D_isTemporal e) (q_invSN (Y := m_D_isTemporal) d_Li_temporalsBefore_14 ml_Li_30 ms_D_isTemporal k_D_isTemporal.2 k_D_isTemporal.1 (by decide) n_D_isTemporal) k_D_isTemporal (q_ro (by decide) (by decide)) (Nat.le_of_ble_eq_true rfl) d_Li_temporalsBefore_14 rfl rfl rfl (fun w2 ew2 h => ?_)
      refine q_ite h (fun c3 h => ?_) (fun c3 h => ?_)
      · refine q_if_eq_t 23 d_Li_temporalsBefore_17 (by decide) c3 ?_
        refine q_iinc (v := (v3 + 1)) (lv' := [(3, .int (v3 + 1)), (0, .ref 1), (1, .int v1), (2, .int v2)]) 26 d_Li_temporalsBefore_23 rfl 3 rfl (q_ai (by decide)) (by decide) rfl ?_
        refine q_goto 4 d_Li_temporalsBefore_26 (by decide) ?_
        refine q_sub (lv' := [(0, .ref 1), (1, .int v1), (2, .int v2), (3, .int (v3 + 1))]) [1, 2, 3, 0] rfl ?_
        exact ih _ _ _ _ h
      · refine q_if_eq_f 20 d_Li_temporalsBefore_17 rfl 23 (by decide) c3 ?_
        refine q_iinc (v := (v2 + 1)) (lv' := [(2, .int (v2 + 1)), (0, .ref 1), (1, .int v1), (3, .int v3)]) 23 d_Li_temporalsBefore_20 rfl 2 rfl (q_ai (by decide)) (by decide) rfl ?_
        refine q_iinc (v := (v3 + 1)) (lv' := [(3, .int (v3 + 1)), (2, .int (v2 + 1)), (0, .ref 1), (1, .int v1)]) 26 d_Li_temporalsBefore_23 rfl 3 rfl (q_ai (by decide)) (by decide) rfl ?_
        refine q_goto 4 d_Li_temporalsBefore_26 (by decide) ?_
        refine q_sub (lv' := [(0, .ref 1), (1, .int v1), (2, .int (v2 + 1)), (3, .int (v3 + 1))]) [2, 3, 1, 0] rfl ?_
        exact ih _ _ _ _ h
set_option maxHeartbeats 4000000 in
set_option maxRecDepth 100000 in
theorem t_Li_temporalsBefore {E : q_E} {c d : Nat} {x : q_W} {a1 : Int32} {ρ : Int32} (h : f_Li_temporalsBefore x a1 = some ρ) : q_Ct E y_Li_temporalsBefore m_Li_temporalsBefore (q_rm 1) (q_cells E c d x) [.ref 1, .int a1] (q_rP E c d x ρ) := by
  unfold f_Li_temporalsBefore at h
  refine q_Ct.of (lv := [(0, .ref 1), (1, .int a1)]) (by decide) ⟨rfl, rfl⟩ rfl (Nat.le_of_ble_eq_true rfl) ?_
  refine q_iconst (v := 0) 1 d_Li_temporalsBefore_0 rfl (by decide) ?_
  refine q_istoren (lv' := [(2, .int 0), (0, .ref 1), (1, .int a1)]) 2 d_Li_temporalsBefore_1 rfl (by decide) rfl ?_
  refine q_iconst (v := 0) 3 d_Li_temporalsBefore_2 rfl (by decide) ?_
  refine q_istoren (lv' := [(3, .int 0), (2, .int 0), (0, .ref 1), (1, .int a1)]) 4 d_Li_temporalsBefore_3 rfl (by decide) rfl ?_
  refine q_sub (lv' := [(0, .ref 1), (1, .int a1), (2, .int 0), (3, .int 0)]) [2, 3, 1, 0] rfl ?_
  exact t_Li_temporalsBefore_L4  q_fu _ _ _ _ h
set_option maxHeartbeats 4000000 in
set_option maxRecDepth 100000 in
theorem t_Li_readSimple_J130 {E : q_E} {c d : Nat} {REC : Nat → Int32 → Int32 → q_W → Option (Int32 × q_W)} {nn : Nat} {f : Nat} (hREC : q_hREC E c d f REC (2 + nn)) (hf : f = 16 ∨ f = 24) {ρ : Int32 × q_W} : ∀ (x : q_W) (v2 : Int32) (v3 : Int32) (v4 : Int32), f_Li_readSimple_J130 REC f x v2 v3 v4 = some ρ → AW E (q_rm (2 + nn + 1)) m_Li_readSimple (q_cells E c d x) 0 0 130 [(0, .ref 1), (1, .ref f), (2, .int v2), (3, .int v3), (4, .int v4)] [] (q_rS E c d ρ) := by
  rcases hf with rfl | rfl
  · intro x v2 v3 v4 h
    unfold f_Li_readSimple_J130 at h
    refine q_aloadn 131 d_Li_readSimple_130 rfl 0 rfl ?_
    refine q_aloadn 132 d_Li_readSimple_131 rfl 1 rfl ?_
    refine q_iloadn 133 d_Li_readSimple_132 rfl 2 rfl ?_
    refine q_xcallS (as := [.ref 1, .ref 16, .int v2]) (rest := []) 136 h (fun z e => hREC 1 _ _ _ _ e) (q_xinvV (Y := m_Li_readSimple) d_Li_readSimple_133 ml_Li_49 ms_Li_readSimple.1 ms_Li_readSimple.2 k_Li_readSimple.1 (by decide) n_Li_readSimple (by decide) rfl rfl) k_Li_readSimple (q_ro (by omega) (by decide)) (Nat.le_of_ble_eq_true rfl) d_Li_readSimple_133 rfl rfl rfl (fun q16 eq16 h => ?_)
    refine q_istore (lv' := [(5, .int q16.1), (0, .ref 1), (1, .ref 16), (2, .int v2), (3, .int v3), (4, .int v4)]) 138 d_Li_readSimple_136 rfl (by decide) rfl ?_
    refine q_iload 140 d_Li_readSimple_138 rfl 0 rfl ?_
    refine q_iconst (v := (-1)) 141 d_Li_readSimple_140 rfl (by decide) ?_
    refine q_ite h (fun c18 h => ?_) (fun c18 h => ?_)
    · refine q_icmp_ne_t 148 d_Li_readSimple_141 (by decide) c18 ?_
      refine q_aloadn 149 d_Li_readSimple_148 rfl 2 rfl ?_
      refine q_iloadn 150 d_Li_readSimple_149 rfl 4 rfl ?_
      refine q_iload 152 d_Li_readSimple_150 rfl 0 rfl ?_
      refine q_iload 154 d_Li_readSimple_152 rfl 0 rfl ?_
      refine q_iload 156 d_Li_readSimple_154 rfl 5 rfl ?_
      refine q_xcallS (as := [.ref 16, .int v3, .int q16.1, .int q16.1, .int v4]) (rest := []) 159 h (fun z e => t_Fo_add (by decide) e) (q_xinvV (Y := m_Fo_add) d_Li_readSimple_156 ml_Li_56 ms_Fo_add.1 ms_Fo_add.2 k_Fo_add.1 (by decide) n_Fo_add (by decide) rfl rfl) k_Fo_add (q_ro (by omega) (by decide)) (Nat.le_of_ble_eq_true rfl) d_Li_readSimple_156 rfl rfl rfl (fun q17 eq17 h => ?_)
      cases h
      exact q_iret d_Li_readSimple_159 rfl (Nat.zero_le _) (Nat.zero_le _)
    · refine q_icmp_ne_f 144 d_Li_readSimple_141 rfl 148 (by decide) (Classical.not_not.mp c18) ?_
      refine q_iconst (v := (-1)) 145 d_Li_readSimple_144 rfl (by decide) ?_
      refine q_goto 159 d_Li_readSimple_145 (by decide) ?_
      cases h
      exact q_iret d_Li_readSimple_159 rfl (Nat.zero_le _) (Nat.zero_le _)
  · intro x v2 v3 v4 h
    unfold f_Li_readSimple_J130 at h
    refine q_aloadn 131 d_Li_readSimple_130 rfl 0 rfl ?_
    refine q_aloadn 132 d_Li_readSimple_131 rfl 1 rfl ?_
    refine q_iloadn 133 d_Li_readSimple_132 rfl 2 rfl ?_
    refine q_xcallS (as := [.ref 1, .ref 24, .int v2]) (rest := []) 136 h (fun z e => hREC 1 _ _ _ _ e) (q_xinvV (Y := m_Li_readSimple) d_Li_readSimple_133 ml_Li_49 ms_Li_readSimple.1 ms_Li_readSimple.2 k_Li_readSimple.1 (by decide) n_Li_readSimple (by decide) rfl rfl) k_Li_readSimple (q_ro (by omega) (by decide)) (Nat.le_of_ble_eq_true rfl) d_Li_readSimple_133 rfl rfl rfl (fun q16 eq16 h => ?_)
    refine q_istore (lv' := [(5, .int q16.1), (0, .ref 1), (1, .ref 24), (2, .int v2), (3, .int v3), (4, .int v4)]) 138 d_Li_readSimple_136 rfl (by decide) rfl ?_
    refine q_iload 140 d_Li_readSimple_138 rfl 0 rfl ?_
    refine q_iconst (v := (-1)) 141 d_Li_readSimple_140 rfl (by decide) ?_
    refine q_ite h (fun c18 h => ?_) (fun c18 h => ?_)
    · refine q_icmp_ne_t 148 d_Li_readSimple_141 (by decide) c18 ?_
      refine q_aloadn 149 d_Li_readSimple_148 rfl 2 rfl ?_
      refine q_iloadn 150 d_Li_readSimple_149 rfl 4 rfl ?_
      refine q_iload 152 d_Li_readSimple_150 rfl 0 rfl ?_
      refine q_iload 154 d_Li_readSimple_152 rfl 0 rfl ?_
      refine q_iload 156 d_Li_readSimple_154 rfl 5 rfl ?_
      refine q_xcallS (as := [.ref 24, .int v3, .int q16.1, .int q16.1, .int v4]) (rest := []) 159 h (fun z e => t_Fo_add (by decide) e) (q_xinvV (Y := m_Fo_add) d_Li_readSimple_156 ml_Li_56 ms_Fo_add.1 ms_Fo_add.2 k_Fo_add.1 (by decide) n_Fo_add (by decide) rfl rfl) k_Fo_add (q_ro (by omega) (by decide)) (Nat.le_of_ble_eq_true rfl) d_Li_readSimple_156 rfl rfl rfl (fun q17 eq17 h => ?_)
      cases h
      exact q_iret d_Li_readSimple_159 rfl (Nat.zero_le _) (Nat.zero_le _)
    · refine q_icmp_ne_f 144 d_Li_readSimple_141 rfl 148 (by decide) (Classical.not_not.mp c18) ?_
      refine q_iconst (v := (-1)) 145 d_Li_readSimple_144 rfl (by decide) ?_
      refine q_goto 159 d_Li_readSimple_145 (by decide) ?_
      cases h
      exact q_iret d_Li_readSimple_159 rfl (Nat.zero_le _) (Nat.zero_le _)
set_option maxHeartbeats 4000000 in
set_option maxRecDepth 100000 in
theorem t_Li_readSimple_J120 {E : q_E} {c d : Nat} {REC : Nat → Int32 → Int32 → q_W → Option (Int32 × q_W)} {nn : Nat} {f : Nat} (hREC : q_hREC E c d f REC (2 + nn)) (hf : f = 16 ∨ f = 24) {ρ : Int32 × q_W} : ∀ (x : q_W) (v3 : Int32) (v4 : Int32), f_Li_readSimple_J120 REC f x v3 v4 = some ρ → AW E (q_rm (2 + nn + 1)) m_Li_readSimple (q_cells E c d x) 0 0 120 [(1, .ref f), (3, .int v3), (4, .int v4)] [] (q_rS E c d ρ) := by
  rcases hf with rfl | rfl
  · intro x v3 v4 h
    unfold f_Li_readSimple_J120 at h
    refine q_aloadn 121 d_Li_readSimple_120 rfl 0 rfl ?_
    refine q_iloadn 122 d_Li_readSimple_121 rfl 1 rfl ?_
    refine q_iconst (v := 0) 123 d_Li_readSimple_122 rfl (by decide) ?_
    refine q_iconst (v := 0) 124 d_Li_readSimple_123 rfl (by decide) ?_
    refine q_iload 126 d_Li_readSimple_124 rfl 2 rfl ?_
    refine q_xcallS (as := [.ref 16, .int v3, .int 0, .int 0, .int v4]) (rest := []) 129 h (fun z e => t_Fo_add (by decide) e) (q_xinvV (Y := m_Fo_add) d_Li_readSimple_126 ml_Li_56 ms_Fo_add.1 ms_Fo_add.2 k_Fo_add.1 (by decide) n_Fo_add (by decide) rfl rfl) k_Fo_add (q_ro (by omega) (by decide)) (Nat.le_of_ble_eq_true rfl) d_Li_readSimple_126 rfl rfl rfl (fun q19 eq19 h => ?_)
    cases h
    exact q_iret d_Li_readSimple_129 rfl (Nat.zero_le _) (Nat.zero_le _)
  · intro x v3 v4 h
    unfold f_Li_readSimple_J120 at h
    refine q_aloadn 121 d_Li_readSimple_120 rfl 0 rfl ?_
    refine q_iloadn 122 d_Li_readSimple_121 rfl 1 rfl ?_
    refine q_iconst (v := 0) 123 d_Li_readSimple_122 rfl (by decide) ?_
    refine q_iconst (v := 0) 124 d_Li_readSimple_123 rfl (by decide) ?_
    refine q_iload 126 d_Li_readSimple_124 rfl 2 rfl ?_
    refine q_xcallS (as := [.ref 24, .int v3, .int 0, .int 0, .int v4]) (rest := []) 129 h (fun z e => t_Fo_add (by decide) e) (q_xinvV (Y := m_Fo_add) d_Li_readSimple_126 ml_Li_56 ms_Fo_add.1 ms_Fo_add.2 k_Fo_add.1 (by decide) n_Fo_add (by decide) rfl rfl) k_Fo_add (q_ro (by omega) (by decide)) (Nat.le_of_ble_eq_true rfl) d_Li_readSimple_126 rfl rfl rfl (fun q19 eq19 h => ?_)
    cases h
    exact q_iret d_Li_readSimple_129 rfl (Nat.zero_le _) (Nat.zero_le _)
set_option maxHeartbeats 4000000 in
set_option maxRecDepth 100000 in
theorem t_Li_readSimple {E : q_E} {c d : Nat} {REC : Nat → Int32 → Int32 → q_W → Option (Int32 × q_W)} {nn : Nat} {f : Nat} (hREC : q_hREC E c d f REC (2 + nn)) (hf : f = 16 ∨ f = 24) {x : q_W} {a2 : Int32} {ρ : Int32 × q_W} (h : f_Li_readSimple REC f x a2 = some ρ) : q_Ct E y_Li_readSimple m_Li_readSimple (q_rm (2 + nn + 1)) (q_cells E c d x) [.ref 1, .ref f, .int a2] (q_rS E c d ρ) := by
  rcases hf with rfl | rfl
  · unfold f_Li_readSimple at h
    refine q_Ct.of (lv := [(0, .ref 1), (1, .ref 16), (2, .int a2)]) (by decide) ⟨rfl, rfl⟩ rfl (Nat.le_of_ble_eq_true rfl) ?_
    refine q_aloadn 1 d_Li_readSimple_0 rfl 0 rfl ?_
    refine q_aloadn 2 d_Li_readSimple_1 rfl 0 rfl ?_
    refine q_xget 5 d_Li_readSimple_2 rfl fl_Li_19 (by decide) rfl rfl ?_
    refine q_xcallP (as := [.ref 1, .int (x.2 1 2)]) (rest := []) 8 h (fun z e => t_Li_signAt e) (q_xinvV (Y := m_Li_signAt) d_Li_readSimple_5 ml_Li_26 ms_Li_signAt.1 ms_Li_signAt.2 k_Li_signAt.1 (by decide) n_Li_signAt (by decide) rfl rfl) k_Li_signAt (q_ro (by omega) (by decide)) (Nat.le_of_ble_eq_true rfl) d_Li_readSimple_5 rfl rfl rfl (fun w1 ew1 h => ?_)
    refine q_istoren (lv' := [(3, .int w1), (0, .ref 1), (1, .ref 16), (2, .int a2)]) 9 d_Li_readSimple_8 rfl (by decide) rfl ?_
    refine q_aloadn 10 d_Li_readSimple_9 rfl 1 rfl ?_
    refine q_aloadn 11 d_Li_readSimple_10 rfl 1 rfl ?_
    refine q_xget 14 d_Li_readSimple_11 rfl fl_Li_19 (by decide) rfl rfl ?_
    refine q_xcallP (as := [.ref 1, .int (x.2 1 2)]) (rest := []) 17 h (fun z e => t_Li_temporalsBefore e) (q_xinvV (Y := m_Li_temporalsBefore) d_Li_readSimple_14 ml_Li_39 ms_Li_temporalsBefore.1 ms_Li_temporalsBefore.2 k_Li_temporalsBefore.1 (by decide) n_Li_temporalsBefore (by decide) rfl rfl) k_Li_temporalsBefore (q_ro (by omega) (by decide)) (Nat.le_of_ble_eq_true rfl) d_Li_readSimple_14 rfl rfl rfl (fun w2 ew2 h => ?_)
    refine q_istore (lv' := [(4, .int w2), (3, .int w1), (0, .ref 1), (1, .ref 16), (2, .int a2)]) 19 d_Li_readSimple_17 rfl (by decide) rfl ?_
    refine q_aloadn 20 d_Li_readSimple_19 rfl 2 rfl ?_
    refine q_dup 21 d_Li_readSimple_20 rfl rfl ?_
    refine q_xget 24 d_Li_readSimple_21 rfl fl_Li_19 (by decide) rfl rfl ?_
    refine q_iconst (v := 1) 25 d_Li_readSimple_24 rfl (by decide) ?_
    refine q_iadd 26 d_Li_readSimple_25 rfl ?_
    refine q_xput 29 d_Li_readSimple_26 rfl fl_Li_19 (by decide) rfl rfl rfl rfl (Nat.le_of_ble_eq_true rfl) (fun _ => rfl) h (fun x3 ex3 h => ?_)
    refine q_iloadn 30 d_Li_readSimple_29 rfl 1 rfl ?_
    refine q_ite h (fun c4 h => ?_) (fun c4 h => ?_)
    · refine q_lookup 130 d_Li_readSimple_30 (by decide) (by rw [c4] <;> decide +kernel) (by decide) ?_
      refine q_sub (lv' := [(0, .ref 1), (1, .ref 16), (2, .int a2), (3, .int w1), (4, .int w2)]) [2, 3, 4, 1, 0] rfl ?_
      exact t_Li_readSimple_J130 hREC (Or.inl rfl) _ _ _ _ h
    · refine q_ite h (fun c5 h => ?_) (fun c5 h => ?_)
      · refine q_lookup 160 d_Li_readSimple_30 (by decide) (by rw [c5] <;> decide +kernel) (by decide) ?_
        refine q_iloadn 161 d_Li_readSimple_160 rfl 4 rfl ?_
        refine q_iconst (v := 4) 162 d_Li_readSimple_161 rfl (by decide) ?_
        refine q_ite h (fun c7 h => ?_) (fun c7 h => ?_)
        · refine q_icmp_lt_t 169 d_Li_readSimple_162 (by decide) c7 ?_
          refine q_aloadn 170 d_Li_readSimple_169 rfl 2 rfl ?_
          refine q_aloadn 171 d_Li_readSimple_170 rfl 3 rfl ?_
          refine q_iloadn 172 d_Li_readSimple_171 rfl 4 rfl ?_
          refine q_iconst (v := 1) 173 d_Li_readSimple_172 rfl (by decide) ?_
          refine q_iadd 174 d_Li_readSimple_173 rfl ?_
          refine q_xcallS (as := [.ref 1, .ref 16, .int (a2 + 1)]) (rest := []) 177 h (fun z e => hREC 2 _ _ _ _ e) (q_xinvV (Y := m_Li_readBracket) d_Li_readSimple_174 ml_Li_60 ms_Li_readBracket.1 ms_Li_readBracket.2 k_Li_readBracket.1 (by decide) n_Li_readBracket (by decide) rfl rfl) k_Li_readBracket (q_ro (by omega) (by decide)) (Nat.le_of_ble_eq_true rfl) d_Li_readSimple_174 rfl rfl rfl (fun q6 eq6 h => ?_)
          cases h
          exact q_iret d_Li_readSimple_177 rfl (Nat.zero_le _) (Nat.zero_le _)
        · refine q_icmp_lt_f 165 d_Li_readSimple_162 rfl 169 (by decide) c7 ?_
          refine q_iconst (v := (-1)) 166 d_Li_readSimple_165 rfl (by decide) ?_
          refine q_goto 177 d_Li_readSimple_166 (by decide) ?_
          cases h
          exact q_iret d_Li_readSimple_177 rfl (Nat.zero_le _) (Nat.zero_le _)
      · refine q_ite h (fun c8 h => ?_) (fun c8 h => ?_)
        · refine q_lookup 120 d_Li_readSimple_30 (by decide) (by rw [c8] <;> decide +kernel) (by decide) ?_
          refine q_sub (lv' := [(1, .ref 16), (3, .int w1), (4, .int w2)]) [3, 1, 0] rfl ?_
          exact t_Li_readSimple_J120 hREC (Or.inl rfl) _ _ _ h
        · refine q_ite h (fun c9 h => ?_) (fun c9 h => ?_)
          · refine q_lookup 120 d_Li_readSimple_30 (by decide) (by rw [c9] <;> decide +kernel) (by decide) ?_
            refine q_sub (lv' := [(1, .ref 16), (3, .int w1), (4, .int w2)]) [3, 1, 0] rfl ?_
            exact t_Li_readSimple_J120 hREC (Or.inl rfl) _ _ _ h
          · refine q_ite h (fun c10 h => ?_) (fun c10 h => ?_)
            · refine q_lookup 130 d_Li_readSimple_30 (by decide) (by rw [c10] <;> decide +kernel) (by decide) ?_
              refine q_sub (lv' := [(0, .ref 1), (1, .ref 16), (2, .int a2), (3, .int w1), (4, .int w2)]) [2, 3, 4, 1, 0] rfl ?_
              exact t_Li_readSimple_J130 hREC (Or.inl rfl) _ _ _ _ h
            · refine q_ite h (fun c11 h => ?_) (fun c11 h => ?_)
              · refine q_lookup 130 d_Li_readSimple_30 (by decide) (by rw [c11] <;> decide +kernel) (by decide) ?_
                refine q_sub (lv' := [(0, .ref 1), (1, .ref 16), (2, .int a2), (3, .int w1), (4, .int w2)]) [2, 3, 4, 1, 0] rfl ?_
                exact t_Li_readSimple_J130 hREC (Or.inl rfl) _ _ _ _ h
              · refine q_ite h (fun c12 h => ?_) (fun c12 h => ?_)
                · refine q_lookup 130 d_Li_readSimple_30 (by decide) (by rw [c12] <;> decide +kernel) (by decide) ?_
                  refine q_sub (lv' := [(0, .ref 1), (1, .ref 16), (2, .int a2), (3, .int w1), (4, .int w2)]) [2, 3, 4, 1, 0] rfl ?_
                  exact t_Li_readSimple_J130 hREC (Or.inl rfl) _ _ _ _ h
                · refine q_ite h (fun c13 h => ?_) (fun c13 h => ?_)
                  · refine q_lookup 120 d_Li_readSimple_30 (by decide) (by rw [c13] <;> decide +kernel) (by decide) ?_
                    refine q_sub (lv' := [(1, .ref 16), (3, .int w1), (4, .int w2)]) [3, 1, 0] rfl ?_
                    exact t_Li_readSimple_J120 hREC (Or.inl rfl) _ _ _ h
                  · refine q_ite h (fun c14 h => ?_) (fun c14 h => ?_)
                    · refine q_lookup 120 d_Li_readSimple_30 (by decide) (by rw [c14] <;> decide +kernel) (by decide) ?_
                      refine q_sub (lv' := [(1, .ref 16), (3, .int w1), (4, .int w2)]) [3, 1, 0] rfl ?_
                      exact t_Li_readSimple_J120 hREC (Or.inl rfl) _ _ _ h
                    · refine q_ite h (fun c15 h => ?_) (fun c15 h => ?_)
                      · refine q_lookup 120 d_Li_readSimple_30 (by decide) (by rw [c15] <;> decide +kernel) (by decide) ?_
                        refine q_sub (lv' := [(1, .ref 16), (3, .int w1), (4, .int w2)]) [3, 1, 0] rfl ?_
                        exact t_Li_readSimple_J120 hREC (Or.inl rfl) _ _ _ h
                      · refine q_lookup (off := 148) 178 d_Li_readSimple_30 (by decide) (by rw [lv_osw c4 (by decide : (33 : Int32).toInt = 33), lv_osw c5 (by decide : (40 : Int32).toInt = 40), lv_osw c8 (by decide : (48 : Int32).toInt = 48), lv_osw c9 (by decide : (49 : Int32).toInt = 49), lv_osw c10 (by decide : (70 : Int32).toInt = 70), lv_osw c11 (by decide : (71 : Int32).toInt = 71), lv_osw c12 (by decide : (88 : Int32).toInt = 88), lv_osw c13 (by decide : (97 : Int32).toInt = 97), lv_osw c14 (by decide : (98 : Int32).toInt = 98), lv_osw c15 (by decide : (99 : Int32).toInt = 99)] <;> rfl) (by decide) ?_
                        refine q_iconst (v := (-1)) 179 d_Li_readSimple_178 rfl (by decide) ?_
                        cases h
                        exact q_iret d_Li_readSimple_179 rfl (Nat.zero_le _) (Nat.zero_le _)
  · unfold f_Li_readSimple at h
    refine q_Ct.of (lv := [(0, .ref 1), (1, .ref 24), (2, .int a2)]) (by decide) ⟨rfl, rfl⟩ rfl (Nat.le_of_ble_eq_true rfl) ?_
    refine q_aloadn 1 d_Li_readSimple_0 rfl 0 rfl ?_
    refine q_aloadn 2 d_Li_readSimple_1 rfl 0 rfl ?_
    refine q_xget 5 d_Li_readSimple_2 rfl fl_Li_19 (by decide) rfl rfl ?_
    refine q_xcallP (as := [.ref 1, .int (x.2 1 2)]) (rest := []) 8 h (fun z e => t_Li_signAt e) (q_xinvV (Y := m_Li_signAt) d_Li_readSimple_5 ml_Li_26 ms_Li_signAt.1 ms_Li_signAt.2 k_Li_signAt.1 (by decide) n_Li_signAt (by decide) rfl rfl) k_Li_signAt (q_ro (by omega) (by decide)) (Nat.le_of_ble_eq_true rfl) d_Li_readSimple_5 rfl rfl rfl (fun w1 ew1 h => ?_)
    refine q_istoren (lv' := [(3, .int w1), (0, .ref 1), (1, .ref 24), (2, .int a2)]) 9 d_Li_readSimple_8 rfl (by decide) rfl ?_
    refine q_aloadn 10 d_Li_readSimple_9 rfl 1 rfl ?_
    refine q_aloadn 11 d_Li_readSimple_10 rfl 1 rfl ?_
    refine q_xget 14 d_Li_readSimple_11 rfl fl_Li_19 (by decide) rfl rfl ?_
    refine q_xcallP (as := [.ref 1, .int (x.2 1 2)]) (rest := []) 17 h (fun z e => t_Li_temporalsBefore e) (q_xinvV (Y := m_Li_temporalsBefore) d_Li_readSimple_14 ml_Li_39 ms_Li_temporalsBefore.1 ms_Li_temporalsBefore.2 k_Li_temporalsBefore.1 (by decide) n_Li_temporalsBefore (by decide) rfl rfl) k_Li_temporalsBefore (q_ro (by omega) (by decide)) (Nat.le_of_ble_eq_true rfl) d_Li_readSimple_14 rfl rfl rfl (fun w2 ew2 h => ?_)
    refine q_istore (lv' := [(4, .int w2), (3, .int w1), (0, .ref 1), (1, .ref 24), (2, .int a2)]) 19 d_Li_readSimple_17 rfl (by decide) rfl ?_
    refine q_aloadn 20 d_Li_readSimple_19 rfl 2 rfl ?_
    refine q_dup 21 d_Li_readSimple_20 rfl rfl ?_
    refine q_xget 24 d_Li_readSimple_21 rfl fl_Li_19 (by decide) rfl rfl ?_
    refine q_iconst (v := 1) 25 d_Li_readSimple_24 rfl (by decide) ?_
    refine q_iadd 26 d_Li_readSimple_25 rfl ?_
    refine q_xput 29 d_Li_readSimple_26 rfl fl_Li_19 (by decide) rfl rfl rfl rfl (Nat.le_of_ble_eq_true rfl) (fun _ => rfl) h (fun x3 ex3 h => ?_)
    refine q_iloadn 30 d_Li_readSimple_29 rfl 1 rfl ?_
    refine q_ite h (fun c4 h => ?_) (fun c4 h => ?_)
    · refine q_lookup 130 d_Li_readSimple_30 (by decide) (by rw [c4] <;> decide +kernel) (by decide) ?_
      refine q_sub (lv' := [(0, .ref 1), (1, .ref 24), (2, .int a2), (3, .int w1), (4, .int w2)]) [2, 3, 4, 1, 0] rfl ?_
      exact t_Li_readSimple_J130 hREC (Or.inr rfl) _ _ _ _ h
    · refine q_ite h (fun c5 h => ?_) (fun c5 h => ?_)
      · refine q_lookup 160 d_Li_readSimple_30 (by decide) (by rw [c5] <;> decide +kernel) (by decide) ?_
        refine q_iloadn 161 d_Li_readSimple_160 rfl 4 rfl ?_
        refine q_iconst (v := 4) 162 d_Li_readSimple_161 rfl (by decide) ?_
        refine q_ite h (fun c7 h => ?_) (fun c7 h => ?_)
        · refine q_icmp_lt_t 169 d_Li_readSimple_162 (by decide) c7 ?_
          refine q_aloadn 170 d_Li_readSimple_169 rfl 2 rfl ?_
          refine q_aloadn 171 d_Li_readSimple_170 rfl 3 rfl ?_
          refine q_iloadn 172 d_Li_readSimple_171 rfl 4 rfl ?_
          refine q_iconst (v := 1) 173 d_Li_readSimple_172 rfl (by decide) ?_
          refine q_iadd 174 d_Li_readSimple_173 rfl ?_
          refine q_xcallS (as := [.ref 1, .ref 24, .int (a2 + 1)]) (rest := []) 177 h (fun z e => hREC 2 _ _ _ _ e) (q_xinvV (Y := m_Li_readBracket) d_Li_readSimple_174 ml_Li_60 ms_Li_readBracket.1 ms_Li_readBracket.2 k_Li_readBracket.1 (by decide) n_Li_readBracket (by decide) rfl rfl) k_Li_readBracket (q_ro (by omega) (by decide)) (Nat.le_of_ble_eq_true rfl) d_Li_readSimple_174 rfl rfl rfl (fun q6 eq6 h => ?_)
          cases h
          exact q_iret d_Li_readSimple_177 rfl (Nat.zero_le _) (Nat.zero_le _)
        · refine q_icmp_lt_f 165 d_Li_readSimple_162 rfl 169 (by decide) c7 ?_
          refine q_iconst (v := (-1)) 166 d_Li_readSimple_165 rfl (by decide) ?_
          refine q_goto 177 d_Li_readSimple_166 (by decide) ?_
          cases h
          exact q_iret d_Li_readSimple_177 rfl (Nat.zero_le _) (Nat.zero_le _)
      · refine q_ite h (fun c8 h => ?_) (fun c8 h => ?_)
        · refine q_lookup 120 d_Li_readSimple_30 (by decide) (by rw [c8] <;> decide +kernel) (by decide) ?_
          refine q_sub (lv' := [(1, .ref 24), (3, .int w1), (4, .int w2)]) [3, 1, 0] rfl ?_
          exact t_Li_readSimple_J120 hREC (Or.inr rfl) _ _ _ h
        · refine q_ite h (fun c9 h => ?_) (fun c9 h => ?_)
          · refine q_lookup 120 d_Li_readSimple_30 (by decide) (by rw [c9] <;> decide +kernel) (by decide) ?_
            refine q_sub (lv' := [(1, .ref 24), (3, .int w1), (4, .int w2)]) [3, 1, 0] rfl ?_
            exact t_Li_readSimple_J120 hREC (Or.inr rfl) _ _ _ h
          · refine q_ite h (fun c10 h => ?_) (fun c10 h => ?_)
            · refine q_lookup 130 d_Li_readSimple_30 (by decide) (by rw [c10] <;> decide +kernel) (by decide) ?_
              refine q_sub (lv' := [(0, .ref 1), (1, .ref 24), (2, .int a2), (3, .int w1), (4, .int w2)]) [2, 3, 4, 1, 0] rfl ?_
              exact t_Li_readSimple_J130 hREC (Or.inr rfl) _ _ _ _ h
            · refine q_ite h (fun c11 h => ?_) (fun c11 h => ?_)
              · refine q_lookup 130 d_Li_readSimple_30 (by decide) (by rw [c11] <;> decide +kernel) (by decide) ?_
                refine q_sub (lv' := [(0, .ref 1), (1, .ref 24), (2, .int a2), (3, .int w1), (4, .int w2)]) [2, 3, 4, 1, 0] rfl ?_
                exact t_Li_readSimple_J130 hREC (Or.inr rfl) _ _ _ _ h
              · refine q_ite h (fun c12 h => ?_) (fun c12 h => ?_)
                · refine q_lookup 130 d_Li_readSimple_30 (by decide) (by rw [c12] <;> decide +kernel) (by decide) ?_
                  refine q_sub (lv' := [(0, .ref 1), (1, .ref 24), (2, .int a2), (3, .int w1), (4, .int w2)]) [2, 3, 4, 1, 0] rfl ?_
                  exact t_Li_readSimple_J130 hREC (Or.inr rfl) _ _ _ _ h
                · refine q_ite h (fun c13 h => ?_) (fun c13 h => ?_)
                  · refine q_lookup 120 d_Li_readSimple_30 (by decide) (by rw [c13] <;> decide +kernel) (by decide) ?_
                    refine q_sub (lv' := [(1, .ref 24), (3, .int w1), (4, .int w2)]) [3, 1, 0] rfl ?_
                    exact t_Li_readSimple_J120 hREC (Or.inr rfl) _ _ _ h
                  · refine q_ite h (fun c14 h => ?_) (fun c14 h => ?_)
                    · refine q_lookup 120 d_Li_readSimple_30 (by decide) (by rw [c14] <;> decide +kernel) (by decide) ?_
                      refine q_sub (lv' := [(1, .ref 24), (3, .int w1), (4, .int w2)]) [3, 1, 0] rfl ?_
                      exact t_Li_readSimple_J120 hREC (Or.inr rfl) _ _ _ h
                    · refine q_ite h (fun c15 h => ?_) (fun c15 h => ?_)
                      · refine q_lookup 120 d_Li_readSimple_30 (by decide) (by rw [c15] <;> decide +kernel) (by decide) ?_
                        refine q_sub (lv' := [(1, .ref 24), (3, .int w1), (4, .int w2)]) [3, 1, 0] rfl ?_
                        exact t_Li_readSimple_J120 hREC (Or.inr rfl) _ _ _ h
                      · refine q_lookup (off := 148) 178 d_Li_readSimple_30 (by decide) (by rw [lv_osw c4 (by decide : (33 : Int32).toInt = 33), lv_osw c5 (by decide : (40 : Int32).toInt = 40), lv_osw c8 (by decide : (48 : Int32).toInt = 48), lv_osw c9 (by decide : (49 : Int32).toInt = 49), lv_osw c10 (by decide : (70 : Int32).toInt = 70), lv_osw c11 (by decide : (71 : Int32).toInt = 71), lv_osw c12 (by decide : (88 : Int32).toInt = 88), lv_osw c13 (by decide : (97 : Int32).toInt = 97), lv_osw c14 (by decide : (98 : Int32).toInt = 98), lv_osw c15 (by decide : (99 : Int32).toInt = 99)] <;> rfl) (by decide) ?_
                        refine q_iconst (v := (-1)) 179 d_Li_readSimple_178 rfl (by decide) ?_
                        cases h
                        exact q_iret d_Li_readSimple_179 rfl (Nat.zero_le _) (Nat.zero_le _)
