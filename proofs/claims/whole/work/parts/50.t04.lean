set_option maxHeartbeats 4000000 in
set_option maxRecDepth 100000 in
theorem t_La_leastWhole_L2 {E : q_E} {c d : Nat} {ρ : Int32} : ∀ (n : Nat) (x : q_W) (v1 : Int32), f_La_leastWhole_L2  n x v1 = some ρ → AW E (q_rm 0) m_La_leastWhole (q_cells E c d x) 0 0 2 [(0, .ref 3), (1, .int v1)] [] (q_rP E c d x ρ) := by
  intro n
  induction n with
  | zero =>
    intro x v1 h
    have h : (none : Option Int32) = some ρ := h
    cases h
  | succ n ih =>
    intro x v1 h
    unfold f_La_leastWhole_L2 at h
    refine q_iloadn 3 d_La_leastWhole_2 rfl 1 rfl ?_
    refine q_aloadn 4 d_La_leastWhole_3 rfl 0 rfl ?_
    refine q_xget 7 d_La_leastWhole_4 rfl fl_La_34 (by decide) rfl rfl ?_
    refine q_ite h (fun c5 h => ?_) (fun c5 h => ?_)
    · refine q_icmp_ge_t 36 d_La_leastWhole_7 (by decide) c5 ?_
      refine q_iconst (v := (-1)) 37 d_La_leastWhole_36 rfl (by decide) ?_
      cases h
      exact q_iret d_La_leastWhole_37 rfl (Nat.zero_le _) (Nat.zero_le _)
    · refine q_icmp_ge_f 10 d_La_leastWhole_7 rfl 36 (by decide) c5 ?_
      refine q_aloadn 11 d_La_leastWhole_10 rfl 0 rfl ?_
      refine q_xget 14 d_La_leastWhole_11 rfl fl_La_25 (by decide) rfl rfl ?_
      refine q_iloadn 15 d_La_leastWhole_14 rfl 1 rfl ?_
      refine q_xzald 16 d_La_leastWhole_15 rfl (by decide) (fun _ => rfl) h (fun w1 ew1 h => ?_)
      refine q_ite h (fun c4 h => ?_) (fun c4 h => ?_)
      · refine q_if_eq_t 30 d_La_leastWhole_16 (by decide) c4 ?_
        refine q_iinc (v := (v1 + 1)) (lv' := [(1, .int (v1 + 1)), (0, .ref 3)]) 33 d_La_leastWhole_30 rfl 1 rfl (q_ai (by decide)) (by decide) rfl ?_
        refine q_goto 2 d_La_leastWhole_33 (by decide) ?_
        refine q_sub (lv' := [(0, .ref 3), (1, .int (v1 + 1))]) [1, 0] rfl ?_
        exact ih _ _ h
      · refine q_if_eq_f 19 d_La_leastWhole_16 rfl 30 (by decide) c4 ?_
        refine q_aloadn 20 d_La_leastWhole_19 rfl 0 rfl ?_
        refine q_xget 23 d_La_leastWhole_20 rfl fl_La_21 (by decide) rfl rfl ?_
        refine q_iloadn 24 d_La_leastWhole_23 rfl 1 rfl ?_
        refine q_xzald 25 d_La_leastWhole_24 rfl (by decide) (fun _ => rfl) h (fun w2 ew2 h => ?_)
        refine q_ite h (fun c3 h => ?_) (fun c3 h => ?_)
        · refine q_if_eq_t 30 d_La_leastWhole_25 (by decide) c3 ?_
          refine q_iinc (v := (v1 + 1)) (lv' := [(1, .int (v1 + 1)), (0, .ref 3)]) 33 d_La_leastWhole_30 rfl 1 rfl (q_ai (by decide)) (by decide) rfl ?_
          refine q_goto 2 d_La_leastWhole_33 (by decide) ?_
          refine q_sub (lv' := [(0, .ref 3), (1, .int (v1 + 1))]) [1, 0] rfl ?_
          exact ih _ _ h
        · refine q_if_eq_f 28 d_La_leastWhole_25 rfl 30 (by decide) c3 ?_
          refine q_iloadn 29 d_La_leastWhole_28 rfl 1 rfl ?_
          cases h
          exact q_iret d_La_leastWhole_29 rfl (Nat.zero_le _) (Nat.zero_le _)
set_option maxHeartbeats 4000000 in
set_option maxRecDepth 100000 in
theorem t_La_leastWhole {E : q_E} {c d : Nat} {x : q_W} {ρ : Int32} (h : f_La_leastWhole x = some ρ) : q_Ct E y_La_leastWhole m_La_leastWhole (q_rm 0) (q_cells E c d x) [.ref 3] (q_rP E c d x ρ) := by
  unfold f_La_leastWhole at h
  refine q_Ct.of (lv := [(0, .ref 3)]) (by decide) ⟨rfl, rfl⟩ rfl (Nat.le_of_ble_eq_true rfl) ?_
  refine q_iconst (v := 0) 1 d_La_leastWhole_0 rfl (by decide) ?_
  refine q_istoren (lv' := [(1, .int 0), (0, .ref 3)]) 2 d_La_leastWhole_1 rfl (by decide) rfl ?_
  refine q_sub (lv' := [(0, .ref 3), (1, .int 0)]) [1, 0] rfl ?_
  exact t_La_leastWhole_L2  q_fu _ _ h
set_option maxHeartbeats 4000000 in
set_option maxRecDepth 100000 in
theorem t_La_isNearer {E : q_E} {c d : Nat} {x : q_W} {a1 : Int32} {a2 : Int32} {a3 : Int32} {ρ : Int32} (h : f_La_isNearer x a1 a2 a3 = some ρ) : q_Ct E y_La_isNearer m_La_isNearer (q_rm 1) (q_cells E c d x) [.ref 3, .int a1, .int a2, .int a3] (q_rP E c d x ρ) := by
  unfold f_La_isNearer at h
  refine q_Ct.of (lv := [(0, .ref 3), (1, .int a1), (2, .int a2), (3, .int a3)]) (by decide) ⟨rfl, rfl⟩ rfl (Nat.le_of_ble_eq_true rfl) ?_
  refine q_aloadn 1 d_La_isNearer_0 rfl 0 rfl ?_
  refine q_iloadn 2 d_La_isNearer_1 rfl 2 rfl ?_
  refine q_iloadn 3 d_La_isNearer_2 rfl 3 rfl ?_
  refine q_xcallP (as := [.ref 3, .int a2, .int a3]) (rest := []) 6 h (fun z e => t_La_stepsFrom e) (q_xinvV (Y := m_La_stepsFrom) d_La_isNearer_3 ml_La_91 ms_La_stepsFrom.1 ms_La_stepsFrom.2 k_La_stepsFrom.1 (by decide) n_La_stepsFrom (by decide) rfl rfl) k_La_stepsFrom (q_ro (by decide) (by decide)) (Nat.le_of_ble_eq_true rfl) d_La_isNearer_3 rfl rfl rfl (fun w1 ew1 h => ?_)
  refine q_istore (lv' := [(4, .int w1), (0, .ref 3), (1, .int a1), (2, .int a2), (3, .int a3)]) 8 d_La_isNearer_6 rfl (by decide) rfl ?_
  refine q_aloadn 9 d_La_isNearer_8 rfl 1 rfl ?_
  refine q_iloadn 10 d_La_isNearer_9 rfl 2 rfl ?_
  refine q_iloadn 11 d_La_isNearer_10 rfl 4 rfl ?_
  refine q_xcallP (as := [.ref 3, .int a1, .int a3]) (rest := []) 14 h (fun z e => t_La_stepsFrom e) (q_xinvV (Y := m_La_stepsFrom) d_La_isNearer_11 ml_La_91 ms_La_stepsFrom.1 ms_La_stepsFrom.2 k_La_stepsFrom.1 (by decide) n_La_stepsFrom (by decide) rfl rfl) k_La_stepsFrom (q_ro (by decide) (by decide)) (Nat.le_of_ble_eq_true rfl) d_La_isNearer_11 rfl rfl rfl (fun w2 ew2 h => ?_)
  refine q_istore (lv' := [(5, .int w2), (4, .int w1), (0, .ref 3), (1, .int a1), (2, .int a2), (3, .int a3)]) 16 d_La_isNearer_14 rfl (by decide) rfl ?_
  refine q_iload 18 d_La_isNearer_16 rfl 0 rfl ?_
  refine q_iconst (v := (-1)) 19 d_La_isNearer_18 rfl (by decide) ?_
  refine q_ite h (fun c5 h => ?_) (fun c5 h => ?_)
  · refine q_icmp_eq_t 39 d_La_isNearer_19 (by decide) c5 ?_
    refine q_iconst (v := 0) 40 d_La_isNearer_39 rfl (by decide) ?_
    cases h
    exact q_zret d_La_isNearer_40 rfl (Nat.zero_le _) (Nat.zero_le _)
  · refine q_icmp_eq_f 22 d_La_isNearer_19 rfl 39 (by decide) c5 ?_
    refine q_iload 24 d_La_isNearer_22 rfl 1 rfl ?_
    refine q_iconst (v := (-1)) 25 d_La_isNearer_24 rfl (by decide) ?_
    refine q_ite h (fun c4 h => ?_) (fun c4 h => ?_)
    · refine q_icmp_eq_t 35 d_La_isNearer_25 (by decide) c4 ?_
      refine q_iconst (v := 1) 36 d_La_isNearer_35 rfl (by decide) ?_
      refine q_goto 40 d_La_isNearer_36 (by decide) ?_
      cases h
      exact q_zret d_La_isNearer_40 rfl (Nat.zero_le _) (Nat.zero_le _)
    · refine q_icmp_eq_f 28 d_La_isNearer_25 rfl 35 (by decide) c4 ?_
      refine q_iload 30 d_La_isNearer_28 rfl 0 rfl ?_
      refine q_iload 32 d_La_isNearer_30 rfl 1 rfl ?_
      refine q_ite h (fun c3 h => ?_) (fun c3 h => ?_)
      · refine q_icmp_ge_t 39 d_La_isNearer_32 (by decide) c3 ?_
        refine q_iconst (v := 0) 40 d_La_isNearer_39 rfl (by decide) ?_
        cases h
        exact q_zret d_La_isNearer_40 rfl (Nat.zero_le _) (Nat.zero_le _)
      · refine q_icmp_ge_f 35 d_La_isNearer_32 rfl 39 (by decide) c3 ?_
        refine q_iconst (v := 1) 36 d_La_isNearer_35 rfl (by decide) ?_
        refine q_goto 40 d_La_isNearer_36 (by decide) ?_
        cases h
        exact q_zret d_La_isNearer_40 rfl (Nat.zero_le _) (Nat.zero_le _)
set_option maxHeartbeats 4000000 in
set_option maxRecDepth 100000 in
theorem t_La_nextFrom_J54 {E : q_E} {c d : Nat} {ρ : Int32} {K17 : q_W → Int32 → Int32 → Int32 → Int32 → Int32 → Option Int32} (hK17 : ∀ x v1 v2 v3 v4 v5, K17 x v1 v2 v3 v4 v5 = some ρ → AW E (q_rm 2) m_La_nextFrom (q_cells E c d x) 0 0 17 [(0, .ref 3), (1, .int v1), (2, .int v2), (3, .int v3), (4, .int v4), (5, .int v5)] [] (q_rP E c d x ρ)) : ∀ (x : q_W) (v1 : Int32) (v2 : Int32) (v3 : Int32) (v4 : Int32) (v5 : Int32) (s0 : Int32), f_La_nextFrom_J54 K17 x v1 v2 v3 v4 v5 s0 = some ρ → AW E (q_rm 2) m_La_nextFrom (q_cells E c d x) 0 0 54 [(0, .ref 3), (1, .int v1), (2, .int v2), (3, .int v3), (4, .int v4), (5, .int v5)] [.int s0] (q_rP E c d x ρ) := by
  intro x v1 v2 v3 v4 v5 s0 h
  unfold f_La_nextFrom_J54 at h
  refine q_istore (lv' := [(6, .int s0), (0, .ref 3), (1, .int v1), (2, .int v2), (3, .int v3), (4, .int v4), (5, .int v5)]) 56 d_La_nextFrom_54 rfl (by decide) rfl ?_
  refine q_iload 58 d_La_nextFrom_56 rfl 0 rfl ?_
  refine q_ite h (fun c12 h => ?_) (fun c12 h => ?_)
  · refine q_if_eq_t 87 d_La_nextFrom_58 (by decide) c12 ?_
    refine q_iinc (v := (v5 + 1)) (lv' := [(5, .int (v5 + 1)), (6, .int s0), (0, .ref 3), (1, .int v1), (2, .int v2), (3, .int v3), (4, .int v4)]) 90 d_La_nextFrom_87 rfl 6 rfl (q_ai (by decide)) (by decide) rfl ?_
    refine q_goto 17 d_La_nextFrom_90 (by decide) ?_
    refine q_sub (lv' := [(0, .ref 3), (1, .int v1), (2, .int v2), (3, .int v3), (4, .int v4), (5, .int (v5 + 1))]) [2, 3, 4, 5, 6, 0] rfl ?_
    exact hK17 _ _ _ _ _ _ h
  · refine q_if_eq_f 61 d_La_nextFrom_58 rfl 87 (by decide) c12 ?_
    refine q_iload 63 d_La_nextFrom_61 rfl 5 rfl ?_
    refine q_iconst (v := (-1)) 64 d_La_nextFrom_63 rfl (by decide) ?_
    refine q_ite h (fun c11 h => ?_) (fun c11 h => ?_)
    · refine q_icmp_eq_t 83 d_La_nextFrom_64 (by decide) c11 ?_
      refine q_iload 85 d_La_nextFrom_83 rfl 6 rfl ?_
      refine q_istore (lv' := [(4, .int v5), (6, .int s0), (0, .ref 3), (1, .int v1), (2, .int v2), (3, .int v3), (5, .int v5)]) 87 d_La_nextFrom_85 rfl (by decide) rfl ?_
      refine q_iinc (v := (v5 + 1)) (lv' := [(5, .int (v5 + 1)), (4, .int v5), (6, .int s0), (0, .ref 3), (1, .int v1), (2, .int v2), (3, .int v3)]) 90 d_La_nextFrom_87 rfl 6 rfl (q_ai (by decide)) (by decide) rfl ?_
      refine q_goto 17 d_La_nextFrom_90 (by decide) ?_
      refine q_sub (lv' := [(0, .ref 3), (1, .int v1), (2, .int v2), (3, .int v3), (4, .int v5), (5, .int (v5 + 1))]) [3, 4, 5, 6, 1, 0] rfl ?_
      exact hK17 _ _ _ _ _ _ h
    · refine q_icmp_eq_f 67 d_La_nextFrom_64 rfl 83 (by decide) c11 ?_
      refine q_iloadn 68 d_La_nextFrom_67 rfl 4 rfl ?_
      refine q_ite h (fun c10 h => ?_) (fun c10 h => ?_)
      · refine q_if_eq_t 87 d_La_nextFrom_68 (by decide) c10 ?_
        refine q_iinc (v := (v5 + 1)) (lv' := [(5, .int (v5 + 1)), (6, .int s0), (0, .ref 3), (1, .int v1), (2, .int v2), (3, .int v3), (4, .int v4)]) 90 d_La_nextFrom_87 rfl 6 rfl (q_ai (by decide)) (by decide) rfl ?_
        refine q_goto 17 d_La_nextFrom_90 (by decide) ?_
        refine q_sub (lv' := [(0, .ref 3), (1, .int v1), (2, .int v2), (3, .int v3), (4, .int v4), (5, .int (v5 + 1))]) [2, 3, 4, 5, 6, 0] rfl ?_
        exact hK17 _ _ _ _ _ _ h
      · refine q_if_eq_f 71 d_La_nextFrom_68 rfl 87 (by decide) c10 ?_
        refine q_aloadn 72 d_La_nextFrom_71 rfl 1 rfl ?_
        refine q_iload 74 d_La_nextFrom_72 rfl 6 rfl ?_
        refine q_iload 76 d_La_nextFrom_74 rfl 5 rfl ?_
        refine q_iloadn 77 d_La_nextFrom_76 rfl 3 rfl ?_
        refine q_xcallP (as := [.ref 3, .int v5, .int v4, .int v2]) (rest := []) 80 h (fun z e => t_La_isNearer e) (q_xinvV (Y := m_La_isNearer) d_La_nextFrom_77 ml_La_99 ms_La_isNearer.1 ms_La_isNearer.2 k_La_isNearer.1 (by decide) n_La_isNearer (by decide) rfl rfl) k_La_isNearer (q_ro (by decide) (by decide)) (Nat.le_of_ble_eq_true rfl) d_La_nextFrom_77 rfl rfl rfl (fun w8 ew8 h => ?_)
        refine q_ite h (fun c9 h => ?_) (fun c9 h => ?_)
        · refine q_if_eq_t 87 d_La_nextFrom_80 (by decide) c9 ?_
          refine q_iinc (v := (v5 + 1)) (lv' := [(5, .int (v5 + 1)), (6, .int s0), (0, .ref 3), (1, .int v1), (2, .int v2), (3, .int v3), (4, .int v4)]) 90 d_La_nextFrom_87 rfl 6 rfl (q_ai (by decide)) (by decide) rfl ?_
          refine q_goto 17 d_La_nextFrom_90 (by decide) ?_
          refine q_sub (lv' := [(0, .ref 3), (1, .int v1), (2, .int v2), (3, .int v3), (4, .int v4), (5, .int (v5 + 1))]) [2, 3, 4, 5, 6, 0] rfl ?_
          exact hK17 _ _ _ _ _ _ h
        · refine q_if_eq_f 83 d_La_nextFrom_80 rfl 87 (by decide) c9 ?_
          refine q_iload 85 d_La_nextFrom_83 rfl 6 rfl ?_
          refine q_istore (lv' := [(4, .int v5), (6, .int s0), (0, .ref 3), (1, .int v1), (2, .int v2), (3, .int v3), (5, .int v5)]) 87 d_La_nextFrom_85 rfl (by decide) rfl ?_
          refine q_iinc (v := (v5 + 1)) (lv' := [(5, .int (v5 + 1)), (4, .int v5), (6, .int s0), (0, .ref 3), (1, .int v1), (2, .int v2), (3, .int v3)]) 90 d_La_nextFrom_87 rfl 6 rfl (q_ai (by decide)) (by decide) rfl ?_
          refine q_goto 17 d_La_nextFrom_90 (by decide) ?_
          refine q_sub (lv' := [(0, .ref 3), (1, .int v1), (2, .int v2), (3, .int v3), (4, .int v5), (5, .int (v5 + 1))]) [3, 4, 5, 6, 1, 0] rfl ?_
          exact hK17 _ _ _ _ _ _ h
set_option maxHeartbeats 4000000 in
set_option maxRecDepth 100000 in
theorem t_La_nextFrom_J53 {E : q_E} {c d : Nat} {ρ : Int32} {K17 : q_W → Int32 → Int32 → Int32 → Int32 → Int32 → Option Int32} (hK17 : ∀ x v1 v2 v3 v4 v5, K17 x v1 v2 v3 v4 v5 = some ρ → AW E (q_rm 2) m_La_nextFrom (q_cells E c d x) 0 0 17 [(0, .ref 3), (1, .int v1), (2, .int v2), (3, .int v3), (4, .int v4), (5, .int v5)] [] (q_rP E c d x ρ)) : ∀ (x : q_W) (v1 : Int32) (v2 : Int32) (v3 : Int32) (v4 : Int32) (v5 : Int32), f_La_nextFrom_J53 K17 x v1 v2 v3 v4 v5 = some ρ → AW E (q_rm 2) m_La_nextFrom (q_cells E c d x) 0 0 53 [(0, .ref 3), (1, .int v1), (2, .int v2), (3, .int v3), (4, .int v4), (5, .int v5)] [] (q_rP E c d x ρ) := by
  intro x v1 v2 v3 v4 v5 h
  unfold f_La_nextFrom_J53 at h
  refine q_iconst (v := 0) 54 d_La_nextFrom_53 rfl (by decide) ?_
  exact t_La_nextFrom_J54 hK17 _ _ _ _ _ _ _ h
set_option maxHeartbeats 4000000 in
set_option maxRecDepth 100000 in
theorem t_La_nextFrom_L17 {E : q_E} {c d : Nat} {ρ : Int32} : ∀ (n : Nat) (x : q_W) (v1 : Int32) (v2 : Int32) (v3 : Int32) (v4 : Int32) (v5 : Int32), f_La_nextFrom_L17  n x v1 v2 v3 v4 v5 = some ρ → AW E (q_rm 2) m_La_nextFrom (q_cells E c d x) 0 0 17 [(0, .ref 3), (1, .int v1), (2, .int v2), (3, .int v3), (4, .int v4), (5, .int v5)] [] (q_rP E c d x ρ) := by
  intro n
  induction n with
  | zero =>
    intro x v1 v2 v3 v4 v5 h
    have h : (none : Option Int32) = some ρ := h
    cases h
  | succ n ih =>
    intro x v1 v2 v3 v4 v5 h
    unfold f_La_nextFrom_L17 at h
    refine q_iload 19 d_La_nextFrom_17 rfl 5 rfl ?_
    refine q_aloadn 20 d_La_nextFrom_19 rfl 0 rfl ?_
    refine q_xget 23 d_La_nextFrom_20 rfl fl_La_34 (by decide) rfl rfl ?_
    refine q_ite h (fun c7 h => ?_) (fun c7 h => ?_)
    · refine q_icmp_ge_t 93 d_La_nextFrom_23 (by decide) c7 ?_
      refine q_iload 95 d_La_nextFrom_93 rfl 4 rfl ?_
      cases h
      exact q_iret d_La_nextFrom_95 rfl (Nat.zero_le _) (Nat.zero_le _)
    · refine q_icmp_ge_f 26 d_La_nextFrom_23 rfl 93 (by decide) c7 ?_
      refine q_aloadn 27 d_La_nextFrom_26 rfl 0 rfl ?_
      refine q_xget 30 d_La_nextFrom_27 rfl fl_La_25 (by decide) rfl rfl ?_
      refine q_iload 32 d_La_nextFrom_30 rfl 5 rfl ?_
      refine q_xzald 33 d_La_nextFrom_32 rfl (by decide) (fun _ => rfl) h (fun w3 ew3 h => ?_)
      refine q_ite h (fun c6 h => ?_) (fun c6 h => ?_)
      · refine q_if_eq_t 53 d_La_nextFrom_33 (by decide) c6 ?_
        exact t_La_nextFrom_J53 ih _ _ _ _ _ _ h
      · refine q_if_eq_f 36 d_La_nextFrom_33 rfl 53 (by decide) c6 ?_
        refine q_aloadn 37 d_La_nextFrom_36 rfl 0 rfl ?_
        refine q_xget 40 d_La_nextFrom_37 rfl fl_La_9 (by decide) rfl rfl ?_
        refine q_iload 42 d_La_nextFrom_40 rfl 5 rfl ?_
        refine q_xiald 43 d_La_nextFrom_42 rfl (by decide) (fun _ => rfl) h (fun w4 ew4 h => ?_)
        refine q_iloadn 44 d_La_nextFrom_43 rfl 1 rfl ?_
        refine q_iconst (v := 3) 45 d_La_nextFrom_44 rfl (by decide) ?_
        refine q_ishr 46 d_La_nextFrom_45 rfl ?_
        refine q_ite h (fun c5 h => ?_) (fun c5 h => ?_)
        · refine q_icmp_ne_t 53 d_La_nextFrom_46 (by decide) c5 ?_
          exact t_La_nextFrom_J53 ih _ _ _ _ _ _ h
        · refine q_icmp_ne_f 49 d_La_nextFrom_46 rfl 53 (by decide) (Classical.not_not.mp c5) ?_
          refine q_iconst (v := 1) 50 d_La_nextFrom_49 rfl (by decide) ?_
          refine q_goto 54 d_La_nextFrom_50 (by decide) ?_
          exact t_La_nextFrom_J54 ih _ _ _ _ _ _ _ h
set_option maxHeartbeats 4000000 in
set_option maxRecDepth 100000 in
theorem t_La_nextFrom {E : q_E} {c d : Nat} {x : q_W} {a1 : Int32} {a2 : Int32} {ρ : Int32} (h : f_La_nextFrom x a1 a2 = some ρ) : q_Ct E y_La_nextFrom m_La_nextFrom (q_rm 2) (q_cells E c d x) [.ref 3, .int a1, .int a2] (q_rP E c d x ρ) := by
  unfold f_La_nextFrom at h
  refine q_Ct.of (lv := [(0, .ref 3), (1, .int a1), (2, .int a2)]) (by decide) ⟨rfl, rfl⟩ rfl (Nat.le_of_ble_eq_true rfl) ?_
  refine q_aloadn 1 d_La_nextFrom_0 rfl 0 rfl ?_
  refine q_xget 4 d_La_nextFrom_1 rfl fl_La_18 (by decide) rfl rfl ?_
  refine q_iloadn 5 d_La_nextFrom_4 rfl 1 rfl ?_
  refine q_xiald 6 d_La_nextFrom_5 rfl (by decide) (fun _ => rfl) h (fun w1 ew1 h => ?_)
  refine q_iloadn 7 d_La_nextFrom_6 rfl 2 rfl ?_
  refine q_xcallP (as := [.int w1, .int a2]) (rest := []) 10 h (fun z e => t_D_hasBit e) (q_invSN (Y := m_D_hasBit) d_La_nextFrom_7 ml_La_84 ms_D_hasBit k_D_hasBit.2 k_D_hasBit.1 (by decide) n_D_hasBit) k_D_hasBit (q_ro (by decide) (by decide)) (Nat.le_of_ble_eq_true rfl) d_La_nextFrom_7 rfl rfl rfl (fun w2 ew2 h => ?_)
  refine q_istoren (lv' := [(3, .int w2), (0, .ref 3), (1, .int a1), (2, .int a2)]) 11 d_La_nextFrom_10 rfl (by decide) rfl ?_
  refine q_iconst (v := (-1)) 12 d_La_nextFrom_11 rfl (by decide) ?_
  refine q_istore (lv' := [(4, .int (-1)), (3, .int w2), (0, .ref 3), (1, .int a1), (2, .int a2)]) 14 d_La_nextFrom_12 rfl (by decide) rfl ?_
  refine q_iconst (v := 0) 15 d_La_nextFrom_14 rfl (by decide) ?_
  refine q_istore (lv' := [(5, .int 0), (4, .int (-1)), (3, .int w2), (0, .ref 3), (1, .int a1), (2, .int a2)]) 17 d_La_nextFrom_15 rfl (by decide) rfl ?_
  refine q_sub (lv' := [(0, .ref 3), (1, .int a1), (2, .int a2), (3, .int w2), (4, .int (-1)), (5, .int 0)]) [3, 4, 5, 2, 1, 0] rfl ?_
  exact t_La_nextFrom_L17  q_fu _ _ _ _ _ _ h
set_option maxHeartbeats 4000000 in
set_option maxRecDepth 100000 in
theorem t_Ar_fill_L5 {E : q_E} {c d : Nat} {ρ : q_W} : ∀ (n : Nat) (x : q_W) (v1 : Int32) (v2 : Int32) (v3 : Int32), f_Ar_fill_L5  n x v1 v2 v3 = some ρ → AW E (q_rm 0) m_Ar_fill (q_cells E c d x) 0 0 5 [(0, .ref 13), (1, .int v1), (2, .int v2), (3, .int v3)] [] (q_rV E c d ρ) := by
  intro n
  induction n with
  | zero =>
    intro x v1 v2 v3 h
    have h : (none : Option q_W) = some ρ := h
    cases h
  | succ n ih =>
    intro x v1 v2 v3 h
    unfold f_Ar_fill_L5 at h
    refine q_iloadn 6 d_Ar_fill_5 rfl 2 rfl ?_
    refine q_iloadn 7 d_Ar_fill_6 rfl 3 rfl ?_
    refine q_ite h (fun c2 h => ?_) (fun c2 h => ?_)
    · refine q_icmp_ge_t 20 d_Ar_fill_7 (by decide) c2 ?_
      cases h
      exact q_vret d_Ar_fill_20 rfl (Nat.zero_le _) (Nat.zero_le _)
    · refine q_icmp_ge_f 10 d_Ar_fill_7 rfl 20 (by decide) c2 ?_
      refine q_aloadn 11 d_Ar_fill_10 rfl 0 rfl ?_
      refine q_iloadn 12 d_Ar_fill_11 rfl 2 rfl ?_
      refine q_iloadn 13 d_Ar_fill_12 rfl 1 rfl ?_
      refine q_xiast 14 d_Ar_fill_13 rfl (by decide) (fun _ => rfl) h (fun x1 ex1 h => ?_)
      refine q_iinc (v := (v2 + 1)) (lv' := [(2, .int (v2 + 1)), (0, .ref 13), (1, .int v1), (3, .int v3)]) 17 d_Ar_fill_14 rfl 2 rfl (q_ai (by decide)) (by decide) rfl ?_
      refine q_goto 5 d_Ar_fill_17 (by decide) ?_
      refine q_sub (lv' := [(0, .ref 13), (1, .int v1), (2, .int (v2 + 1)), (3, .int v3)]) [1, 2, 0, 3] rfl ?_
      exact ih _ _ _ _ h
set_option maxHeartbeats 4000000 in
set_option maxRecDepth 100000 in
theorem t_Ar_fill {E : q_E} {c d : Nat} {x : q_W} {a1 : Int32} {ρ : q_W} (h : f_Ar_fill x a1 = some ρ) : q_Ct E y_Ar_fill m_Ar_fill (q_rm 0) (q_cells E c d x) [.ref 13, .int a1] (q_rV E c d ρ) := by
  unfold f_Ar_fill at h
  refine q_Ct.of (lv := [(0, .ref 13), (1, .int a1)]) (by decide) ⟨rfl, rfl⟩ rfl (Nat.le_of_ble_eq_true rfl) ?_
  refine q_iconst (v := 0) 1 d_Ar_fill_0 rfl (by decide) ?_
  refine q_istoren (lv' := [(2, .int 0), (0, .ref 13), (1, .int a1)]) 2 d_Ar_fill_1 rfl (by decide) rfl ?_
  refine q_aloadn 3 d_Ar_fill_2 rfl 1 rfl ?_
  refine q_xalen (v := 1280) 4 d_Ar_fill_3 rfl (by decide) (fun _ => rfl) rfl (by decide) ?_
  refine q_istoren (lv' := [(3, .int 1280), (2, .int 0), (0, .ref 13), (1, .int a1)]) 5 d_Ar_fill_4 rfl (by decide) rfl ?_
  refine q_sub (lv' := [(0, .ref 13), (1, .int a1), (2, .int 0), (3, .int 1280)]) [2, 3, 1, 0] rfl ?_
  exact t_Ar_fill_L5  q_fu _ _ _ _ h
set_option maxHeartbeats 4000000 in
set_option maxRecDepth 100000 in
theorem t_Wa_go_L28 {E : q_E} {c d : Nat} {ρ : q_W} : ∀ (n : Nat) (x : q_W) (v2 : Int32) (v3 : Int32) (v4 : Int32), f_Wa_go_L28  n x v2 v3 v4 = some ρ → AW E (q_rm 3) m_Wa_go (q_cells E c d x) 0 0 28 [(0, .ref 11), (1, .ref 3), (2, .int v2), (3, .int v3), (4, .int v4)] [] (q_rV E c d ρ) := by
  intro n
  induction n with
  | zero =>
    intro x v2 v3 v4 h
    have h : (none : Option q_W) = some ρ := h
    cases h
  | succ n ih =>
    intro x v2 v3 v4 h
    unfold f_Wa_go_L28 at h
    refine q_iload 30 d_Wa_go_28 rfl 4 rfl ?_
    refine q_sipush (v := 1280) 33 d_Wa_go_30 rfl (by decide) ?_
    refine q_ite h (fun c16 h => ?_) (fun c16 h => ?_)
    · refine q_icmp_gt_t 119 d_Wa_go_33 (by decide) c16 ?_
      cases h
      exact q_vret d_Wa_go_119 rfl (Nat.zero_le _) (Nat.zero_le _)
    · refine q_icmp_gt_f 36 d_Wa_go_33 rfl 119 (by decide) c16 ?_
      refine q_iloadn 37 d_Wa_go_36 rfl 2 rfl ?_
      refine q_iconst (v := (-1)) 38 d_Wa_go_37 rfl (by decide) ?_
      refine q_ite h (fun c15 h => ?_) (fun c15 h => ?_)
      · refine q_icmp_eq_t 119 d_Wa_go_38 (by decide) c15 ?_
        cases h
        exact q_vret d_Wa_go_119 rfl (Nat.zero_le _) (Nat.zero_le _)
      · refine q_icmp_eq_f 41 d_Wa_go_38 rfl 119 (by decide) c15 ?_
        refine q_aloadn 42 d_Wa_go_41 rfl 1 rfl ?_
        refine q_iloadn 43 d_Wa_go_42 rfl 2 rfl ?_
        refine q_iloadn 44 d_Wa_go_43 rfl 3 rfl ?_
        refine q_xcallP (as := [.ref 3, .int v2, .int v3]) (rest := []) 47 h (fun z e => t_La_dutyFrom e) (q_xinvV (Y := m_La_dutyFrom) d_Wa_go_44 ml_Wa_37 ms_La_dutyFrom.1 ms_La_dutyFrom.2 k_La_dutyFrom.1 (by decide) n_La_dutyFrom (by decide) rfl rfl) k_La_dutyFrom (q_ro (by decide) (by decide)) (Nat.le_of_ble_eq_true rfl) d_Wa_go_44 rfl rfl rfl (fun w5 ew5 h => ?_)
        refine q_istoren (lv' := [(3, .int w5), (0, .ref 11), (1, .ref 3), (2, .int v2), (4, .int v4)]) 48 d_Wa_go_47 rfl (by decide) rfl ?_
        refine q_iloadn 49 d_Wa_go_48 rfl 3 rfl ?_
        refine q_iconst (v := 5) 50 d_Wa_go_49 rfl (by decide) ?_
        refine q_imul 51 d_Wa_go_50 rfl ?_
        refine q_iloadn 52 d_Wa_go_51 rfl 0 rfl ?_
        refine q_iadd 53 d_Wa_go_52 rfl ?_
        refine q_xtop h (fun z6 ez6 h => ?_)
        refine q_istore (lv' := [(5, .int z6), (3, .int w5), (0, .ref 11), (1, .ref 3), (2, .int v2), (4, .int v4)]) 55 d_Wa_go_53 rfl (by decide) rfl ?_
        refine q_aloadn 56 d_Wa_go_55 rfl 2 rfl ?_
        refine q_xget 59 d_Wa_go_56 rfl fl_Wa_15 (by decide) rfl rfl ?_
        refine q_iload 61 d_Wa_go_59 rfl 0 rfl ?_
        refine q_xiald 62 d_Wa_go_61 rfl (by decide) (fun _ => rfl) h (fun w7 ew7 h => ?_)
        refine q_iconst (v := (-1)) 63 d_Wa_go_62 rfl (by decide) ?_
        refine q_ite h (fun c14 h => ?_) (fun c14 h => ?_)
        · refine q_icmp_eq_t 89 d_Wa_go_63 (by decide) c14 ?_
          refine q_aloadn 90 d_Wa_go_89 rfl 2 rfl ?_
          refine q_xget 93 d_Wa_go_90 rfl fl_Wa_15 (by decide) rfl rfl ?_
          refine q_iload 95 d_Wa_go_93 rfl 0 rfl ?_
          refine q_iload 97 d_Wa_go_95 rfl 5 rfl ?_
          refine q_xiast 98 d_Wa_go_97 rfl (by decide) (fun _ => rfl) h (fun x8 ex8 h => ?_)
          refine q_aloadn 99 d_Wa_go_98 rfl 2 rfl ?_
          refine q_xget 102 d_Wa_go_99 rfl fl_Wa_11 (by decide) rfl rfl ?_
          refine q_iload 104 d_Wa_go_102 rfl 5 rfl ?_
          refine q_iloadn 105 d_Wa_go_104 rfl 4 rfl ?_
          refine q_xiast 106 d_Wa_go_105 rfl (by decide) (fun _ => rfl) h (fun x9 ex9 h => ?_)
          refine q_aloadn 107 d_Wa_go_106 rfl 3 rfl ?_
          refine q_iloadn 108 d_Wa_go_107 rfl 4 rfl ?_
          refine q_iloadn 109 d_Wa_go_108 rfl 1 rfl ?_
          refine q_xcallP (as := [.ref 3, .int v2, .int w5]) (rest := []) 112 h (fun z e => t_La_nextFrom e) (q_xinvV (Y := m_La_nextFrom) d_Wa_go_109 ml_Wa_41 ms_La_nextFrom.1 ms_La_nextFrom.2 k_La_nextFrom.1 (by decide) n_La_nextFrom (by decide) rfl rfl) k_La_nextFrom (q_ro (by decide) (by decide)) (Nat.le_of_ble_eq_true rfl) d_Wa_go_109 rfl rfl rfl (fun w10 ew10 h => ?_)
          refine q_istoren (lv' := [(2, .int w10), (5, .int z6), (3, .int w5), (0, .ref 11), (1, .ref 3), (4, .int v4)]) 113 d_Wa_go_112 rfl (by decide) rfl ?_
          refine q_iinc (v := (v4 + 1)) (lv' := [(4, .int (v4 + 1)), (2, .int w10), (5, .int z6), (3, .int w5), (0, .ref 11), (1, .ref 3)]) 116 d_Wa_go_113 rfl 5 rfl (q_ai (by decide)) (by decide) rfl ?_
          refine q_goto 28 d_Wa_go_116 (by decide) ?_
          refine q_sub (lv' := [(0, .ref 11), (1, .ref 3), (2, .int w10), (3, .int w5), (4, .int (v4 + 1))]) [4, 5, 1, 3, 0] rfl ?_
          exact ih _ _ _ _ h
        · refine q_icmp_eq_f 66 d_Wa_go_63 rfl 89 (by decide) c14 ?_
          refine q_aloadn 67 d_Wa_go_66 rfl 2 rfl ?_
          refine q_aloadn 68 d_Wa_go_67 rfl 2 rfl ?_
          refine q_xget 71 d_Wa_go_68 rfl fl_Wa_15 (by decide) rfl rfl ?_
          refine q_iload 73 d_Wa_go_71 rfl 0 rfl ?_
          refine q_xiald 74 d_Wa_go_73 rfl (by decide) (fun _ => rfl) h (fun w11 ew11 h => ?_)
          refine q_xput 77 d_Wa_go_74 rfl fl_Wa_18 (by decide) rfl rfl rfl rfl (Nat.le_of_ble_eq_true rfl) (fun _ => rfl) h (fun x12 ex12 h => ?_)
          refine q_aloadn 78 d_Wa_go_77 rfl 2 rfl ?_
          refine q_iload 80 d_Wa_go_78 rfl 5 rfl ?_
          refine q_aloadn 81 d_Wa_go_80 rfl 2 rfl ?_
          refine q_xget 84 d_Wa_go_81 rfl fl_Wa_18 (by decide) rfl rfl ?_
          refine q_isub 85 d_Wa_go_84 rfl ?_
          refine q_xput 88 d_Wa_go_85 rfl fl_Wa_22 (by decide) rfl rfl rfl rfl (Nat.le_of_ble_eq_true rfl) (fun _ => rfl) h (fun x13 ex13 h => ?_)
          cases h
          exact q_vret d_Wa_go_88 rfl (Nat.zero_le _) (Nat.zero_le _)
set_option maxHeartbeats 4000000 in
set_option maxRecDepth 100000 in
theorem t_Wa_go {E : q_E} {c d : Nat} {x : q_W} {ρ : q_W} (h : f_Wa_go x = some ρ) : q_Ct E y_Wa_go m_Wa_go (q_rm 3) (q_cells E c d x) [.ref 11, .ref 3] (q_rV E c d ρ) := by
  unfold f_Wa_go at h
  refine q_Ct.of (lv := [(0, .ref 11), (1, .ref 3)]) (by decide) ⟨rfl, rfl⟩ rfl (Nat.le_of_ble_eq_true rfl) ?_
  refine q_aloadn 1 d_Wa_go_0 rfl 0 rfl ?_
  refine q_iconst (v := (-1)) 2 d_Wa_go_1 rfl (by decide) ?_
  refine q_xput 5 d_Wa_go_2 rfl fl_Wa_18 (by decide) rfl rfl rfl rfl (Nat.le_of_ble_eq_true rfl) (fun _ => rfl) h (fun x1 ex1 h => ?_)
  refine q_aloadn 6 d_Wa_go_5 rfl 0 rfl ?_
  refine q_iconst (v := (-1)) 7 d_Wa_go_6 rfl (by decide) ?_
  refine q_xput 10 d_Wa_go_7 rfl fl_Wa_22 (by decide) rfl rfl rfl rfl (Nat.le_of_ble_eq_true rfl) (fun _ => rfl) h (fun x2 ex2 h => ?_)
  refine q_aloadn 11 d_Wa_go_10 rfl 0 rfl ?_
  refine q_xget 14 d_Wa_go_11 rfl fl_Wa_15 (by decide) rfl rfl ?_
  refine q_iconst (v := (-1)) 15 d_Wa_go_14 rfl (by decide) ?_
  refine q_xcallV (as := [.ref 13, .int (-1)]) (rest := []) 18 h (fun z e => t_Ar_fill e) (q_invS (Y := m_Ar_fill) d_Wa_go_15 ml_Wa_25 ms_Ar_fill k_Ar_fill.2 k_Ar_fill.1 (by decide) n_Ar_fill) k_Ar_fill (q_ro (by decide) (by decide)) (Nat.le_of_ble_eq_true rfl) d_Wa_go_15 rfl rfl rfl (fun x3 ex3 h => ?_)
  refine q_aloadn 19 d_Wa_go_18 rfl 1 rfl ?_
  refine q_xcallP (as := [.ref 3]) (rest := []) 22 h (fun z e => t_La_leastWhole e) (q_xinvV (Y := m_La_leastWhole) d_Wa_go_19 ml_Wa_31 ms_La_leastWhole.1 ms_La_leastWhole.2 k_La_leastWhole.1 (by decide) n_La_leastWhole (by decide) rfl rfl) k_La_leastWhole (q_ro (by decide) (by decide)) (Nat.le_of_ble_eq_true rfl) d_Wa_go_19 rfl rfl rfl (fun w4 ew4 h => ?_)
  refine q_istoren (lv' := [(2, .int w4), (0, .ref 11), (1, .ref 3)]) 23 d_Wa_go_22 rfl (by decide) rfl ?_
  refine q_iconst (v := 0) 24 d_Wa_go_23 rfl (by decide) ?_
  refine q_istoren (lv' := [(3, .int 0), (2, .int w4), (0, .ref 11), (1, .ref 3)]) 25 d_Wa_go_24 rfl (by decide) rfl ?_
  refine q_iconst (v := 0) 26 d_Wa_go_25 rfl (by decide) ?_
  refine q_istore (lv' := [(4, .int 0), (3, .int 0), (2, .int w4), (0, .ref 11), (1, .ref 3)]) 28 d_Wa_go_26 rfl (by decide) rfl ?_
  refine q_sub (lv' := [(0, .ref 11), (1, .ref 3), (2, .int w4), (3, .int 0), (4, .int 0)]) [3, 4, 2, 1, 0] rfl ?_
  exact t_Wa_go_L28  q_fu _ _ _ _ h
set_option maxHeartbeats 4000000 in
set_option maxRecDepth 100000 in
theorem t_D_settle {E : q_E} {c d : Nat} (hcd : q_cd c d) {x : q_W} {ρ : q_W} (h : f_D_settle c d x = some ρ) : q_Ct E y_D_settle m_D_settle (q_rm 5) (q_cells E c d x) [.ref 0] (q_rV E c d ρ) := by
  rcases hcd with ⟨rfl, rfl⟩ | ⟨rfl, rfl⟩
  · unfold f_D_settle at h
    refine q_Ct.of (lv := [(0, .ref 0)]) (by decide) ⟨rfl, rfl⟩ rfl (Nat.le_of_ble_eq_true rfl) ?_
    refine q_aloadn 1 d_D_settle_0 rfl 0 rfl ?_
    refine q_xget 4 d_D_settle_1 rfl fl_D_51 (by decide) rfl rfl ?_
    refine q_ite h (fun c4 h => ?_) (fun c4 h => ?_)
    · refine q_if_ne_t 34 d_D_settle_4 (by decide) c4 ?_
      cases h
      exact q_vret d_D_settle_34 rfl (Nat.zero_le _) (Nat.zero_le _)
    · refine q_if_ne_f 7 d_D_settle_4 rfl 34 (by decide) (Classical.not_not.mp c4) ?_
      refine q_aloadn 8 d_D_settle_7 rfl 0 rfl ?_
      refine q_xget 11 d_D_settle_8 rfl fl_D_19 (by decide) rfl rfl ?_
      refine q_aloadn 12 d_D_settle_11 rfl 0 rfl ?_
      refine q_xget 15 d_D_settle_12 rfl fl_D_40 (by decide) rfl rfl ?_
      refine q_xcallV (as := [.ref 3, .ref 16]) (rest := []) 18 h (fun z e => t_La_find (by decide) e) (q_xinvV (Y := m_La_find) d_D_settle_15 ml_D_181 ms_La_find.1 ms_La_find.2 k_La_find.1 (by decide) n_La_find (by decide) rfl rfl) k_La_find (q_ro (by decide) (by decide)) (Nat.le_of_ble_eq_true rfl) d_D_settle_15 rfl rfl rfl (fun x1 ex1 h => ?_)
      refine q_aloadn 19 d_D_settle_18 rfl 0 rfl ?_
      refine q_xget 22 d_D_settle_19 rfl fl_D_26 (by decide) rfl rfl ?_
      refine q_aloadn 23 d_D_settle_22 rfl 0 rfl ?_
      refine q_xget 26 d_D_settle_23 rfl fl_D_19 (by decide) rfl rfl ?_
      refine q_xcallV (as := [.ref 11, .ref 3]) (rest := []) 29 h (fun z e => t_Wa_go e) (q_xinvV (Y := m_Wa_go) d_D_settle_26 ml_D_185 ms_Wa_go.1 ms_Wa_go.2 k_Wa_go.1 (by decide) n_Wa_go (by decide) rfl rfl) k_Wa_go (q_ro (by decide) (by decide)) (Nat.le_of_ble_eq_true rfl) d_D_settle_26 rfl rfl rfl (fun x2 ex2 h => ?_)
      refine q_aloadn 30 d_D_settle_29 rfl 0 rfl ?_
      refine q_iconst (v := 1) 31 d_D_settle_30 rfl (by decide) ?_
      refine q_xput 34 d_D_settle_31 rfl fl_D_51 (by decide) rfl rfl rfl rfl (Nat.le_of_ble_eq_true rfl) (fun _ => rfl) h (fun x3 ex3 h => ?_)
      cases h
      exact q_vret d_D_settle_34 rfl (Nat.zero_le _) (Nat.zero_le _)
  · unfold f_D_settle at h
    refine q_Ct.of (lv := [(0, .ref 0)]) (by decide) ⟨rfl, rfl⟩ rfl (Nat.le_of_ble_eq_true rfl) ?_
    refine q_aloadn 1 d_D_settle_0 rfl 0 rfl ?_
    refine q_xget 4 d_D_settle_1 rfl fl_D_51 (by decide) rfl rfl ?_
    refine q_ite h (fun c4 h => ?_) (fun c4 h => ?_)
    · refine q_if_ne_t 34 d_D_settle_4 (by decide) c4 ?_
      cases h
      exact q_vret d_D_settle_34 rfl (Nat.zero_le _) (Nat.zero_le _)
    · refine q_if_ne_f 7 d_D_settle_4 rfl 34 (by decide) (Classical.not_not.mp c4) ?_
      refine q_aloadn 8 d_D_settle_7 rfl 0 rfl ?_
      refine q_xget 11 d_D_settle_8 rfl fl_D_19 (by decide) rfl rfl ?_
      refine q_aloadn 12 d_D_settle_11 rfl 0 rfl ?_
      refine q_xget 15 d_D_settle_12 rfl fl_D_40 (by decide) rfl rfl ?_
      refine q_xcallV (as := [.ref 3, .ref 24]) (rest := []) 18 h (fun z e => t_La_find (by decide) e) (q_xinvV (Y := m_La_find) d_D_settle_15 ml_D_181 ms_La_find.1 ms_La_find.2 k_La_find.1 (by decide) n_La_find (by decide) rfl rfl) k_La_find (q_ro (by decide) (by decide)) (Nat.le_of_ble_eq_true rfl) d_D_settle_15 rfl rfl rfl (fun x1 ex1 h => ?_)
      refine q_aloadn 19 d_D_settle_18 rfl 0 rfl ?_
      refine q_xget 22 d_D_settle_19 rfl fl_D_26 (by decide) rfl rfl ?_
      refine q_aloadn 23 d_D_settle_22 rfl 0 rfl ?_
      refine q_xget 26 d_D_settle_23 rfl fl_D_19 (by decide) rfl rfl ?_
      refine q_xcallV (as := [.ref 11, .ref 3]) (rest := []) 29 h (fun z e => t_Wa_go e) (q_xinvV (Y := m_Wa_go) d_D_settle_26 ml_D_185 ms_Wa_go.1 ms_Wa_go.2 k_Wa_go.1 (by decide) n_Wa_go (by decide) rfl rfl) k_Wa_go (q_ro (by decide) (by decide)) (Nat.le_of_ble_eq_true rfl) d_D_settle_26 rfl rfl rfl (fun x2 ex2 h => ?_)
      refine q_aloadn 30 d_D_settle_29 rfl 0 rfl ?_
      refine q_iconst (v := 1) 31 d_D_settle_30 rfl (by decide) ?_
      refine q_xput 34 d_D_settle_31 rfl fl_D_51 (by decide) rfl rfl rfl rfl (Nat.le_of_ble_eq_true rfl) (fun _ => rfl) h (fun x3 ex3 h => ?_)
      cases h
      exact q_vret d_D_settle_34 rfl (Nat.zero_le _) (Nat.zero_le _)
set_option maxHeartbeats 4000000 in
set_option maxRecDepth 100000 in
theorem t_La_has {E : q_E} {c d : Nat} {x : q_W} {a1 : Int32} {ρ : Int32} (h : f_La_has x a1 = some ρ) : q_Ct E y_La_has m_La_has (q_rm 0) (q_cells E c d x) [.ref 3, .int a1] (q_rP E c d x ρ) := by
  unfold f_La_has at h
  refine q_Ct.of (lv := [(0, .ref 3), (1, .int a1)]) (by decide) ⟨rfl, rfl⟩ rfl (Nat.le_of_ble_eq_true rfl) ?_
  refine q_aloadn 1 d_La_has_0 rfl 0 rfl ?_
  refine q_xget 4 d_La_has_1 rfl fl_La_25 (by decide) rfl rfl ?_
  refine q_iloadn 5 d_La_has_4 rfl 1 rfl ?_
  refine q_xzald 6 d_La_has_5 rfl (by decide) (fun _ => rfl) h (fun w1 ew1 h => ?_)
  cases h
  exact q_zret d_La_has_6 rfl (Nat.zero_le _) (Nat.zero_le _)
set_option maxHeartbeats 4000000 in
set_option maxRecDepth 100000 in
theorem t_D_lasts {E : q_E} {c d : Nat} (hcd : q_cd c d) {x : q_W} {a1 : Int32} {ρ : (Int32 ⊕ Nat) × q_W} (h : f_D_lasts c d x a1 = some ρ) : q_Ct E y_D_lasts m_D_lasts (q_rm 7) (q_cells E c d x) [.ref 0, .int a1] (q_rT E c d false ρ) := by
  rcases hcd with ⟨rfl, rfl⟩ | ⟨rfl, rfl⟩
  · unfold f_D_lasts at h
    refine q_Ct.of (lv := [(0, .ref 0), (1, .int a1)]) (by decide) ⟨rfl, rfl⟩ rfl (Nat.le_of_ble_eq_true rfl) ?_
    refine q_aloadn 1 d_D_lasts_0 rfl 0 rfl ?_
    refine q_xcallPT (as := [.ref 0]) (rest := []) 4 h (fun z e => t_D_requireFormula (Or.inl ⟨rfl, rfl⟩) e) (q_xinvV (Y := m_D_requireFormula) d_D_lasts_1 ml_D_85 ms_D_requireFormula.1 ms_D_requireFormula.2 k_D_requireFormula.1 (by decide) n_D_requireFormula (by decide) rfl rfl) k_D_requireFormula (q_ro (by decide) (by decide)) (Nat.le_of_ble_eq_true rfl) d_D_lasts_1 rfl rfl rfl rfl (fun w1 ew1 h => ?_)
    refine q_aloadn 5 d_D_lasts_4 rfl 0 rfl ?_
    refine q_iloadn 6 d_D_lasts_5 rfl 1 rfl ?_
    refine q_xcallPT (as := [.ref 0, .int a1]) (rest := []) 9 h (fun z e => t_D_requireState (Or.inl ⟨rfl, rfl⟩) e) (q_xinvV (Y := m_D_requireState) d_D_lasts_6 ml_D_91 ms_D_requireState.1 ms_D_requireState.2 k_D_requireState.1 (by decide) n_D_requireState (by decide) rfl rfl) k_D_requireState (q_ro (by decide) (by decide)) (Nat.le_of_ble_eq_true rfl) d_D_lasts_6 rfl rfl rfl rfl (fun w3 ew3 h => ?_)
    refine q_aloadn 10 d_D_lasts_9 rfl 0 rfl ?_
    refine q_xcallV (as := [.ref 0]) (rest := []) 13 h (fun z e => t_D_settle (Or.inl ⟨rfl, rfl⟩) e) (q_xinvV (Y := m_D_settle) d_D_lasts_10 ml_D_105 ms_D_settle.1 ms_D_settle.2 k_D_settle.1 (by decide) n_D_settle (by decide) rfl rfl) k_D_settle (q_ro (by decide) (by decide)) (Nat.le_of_ble_eq_true rfl) d_D_lasts_10 rfl rfl rfl (fun x5 ex5 h => ?_)
    refine q_aloadn 14 d_D_lasts_13 rfl 0 rfl ?_
    refine q_xget 17 d_D_lasts_14 rfl fl_D_19 (by decide) rfl rfl ?_
    refine q_iloadn 18 d_D_lasts_17 rfl 1 rfl ?_
    refine q_xcallP (as := [.ref 3, .int a1]) (rest := []) 21 h (fun z e => t_La_has e) (q_xinvV (Y := m_La_has) d_D_lasts_18 ml_D_108 ms_La_has.1 ms_La_has.2 k_La_has.1 (by decide) n_La_has (by decide) rfl rfl) k_La_has (q_ro (by decide) (by decide)) (Nat.le_of_ble_eq_true rfl) d_D_lasts_18 rfl rfl rfl (fun w6 ew6 h => ?_)
    cases h
    exact q_zret d_D_lasts_21 rfl (Nat.zero_le _) (Nat.zero_le _)
  · unfold f_D_lasts at h
    refine q_Ct.of (lv := [(0, .ref 0), (1, .int a1)]) (by decide) ⟨rfl, rfl⟩ rfl (Nat.le_of_ble_eq_true rfl) ?_
    refine q_aloadn 1 d_D_lasts_0 rfl 0 rfl ?_
    refine q_xcallPT (as := [.ref 0]) (rest := []) 4 h (fun z e => t_D_requireFormula (Or.inr ⟨rfl, rfl⟩) e) (q_xinvV (Y := m_D_requireFormula) d_D_lasts_1 ml_D_85 ms_D_requireFormula.1 ms_D_requireFormula.2 k_D_requireFormula.1 (by decide) n_D_requireFormula (by decide) rfl rfl) k_D_requireFormula (q_ro (by decide) (by decide)) (Nat.le_of_ble_eq_true rfl) d_D_lasts_1 rfl rfl rfl rfl (fun w1 ew1 h => ?_)
    refine q_aloadn 5 d_D_lasts_4 rfl 0 rfl ?_
    refine q_iloadn 6 d_D_lasts_5 rfl 1 rfl ?_
    refine q_xcallPT (as := [.ref 0, .int a1]) (rest := []) 9 h (fun z e => t_D_requireState (Or.inr ⟨rfl, rfl⟩) e) (q_xinvV (Y := m_D_requireState) d_D_lasts_6 ml_D_91 ms_D_requireState.1 ms_D_requireState.2 k_D_requireState.1 (by decide) n_D_requireState (by decide) rfl rfl) k_D_requireState (q_ro (by decide) (by decide)) (Nat.le_of_ble_eq_true rfl) d_D_lasts_6 rfl rfl rfl rfl (fun w3 ew3 h => ?_)
    refine q_aloadn 10 d_D_lasts_9 rfl 0 rfl ?_
    refine q_xcallV (as := [.ref 0]) (rest := []) 13 h (fun z e => t_D_settle (Or.inr ⟨rfl, rfl⟩) e) (q_xinvV (Y := m_D_settle) d_D_lasts_10 ml_D_105 ms_D_settle.1 ms_D_settle.2 k_D_settle.1 (by decide) n_D_settle (by decide) rfl rfl) k_D_settle (q_ro (by decide) (by decide)) (Nat.le_of_ble_eq_true rfl) d_D_lasts_10 rfl rfl rfl (fun x5 ex5 h => ?_)
    refine q_aloadn 14 d_D_lasts_13 rfl 0 rfl ?_
    refine q_xget 17 d_D_lasts_14 rfl fl_D_19 (by decide) rfl rfl ?_
    refine q_iloadn 18 d_D_lasts_17 rfl 1 rfl ?_
    refine q_xcallP (as := [.ref 3, .int a1]) (rest := []) 21 h (fun z e => t_La_has e) (q_xinvV (Y := m_La_has) d_D_lasts_18 ml_D_108 ms_La_has.1 ms_La_has.2 k_La_has.1 (by decide) n_La_has (by decide) rfl rfl) k_La_has (q_ro (by decide) (by decide)) (Nat.le_of_ble_eq_true rfl) d_D_lasts_18 rfl rfl rfl (fun w6 ew6 h => ?_)
    cases h
    exact q_zret d_D_lasts_21 rfl (Nat.zero_le _) (Nat.zero_le _)
set_option maxHeartbeats 4000000 in
set_option maxRecDepth 100000 in
theorem t_La_size {E : q_E} {c d : Nat} {x : q_W} {ρ : Int32} (h : f_La_size x = some ρ) : q_Ct E y_La_size m_La_size (q_rm 0) (q_cells E c d x) [.ref 3] (q_rP E c d x ρ) := by
  unfold f_La_size at h
  refine q_Ct.of (lv := [(0, .ref 3)]) (by decide) ⟨rfl, rfl⟩ rfl (Nat.le_of_ble_eq_true rfl) ?_
  refine q_aloadn 1 d_La_size_0 rfl 0 rfl ?_
  refine q_xget 4 d_La_size_1 rfl fl_La_41 (by decide) rfl rfl ?_
  cases h
  exact q_iret d_La_size_4 rfl (Nat.zero_le _) (Nat.zero_le _)
set_option maxHeartbeats 4000000 in
set_option maxRecDepth 100000 in
theorem t_D_lasting {E : q_E} {c d : Nat} (hcd : q_cd c d) {x : q_W} {ρ : (Int32 ⊕ Nat) × q_W} (h : f_D_lasting c d x = some ρ) : q_Ct E y_D_lasting m_D_lasting (q_rm 7) (q_cells E c d x) [.ref 0] (q_rT E c d false ρ) := by
  rcases hcd with ⟨rfl, rfl⟩ | ⟨rfl, rfl⟩
  · unfold f_D_lasting at h
    refine q_Ct.of (lv := [(0, .ref 0)]) (by decide) ⟨rfl, rfl⟩ rfl (Nat.le_of_ble_eq_true rfl) ?_
    refine q_aloadn 1 d_D_lasting_0 rfl 0 rfl ?_
    refine q_xcallPT (as := [.ref 0]) (rest := []) 4 h (fun z e => t_D_requireFormula (Or.inl ⟨rfl, rfl⟩) e) (q_xinvV (Y := m_D_requireFormula) d_D_lasting_1 ml_D_85 ms_D_requireFormula.1 ms_D_requireFormula.2 k_D_requireFormula.1 (by decide) n_D_requireFormula (by decide) rfl rfl) k_D_requireFormula (q_ro (by decide) (by decide)) (Nat.le_of_ble_eq_true rfl) d_D_lasting_1 rfl rfl rfl rfl (fun w1 ew1 h => ?_)
    refine q_aloadn 5 d_D_lasting_4 rfl 0 rfl ?_
    refine q_xcallV (as := [.ref 0]) (rest := []) 8 h (fun z e => t_D_settle (Or.inl ⟨rfl, rfl⟩) e) (q_xinvV (Y := m_D_settle) d_D_lasting_5 ml_D_105 ms_D_settle.1 ms_D_settle.2 k_D_settle.1 (by decide) n_D_settle (by decide) rfl rfl) k_D_settle (q_ro (by decide) (by decide)) (Nat.le_of_ble_eq_true rfl) d_D_lasting_5 rfl rfl rfl (fun x3 ex3 h => ?_)
    refine q_aloadn 9 d_D_lasting_8 rfl 0 rfl ?_
    refine q_xget 12 d_D_lasting_9 rfl fl_D_19 (by decide) rfl rfl ?_
    refine q_xcallP (as := [.ref 3]) (rest := []) 15 h (fun z e => t_La_size e) (q_xinvV (Y := m_La_size) d_D_lasting_12 ml_D_111 ms_La_size.1 ms_La_size.2 k_La_size.1 (by decide) n_La_size (by decide) rfl rfl) k_La_size (q_ro (by decide) (by decide)) (Nat.le_of_ble_eq_true rfl) d_D_lasting_12 rfl rfl rfl (fun w4 ew4 h => ?_)
    cases h
    exact q_iret d_D_lasting_15 rfl (Nat.zero_le _) (Nat.zero_le _)
  · unfold f_D_lasting at h
    refine q_Ct.of (lv := [(0, .ref 0)]) (by decide) ⟨rfl, rfl⟩ rfl (Nat.le_of_ble_eq_true rfl) ?_
    refine q_aloadn 1 d_D_lasting_0 rfl 0 rfl ?_
    refine q_xcallPT (as := [.ref 0]) (rest := []) 4 h (fun z e => t_D_requireFormula (Or.inr ⟨rfl, rfl⟩) e) (q_xinvV (Y := m_D_requireFormula) d_D_lasting_1 ml_D_85 ms_D_requireFormula.1 ms_D_requireFormula.2 k_D_requireFormula.1 (by decide) n_D_requireFormula (by decide) rfl rfl) k_D_requireFormula (q_ro (by decide) (by decide)) (Nat.le_of_ble_eq_true rfl) d_D_lasting_1 rfl rfl rfl rfl (fun w1 ew1 h => ?_)
    refine q_aloadn 5 d_D_lasting_4 rfl 0 rfl ?_
    refine q_xcallV (as := [.ref 0]) (rest := []) 8 h (fun z e => t_D_settle (Or.inr ⟨rfl, rfl⟩) e) (q_xinvV (Y := m_D_settle) d_D_lasting_5 ml_D_105 ms_D_settle.1 ms_D_settle.2 k_D_settle.1 (by decide) n_D_settle (by decide) rfl rfl) k_D_settle (q_ro (by decide) (by decide)) (Nat.le_of_ble_eq_true rfl) d_D_lasting_5 rfl rfl rfl (fun x3 ex3 h => ?_)
    refine q_aloadn 9 d_D_lasting_8 rfl 0 rfl ?_
    refine q_xget 12 d_D_lasting_9 rfl fl_D_19 (by decide) rfl rfl ?_
    refine q_xcallP (as := [.ref 3]) (rest := []) 15 h (fun z e => t_La_size e) (q_xinvV (Y := m_La_size) d_D_lasting_12 ml_D_111 ms_La_size.1 ms_La_size.2 k_La_size.1 (by decide) n_La_size (by decide) rfl rfl) k_La_size (q_ro (by decide) (by decide)) (Nat.le_of_ble_eq_true rfl) d_D_lasting_12 rfl rfl rfl (fun w4 ew4 h => ?_)
    cases h
    exact q_iret d_D_lasting_15 rfl (Nat.zero_le _) (Nat.zero_le _)
set_option maxHeartbeats 4000000 in
set_option maxRecDepth 100000 in
theorem t_D_promises {E : q_E} {c d : Nat} (hcd : q_cd c d) {x : q_W} {ρ : Int32 ⊕ Nat} (h : f_D_promises c d x = some ρ) : q_Ct E y_D_promises m_D_promises (q_rm 7) (q_cells E c d x) [.ref 0] (q_rPT E c d false x ρ) := by
  rcases hcd with ⟨rfl, rfl⟩ | ⟨rfl, rfl⟩
  · unfold f_D_promises at h
    refine q_Ct.of (lv := [(0, .ref 0)]) (by decide) ⟨rfl, rfl⟩ rfl (Nat.le_of_ble_eq_true rfl) ?_
    refine q_aloadn 1 d_D_promises_0 rfl 0 rfl ?_
    refine q_xcallPP (as := [.ref 0]) (rest := []) 4 h (fun z e => t_D_requireFormula (Or.inl ⟨rfl, rfl⟩) e) (q_xinvV (Y := m_D_requireFormula) d_D_promises_1 ml_D_85 ms_D_requireFormula.1 ms_D_requireFormula.2 k_D_requireFormula.1 (by decide) n_D_requireFormula (by decide) rfl rfl) k_D_requireFormula (q_ro (by decide) (by decide)) (Nat.le_of_ble_eq_true rfl) d_D_promises_1 rfl rfl rfl rfl (fun w1 ew1 h => ?_)
    refine q_aloadn 5 d_D_promises_4 rfl 0 rfl ?_
    refine q_xget 8 d_D_promises_5 rfl fl_D_40 (by decide) rfl rfl ?_
    refine q_xcallP (as := [.ref 16]) (rest := []) 11 h (fun z e => t_Fo_promiseCount (by decide) e) (q_xinvV (Y := m_Fo_promiseCount) d_D_promises_8 ml_D_112 ms_Fo_promiseCount.1 ms_Fo_promiseCount.2 k_Fo_promiseCount.1 (by decide) n_Fo_promiseCount (by decide) rfl rfl) k_Fo_promiseCount (q_ro (by decide) (by decide)) (Nat.le_of_ble_eq_true rfl) d_D_promises_8 rfl rfl rfl (fun w3 ew3 h => ?_)
    cases h
    exact q_iret d_D_promises_11 rfl (Nat.zero_le _) (Nat.zero_le _)
  · unfold f_D_promises at h
    refine q_Ct.of (lv := [(0, .ref 0)]) (by decide) ⟨rfl, rfl⟩ rfl (Nat.le_of_ble_eq_true rfl) ?_
    refine q_aloadn 1 d_D_promises_0 rfl 0 rfl ?_
    refine q_xcallPP (as := [.ref 0]) (rest := []) 4 h (fun z e => t_D_requireFormula (Or.inr ⟨rfl, rfl⟩) e) (q_xinvV (Y := m_D_requireFormula) d_D_promises_1 ml_D_85 ms_D_requireFormula.1 ms_D_requireFormula.2 k_D_requireFormula.1 (by decide) n_D_requireFormula (by decide) rfl rfl) k_D_requireFormula (q_ro (by decide) (by decide)) (Nat.le_of_ble_eq_true rfl) d_D_promises_1 rfl rfl rfl rfl (fun w1 ew1 h => ?_)
    refine q_aloadn 5 d_D_promises_4 rfl 0 rfl ?_
    refine q_xget 8 d_D_promises_5 rfl fl_D_40 (by decide) rfl rfl ?_
    refine q_xcallP (as := [.ref 24]) (rest := []) 11 h (fun z e => t_Fo_promiseCount (by decide) e) (q_xinvV (Y := m_Fo_promiseCount) d_D_promises_8 ml_D_112 ms_Fo_promiseCount.1 ms_Fo_promiseCount.2 k_Fo_promiseCount.1 (by decide) n_Fo_promiseCount (by decide) rfl rfl) k_Fo_promiseCount (q_ro (by decide) (by decide)) (Nat.le_of_ble_eq_true rfl) d_D_promises_8 rfl rfl rfl (fun w3 ew3 h => ?_)
    cases h
    exact q_iret d_D_promises_11 rfl (Nat.zero_le _) (Nat.zero_le _)
set_option maxHeartbeats 4000000 in
set_option maxRecDepth 100000 in
theorem t_Wa_exists {E : q_E} {c d : Nat} {x : q_W} {ρ : Int32} (h : f_Wa_exists x = some ρ) : q_Ct E y_Wa_exists m_Wa_exists (q_rm 0) (q_cells E c d x) [.ref 11] (q_rP E c d x ρ) := by
  unfold f_Wa_exists at h
  refine q_Ct.of (lv := [(0, .ref 11)]) (by decide) ⟨rfl, rfl⟩ rfl (Nat.le_of_ble_eq_true rfl) ?_
  refine q_aloadn 1 d_Wa_exists_0 rfl 0 rfl ?_
  refine q_xget 4 d_Wa_exists_1 rfl fl_Wa_18 (by decide) rfl rfl ?_
  refine q_iconst (v := (-1)) 5 d_Wa_exists_4 rfl (by decide) ?_
  refine q_ite h (fun c1 h => ?_) (fun c1 h => ?_)
  · refine q_icmp_eq_t 12 d_Wa_exists_5 (by decide) c1 ?_
    refine q_iconst (v := 0) 13 d_Wa_exists_12 rfl (by decide) ?_
    cases h
    exact q_zret d_Wa_exists_13 rfl (Nat.zero_le _) (Nat.zero_le _)
  · refine q_icmp_eq_f 8 d_Wa_exists_5 rfl 12 (by decide) c1 ?_
    refine q_iconst (v := 1) 9 d_Wa_exists_8 rfl (by decide) ?_
    refine q_goto 13 d_Wa_exists_9 (by decide) ?_
    cases h
    exact q_zret d_Wa_exists_13 rfl (Nat.zero_le _) (Nat.zero_le _)
set_option maxHeartbeats 4000000 in
set_option maxRecDepth 100000 in
theorem t_D_can {E : q_E} {c d : Nat} (hcd : q_cd c d) {x : q_W} {ρ : (Int32 ⊕ Nat) × q_W} (h : f_D_can c d x = some ρ) : q_Ct E y_D_can m_D_can (q_rm 7) (q_cells E c d x) [.ref 0] (q_rT E c d false ρ) := by
  rcases hcd with ⟨rfl, rfl⟩ | ⟨rfl, rfl⟩
  · unfold f_D_can at h
    refine q_Ct.of (lv := [(0, .ref 0)]) (by decide) ⟨rfl, rfl⟩ rfl (Nat.le_of_ble_eq_true rfl) ?_
    refine q_aloadn 1 d_D_can_0 rfl 0 rfl ?_
    refine q_xcallPT (as := [.ref 0]) (rest := []) 4 h (fun z e => t_D_requireFormula (Or.inl ⟨rfl, rfl⟩) e) (q_xinvV (Y := m_D_requireFormula) d_D_can_1 ml_D_85 ms_D_requireFormula.1 ms_D_requireFormula.2 k_D_requireFormula.1 (by decide) n_D_requireFormula (by decide) rfl rfl) k_D_requireFormula (q_ro (by decide) (by decide)) (Nat.le_of_ble_eq_true rfl) d_D_can_1 rfl rfl rfl rfl (fun w1 ew1 h => ?_)
    refine q_aloadn 5 d_D_can_4 rfl 0 rfl ?_
    refine q_xcallV (as := [.ref 0]) (rest := []) 8 h (fun z e => t_D_settle (Or.inl ⟨rfl, rfl⟩) e) (q_xinvV (Y := m_D_settle) d_D_can_5 ml_D_105 ms_D_settle.1 ms_D_settle.2 k_D_settle.1 (by decide) n_D_settle (by decide) rfl rfl) k_D_settle (q_ro (by decide) (by decide)) (Nat.le_of_ble_eq_true rfl) d_D_can_5 rfl rfl rfl (fun x3 ex3 h => ?_)
    refine q_aloadn 9 d_D_can_8 rfl 0 rfl ?_
    refine q_xget 12 d_D_can_9 rfl fl_D_26 (by decide) rfl rfl ?_
    refine q_xcallP (as := [.ref 11]) (rest := []) 15 h (fun z e => t_Wa_exists e) (q_xinvV (Y := m_Wa_exists) d_D_can_12 ml_D_115 ms_Wa_exists.1 ms_Wa_exists.2 k_Wa_exists.1 (by decide) n_Wa_exists (by decide) rfl rfl) k_Wa_exists (q_ro (by decide) (by decide)) (Nat.le_of_ble_eq_true rfl) d_D_can_12 rfl rfl rfl (fun w4 ew4 h => ?_)
    cases h
    exact q_zret d_D_can_15 rfl (Nat.zero_le _) (Nat.zero_le _)
  · unfold f_D_can at h
    refine q_Ct.of (lv := [(0, .ref 0)]) (by decide) ⟨rfl, rfl⟩ rfl (Nat.le_of_ble_eq_true rfl) ?_
    refine q_aloadn 1 d_D_can_0 rfl 0 rfl ?_
    refine q_xcallPT (as := [.ref 0]) (rest := []) 4 h (fun z e => t_D_requireFormula (Or.inr ⟨rfl, rfl⟩) e) (q_xinvV (Y := m_D_requireFormula) d_D_can_1 ml_D_85 ms_D_requireFormula.1 ms_D_requireFormula.2 k_D_requireFormula.1 (by decide) n_D_requireFormula (by decide) rfl rfl) k_D_requireFormula (q_ro (by decide) (by decide)) (Nat.le_of_ble_eq_true rfl) d_D_can_1 rfl rfl rfl rfl (fun w1 ew1 h => ?_)
    refine q_aloadn 5 d_D_can_4 rfl 0 rfl ?_
    refine q_xcallV (as := [.ref 0]) (rest := []) 8 h (fun z e => t_D_settle (Or.inr ⟨rfl, rfl⟩) e) (q_xinvV (Y := m_D_settle) d_D_can_5 ml_D_105 ms_D_settle.1 ms_D_settle.2 k_D_settle.1 (by decide) n_D_settle (by decide) rfl rfl) k_D_settle (q_ro (by decide) (by decide)) (Nat.le_of_ble_eq_true rfl) d_D_can_5 rfl rfl rfl (fun x3 ex3 h => ?_)
    refine q_aloadn 9 d_D_can_8 rfl 0 rfl ?_
    refine q_xget 12 d_D_can_9 rfl fl_D_26 (by decide) rfl rfl ?_
    refine q_xcallP (as := [.ref 11]) (rest := []) 15 h (fun z e => t_Wa_exists e) (q_xinvV (Y := m_Wa_exists) d_D_can_12 ml_D_115 ms_Wa_exists.1 ms_Wa_exists.2 k_Wa_exists.1 (by decide) n_Wa_exists (by decide) rfl rfl) k_Wa_exists (q_ro (by decide) (by decide)) (Nat.le_of_ble_eq_true rfl) d_D_can_12 rfl rfl rfl (fun w4 ew4 h => ?_)
    cases h
    exact q_zret d_D_can_15 rfl (Nat.zero_le _) (Nat.zero_le _)
set_option maxHeartbeats 4000000 in
set_option maxRecDepth 100000 in
theorem t_Wa_stemLength {E : q_E} {c d : Nat} {x : q_W} {ρ : Int32} (h : f_Wa_stemLength x = some ρ) : q_Ct E y_Wa_stemLength m_Wa_stemLength (q_rm 0) (q_cells E c d x) [.ref 11] (q_rP E c d x ρ) := by
  unfold f_Wa_stemLength at h
  refine q_Ct.of (lv := [(0, .ref 11)]) (by decide) ⟨rfl, rfl⟩ rfl (Nat.le_of_ble_eq_true rfl) ?_
  refine q_aloadn 1 d_Wa_stemLength_0 rfl 0 rfl ?_
  refine q_xget 4 d_Wa_stemLength_1 rfl fl_Wa_18 (by decide) rfl rfl ?_
  cases h
  exact q_iret d_Wa_stemLength_4 rfl (Nat.zero_le _) (Nat.zero_le _)
set_option maxHeartbeats 4000000 in
set_option maxRecDepth 100000 in
theorem t_D_stem {E : q_E} {c d : Nat} (hcd : q_cd c d) {x : q_W} {ρ : (Int32 ⊕ Nat) × q_W} (h : f_D_stem c d x = some ρ) : q_Ct E y_D_stem m_D_stem (q_rm 7) (q_cells E c d x) [.ref 0] (q_rT E c d false ρ) := by
  rcases hcd with ⟨rfl, rfl⟩ | ⟨rfl, rfl⟩
  · unfold f_D_stem at h
    refine q_Ct.of (lv := [(0, .ref 0)]) (by decide) ⟨rfl, rfl⟩ rfl (Nat.le_of_ble_eq_true rfl) ?_
    refine q_aloadn 1 d_D_stem_0 rfl 0 rfl ?_
    refine q_xcallPT (as := [.ref 0]) (rest := []) 4 h (fun z e => t_D_requireFormula (Or.inl ⟨rfl, rfl⟩) e) (q_xinvV (Y := m_D_requireFormula) d_D_stem_1 ml_D_85 ms_D_requireFormula.1 ms_D_requireFormula.2 k_D_requireFormula.1 (by decide) n_D_requireFormula (by decide) rfl rfl) k_D_requireFormula (q_ro (by decide) (by decide)) (Nat.le_of_ble_eq_true rfl) d_D_stem_1 rfl rfl rfl rfl (fun w1 ew1 h => ?_)
    refine q_aloadn 5 d_D_stem_4 rfl 0 rfl ?_
    refine q_xcallV (as := [.ref 0]) (rest := []) 8 h (fun z e => t_D_settle (Or.inl ⟨rfl, rfl⟩) e) (q_xinvV (Y := m_D_settle) d_D_stem_5 ml_D_105 ms_D_settle.1 ms_D_settle.2 k_D_settle.1 (by decide) n_D_settle (by decide) rfl rfl) k_D_settle (q_ro (by decide) (by decide)) (Nat.le_of_ble_eq_true rfl) d_D_stem_5 rfl rfl rfl (fun x3 ex3 h => ?_)
    refine q_aloadn 9 d_D_stem_8 rfl 0 rfl ?_
    refine q_xget 12 d_D_stem_9 rfl fl_D_26 (by decide) rfl rfl ?_
    refine q_xcallP (as := [.ref 11]) (rest := []) 15 h (fun z e => t_Wa_stemLength e) (q_xinvV (Y := m_Wa_stemLength) d_D_stem_12 ml_D_119 ms_Wa_stemLength.1 ms_Wa_stemLength.2 k_Wa_stemLength.1 (by decide) n_Wa_stemLength (by decide) rfl rfl) k_Wa_stemLength (q_ro (by decide) (by decide)) (Nat.le_of_ble_eq_true rfl) d_D_stem_12 rfl rfl rfl (fun w4 ew4 h => ?_)
    cases h
    exact q_iret d_D_stem_15 rfl (Nat.zero_le _) (Nat.zero_le _)
  · unfold f_D_stem at h
    refine q_Ct.of (lv := [(0, .ref 0)]) (by decide) ⟨rfl, rfl⟩ rfl (Nat.le_of_ble_eq_true rfl) ?_
    refine q_aloadn 1 d_D_stem_0 rfl 0 rfl ?_
    refine q_xcallPT (as := [.ref 0]) (rest := []) 4 h (fun z e => t_D_requireFormula (Or.inr ⟨rfl, rfl⟩) e) (q_xinvV (Y := m_D_requireFormula) d_D_stem_1 ml_D_85 ms_D_requireFormula.1 ms_D_requireFormula.2 k_D_requireFormula.1 (by decide) n_D_requireFormula (by decide) rfl rfl) k_D_requireFormula (q_ro (by decide) (by decide)) (Nat.le_of_ble_eq_true rfl) d_D_stem_1 rfl rfl rfl rfl (fun w1 ew1 h => ?_)
    refine q_aloadn 5 d_D_stem_4 rfl 0 rfl ?_
    refine q_xcallV (as := [.ref 0]) (rest := []) 8 h (fun z e => t_D_settle (Or.inr ⟨rfl, rfl⟩) e) (q_xinvV (Y := m_D_settle) d_D_stem_5 ml_D_105 ms_D_settle.1 ms_D_settle.2 k_D_settle.1 (by decide) n_D_settle (by decide) rfl rfl) k_D_settle (q_ro (by decide) (by decide)) (Nat.le_of_ble_eq_true rfl) d_D_stem_5 rfl rfl rfl (fun x3 ex3 h => ?_)
    refine q_aloadn 9 d_D_stem_8 rfl 0 rfl ?_
    refine q_xget 12 d_D_stem_9 rfl fl_D_26 (by decide) rfl rfl ?_
    refine q_xcallP (as := [.ref 11]) (rest := []) 15 h (fun z e => t_Wa_stemLength e) (q_xinvV (Y := m_Wa_stemLength) d_D_stem_12 ml_D_119 ms_Wa_stemLength.1 ms_Wa_stemLength.2 k_Wa_stemLength.1 (by decide) n_Wa_stemLength (by decide) rfl rfl) k_Wa_stemLength (q_ro (by decide) (by decide)) (Nat.le_of_ble_eq_true rfl) d_D_stem_12 rfl rfl rfl (fun w4 ew4 h => ?_)
    cases h
    exact q_iret d_D_stem_15 rfl (Nat.zero_le _) (Nat.zero_le _)
set_option maxHeartbeats 4000000 in
set_option maxRecDepth 100000 in
theorem t_Wa_loopLength {E : q_E} {c d : Nat} {x : q_W} {ρ : Int32} (h : f_Wa_loopLength x = some ρ) : q_Ct E y_Wa_loopLength m_Wa_loopLength (q_rm 0) (q_cells E c d x) [.ref 11] (q_rP E c d x ρ) := by
  unfold f_Wa_loopLength at h
  refine q_Ct.of (lv := [(0, .ref 11)]) (by decide) ⟨rfl, rfl⟩ rfl (Nat.le_of_ble_eq_true rfl) ?_
  refine q_aloadn 1 d_Wa_loopLength_0 rfl 0 rfl ?_
  refine q_xget 4 d_Wa_loopLength_1 rfl fl_Wa_22 (by decide) rfl rfl ?_
  cases h
  exact q_iret d_Wa_loopLength_4 rfl (Nat.zero_le _) (Nat.zero_le _)
set_option maxHeartbeats 4000000 in
set_option maxRecDepth 100000 in
theorem t_D_loop {E : q_E} {c d : Nat} (hcd : q_cd c d) {x : q_W} {ρ : (Int32 ⊕ Nat) × q_W} (h : f_D_loop c d x = some ρ) : q_Ct E y_D_loop m_D_loop (q_rm 7) (q_cells E c d x) [.ref 0] (q_rT E c d false ρ) := by
  rcases hcd with ⟨rfl, rfl⟩ | ⟨rfl, rfl⟩
  · unfold f_D_loop at h
    refine q_Ct.of (lv := [(0, .ref 0)]) (by decide) ⟨rfl, rfl⟩ rfl (Nat.le_of_ble_eq_true rfl) ?_
    refine q_aloadn 1 d_D_loop_0 rfl 0 rfl ?_
    refine q_xcallPT (as := [.ref 0]) (rest := []) 4 h (fun z e => t_D_requireFormula (Or.inl ⟨rfl, rfl⟩) e) (q_xinvV (Y := m_D_requireFormula) d_D_loop_1 ml_D_85 ms_D_requireFormula.1 ms_D_requireFormula.2 k_D_requireFormula.1 (by decide) n_D_requireFormula (by decide) rfl rfl) k_D_requireFormula (q_ro (by decide) (by decide)) (Nat.le_of_ble_eq_true rfl) d_D_loop_1 rfl rfl rfl rfl (fun w1 ew1 h => ?_)
    refine q_aloadn 5 d_D_loop_4 rfl 0 rfl ?_
    refine q_xcallV (as := [.ref 0]) (rest := []) 8 h (fun z e => t_D_settle (Or.inl ⟨rfl, rfl⟩) e) (q_xinvV (Y := m_D_settle) d_D_loop_5 ml_D_105 ms_D_settle.1 ms_D_settle.2 k_D_settle.1 (by decide) n_D_settle (by decide) rfl rfl) k_D_settle (q_ro (by decide) (by decide)) (Nat.le_of_ble_eq_true rfl) d_D_loop_5 rfl rfl rfl (fun x3 ex3 h => ?_)
    refine q_aloadn 9 d_D_loop_8 rfl 0 rfl ?_
    refine q_xget 12 d_D_loop_9 rfl fl_D_26 (by decide) rfl rfl ?_
    refine q_xcallP (as := [.ref 11]) (rest := []) 15 h (fun z e => t_Wa_loopLength e) (q_xinvV (Y := m_Wa_loopLength) d_D_loop_12 ml_D_122 ms_Wa_loopLength.1 ms_Wa_loopLength.2 k_Wa_loopLength.1 (by decide) n_Wa_loopLength (by decide) rfl rfl) k_Wa_loopLength (q_ro (by decide) (by decide)) (Nat.le_of_ble_eq_true rfl) d_D_loop_12 rfl rfl rfl (fun w4 ew4 h => ?_)
    cases h
    exact q_iret d_D_loop_15 rfl (Nat.zero_le _) (Nat.zero_le _)
  · unfold f_D_loop at h
    refine q_Ct.of (lv := [(0, .ref 0)]) (by decide) ⟨rfl, rfl⟩ rfl (Nat.le_of_ble_eq_true rfl) ?_
    refine q_aloadn 1 d_D_loop_0 rfl 0 rfl ?_
    refine q_xcallPT (as := [.ref 0]) (rest := []) 4 h (fun z e => t_D_requireFormula (Or.inr ⟨rfl, rfl⟩) e) (q_xinvV (Y := m_D_requireFormula) d_D_loop_1 ml_D_85 ms_D_requireFormula.1 ms_D_requireFormula.2 k_D_requireFormula.1 (by decide) n_D_requireFormula (by decide) rfl rfl) k_D_requireFormula (q_ro (by decide) (by decide)) (Nat.le_of_ble_eq_true rfl) d_D_loop_1 rfl rfl rfl rfl (fun w1 ew1 h => ?_)
    refine q_aloadn 5 d_D_loop_4 rfl 0 rfl ?_
    refine q_xcallV (as := [.ref 0]) (rest := []) 8 h (fun z e => t_D_settle (Or.inr ⟨rfl, rfl⟩) e) (q_xinvV (Y := m_D_settle) d_D_loop_5 ml_D_105 ms_D_settle.1 ms_D_settle.2 k_D_settle.1 (by decide) n_D_settle (by decide) rfl rfl) k_D_settle (q_ro (by decide) (by decide)) (Nat.le_of_ble_eq_true rfl) d_D_loop_5 rfl rfl rfl (fun x3 ex3 h => ?_)
    refine q_aloadn 9 d_D_loop_8 rfl 0 rfl ?_
    refine q_xget 12 d_D_loop_9 rfl fl_D_26 (by decide) rfl rfl ?_
    refine q_xcallP (as := [.ref 11]) (rest := []) 15 h (fun z e => t_Wa_loopLength e) (q_xinvV (Y := m_Wa_loopLength) d_D_loop_12 ml_D_122 ms_Wa_loopLength.1 ms_Wa_loopLength.2 k_Wa_loopLength.1 (by decide) n_Wa_loopLength (by decide) rfl rfl) k_Wa_loopLength (q_ro (by decide) (by decide)) (Nat.le_of_ble_eq_true rfl) d_D_loop_12 rfl rfl rfl (fun w4 ew4 h => ?_)
    cases h
    exact q_iret d_D_loop_15 rfl (Nat.zero_le _) (Nat.zero_le _)
set_option maxHeartbeats 4000000 in
set_option maxRecDepth 100000 in
theorem t_Wa_size {E : q_E} {c d : Nat} {x : q_W} {ρ : Int32} (h : f_Wa_size x = some ρ) : q_Ct E y_Wa_size m_Wa_size (q_rm 1) (q_cells E c d x) [.ref 11] (q_rP E c d x ρ) := by
  unfold f_Wa_size at h
  refine q_Ct.of (lv := [(0, .ref 11)]) (by decide) ⟨rfl, rfl⟩ rfl (Nat.le_of_ble_eq_true rfl) ?_
  refine q_aloadn 1 d_Wa_size_0 rfl 0 rfl ?_
  refine q_xcallP (as := [.ref 11]) (rest := []) 4 h (fun z e => t_Wa_exists e) (q_xinvV (Y := m_Wa_exists) d_Wa_size_1 ml_Wa_44 ms_Wa_exists.1 ms_Wa_exists.2 k_Wa_exists.1 (by decide) n_Wa_exists (by decide) rfl rfl) k_Wa_exists (q_ro (by decide) (by decide)) (Nat.le_of_ble_eq_true rfl) d_Wa_size_1 rfl rfl rfl (fun w1 ew1 h => ?_)
  refine q_ite h (fun c2 h => ?_) (fun c2 h => ?_)
  · refine q_if_eq_t 19 d_Wa_size_4 (by decide) c2 ?_
    refine q_iconst (v := 0) 20 d_Wa_size_19 rfl (by decide) ?_
    cases h
    exact q_iret d_Wa_size_20 rfl (Nat.zero_le _) (Nat.zero_le _)
  · refine q_if_eq_f 7 d_Wa_size_4 rfl 19 (by decide) c2 ?_
    refine q_aloadn 8 d_Wa_size_7 rfl 0 rfl ?_
    refine q_xget 11 d_Wa_size_8 rfl fl_Wa_18 (by decide) rfl rfl ?_
    refine q_aloadn 12 d_Wa_size_11 rfl 0 rfl ?_
    refine q_xget 15 d_Wa_size_12 rfl fl_Wa_22 (by decide) rfl rfl ?_
    refine q_iadd 16 d_Wa_size_15 rfl ?_
    refine q_goto 20 d_Wa_size_16 (by decide) ?_
    cases h
    exact q_iret d_Wa_size_20 rfl (Nat.zero_le _) (Nat.zero_le _)
set_option maxHeartbeats 4000000 in
set_option maxRecDepth 100000 in
theorem t_Wa_stateAt {E : q_E} {c d : Nat} {x : q_W} {a1 : Int32} {ρ : Int32} (h : f_Wa_stateAt x a1 = some ρ) : q_Ct E y_Wa_stateAt m_Wa_stateAt (q_rm 0) (q_cells E c d x) [.ref 11, .int a1] (q_rP E c d x ρ) := by
  unfold f_Wa_stateAt at h
  refine q_Ct.of (lv := [(0, .ref 11), (1, .int a1)]) (by decide) ⟨rfl, rfl⟩ rfl (Nat.le_of_ble_eq_true rfl) ?_
  refine q_aloadn 1 d_Wa_stateAt_0 rfl 0 rfl ?_
  refine q_xget 4 d_Wa_stateAt_1 rfl fl_Wa_11 (by decide) rfl rfl ?_
  refine q_iloadn 5 d_Wa_stateAt_4 rfl 1 rfl ?_
  refine q_xiald 6 d_Wa_stateAt_5 rfl (by decide) (fun _ => rfl) h (fun w1 ew1 h => ?_)
  cases h
  exact q_iret d_Wa_stateAt_6 rfl (Nat.zero_le _) (Nat.zero_le _)
set_option maxHeartbeats 4000000 in
set_option maxRecDepth 100000 in
theorem t_D_step {E : q_E} {c d : Nat} (hcd : q_cd c d) {x : q_W} {a1 : Int32} {ρ : (Int32 ⊕ Nat) × q_W} (h : f_D_step c d x a1 = some ρ) : q_Ct E y_D_step m_D_step (q_rm 7) (q_cells E c d x) [.ref 0, .int a1] (q_rT E c d false ρ) := by
  rcases hcd with ⟨rfl, rfl⟩ | ⟨rfl, rfl⟩
  · unfold f_D_step at h
    refine q_Ct.of (lv := [(0, .ref 0), (1, .int a1)]) (by decide) ⟨rfl, rfl⟩ rfl (Nat.le_of_ble_eq_true rfl) ?_
    refine q_aloadn 1 d_D_step_0 rfl 0 rfl ?_
    refine q_xcallPT (as := [.ref 0]) (rest := []) 4 h (fun z e => t_D_requireFormula (Or.inl ⟨rfl, rfl⟩) e) (q_xinvV (Y := m_D_requireFormula) d_D_step_1 ml_D_85 ms_D_requireFormula.1 ms_D_requireFormula.2 k_D_requireFormula.1 (by decide) n_D_requireFormula (by decide) rfl rfl) k_D_requireFormula (q_ro (by decide) (by decide)) (Nat.le_of_ble_eq_true rfl) d_D_step_1 rfl rfl rfl rfl (fun w1 ew1 h => ?_)
    refine q_aloadn 5 d_D_step_4 rfl 0 rfl ?_
    refine q_xcallV (as := [.ref 0]) (rest := []) 8 h (fun z e => t_D_settle (Or.inl ⟨rfl, rfl⟩) e) (q_xinvV (Y := m_D_settle) d_D_step_5 ml_D_105 ms_D_settle.1 ms_D_settle.2 k_D_settle.1 (by decide) n_D_settle (by decide) rfl rfl) k_D_settle (q_ro (by decide) (by decide)) (Nat.le_of_ble_eq_true rfl) d_D_step_5 rfl rfl rfl (fun x3 ex3 h => ?_)
    refine q_aloadn 9 d_D_step_8 rfl 0 rfl ?_
    refine q_xget 12 d_D_step_9 rfl fl_D_26 (by decide) rfl rfl ?_
    refine q_xcallP (as := [.ref 11]) (rest := []) 15 h (fun z e => t_Wa_exists e) (q_xinvV (Y := m_Wa_exists) d_D_step_12 ml_D_115 ms_Wa_exists.1 ms_Wa_exists.2 k_Wa_exists.1 (by decide) n_Wa_exists (by decide) rfl rfl) k_Wa_exists (q_ro (by decide) (by decide)) (Nat.le_of_ble_eq_true rfl) d_D_step_12 rfl rfl rfl (fun w4 ew4 h => ?_)
    refine q_ite h (fun c9 h => ?_) (fun c9 h => ?_)
    · refine q_if_ne_t 28 d_D_step_15 (by decide) c9 ?_
      refine q_iloadn 29 d_D_step_28 rfl 1 rfl ?_
      refine q_ite h (fun c8 h => ?_) (fun c8 h => ?_)
      · refine q_if_lt_t 43 d_D_step_29 (by decide) c8 ?_
        cases h
        exact q_throw_D_step_43
      · refine q_if_lt_f 32 d_D_step_29 rfl 43 (by decide) c8 ?_
        refine q_iloadn 33 d_D_step_32 rfl 1 rfl ?_
        refine q_aloadn 34 d_D_step_33 rfl 0 rfl ?_
        refine q_xget 37 d_D_step_34 rfl fl_D_26 (by decide) rfl rfl ?_
        refine q_xcallP (as := [.ref 11]) (rest := [.int a1]) 40 h (fun z e => t_Wa_size e) (q_xinvV (Y := m_Wa_size) d_D_step_37 ml_D_130 ms_Wa_size.1 ms_Wa_size.2 k_Wa_size.1 (by decide) n_Wa_size (by decide) rfl rfl) k_Wa_size (q_ro (by decide) (by decide)) (Nat.le_of_ble_eq_true rfl) d_D_step_37 rfl rfl rfl (fun w5 ew5 h => ?_)
        refine q_ite h (fun c7 h => ?_) (fun c7 h => ?_)
        · refine q_icmp_lt_t 53 d_D_step_40 (by decide) c7 ?_
          refine q_aloadn 54 d_D_step_53 rfl 0 rfl ?_
          refine q_xget 57 d_D_step_54 rfl fl_D_26 (by decide) rfl rfl ?_
          refine q_iloadn 58 d_D_step_57 rfl 1 rfl ?_
          refine q_xcallP (as := [.ref 11, .int a1]) (rest := []) 61 h (fun z e => t_Wa_stateAt e) (q_xinvV (Y := m_Wa_stateAt) d_D_step_58 ml_D_136 ms_Wa_stateAt.1 ms_Wa_stateAt.2 k_Wa_stateAt.1 (by decide) n_Wa_stateAt (by decide) rfl rfl) k_Wa_stateAt (q_ro (by decide) (by decide)) (Nat.le_of_ble_eq_true rfl) d_D_step_58 rfl rfl rfl (fun w6 ew6 h => ?_)
          cases h
          exact q_iret d_D_step_61 rfl (Nat.zero_le _) (Nat.zero_le _)
        · refine q_icmp_lt_f 43 d_D_step_40 rfl 53 (by decide) c7 ?_
          cases h
          exact q_throw_D_step_43
    · refine q_if_ne_f 18 d_D_step_15 rfl 28 (by decide) (Classical.not_not.mp c9) ?_
      cases h
      exact q_throw_D_step_18
  · unfold f_D_step at h
    refine q_Ct.of (lv := [(0, .ref 0), (1, .int a1)]) (by decide) ⟨rfl, rfl⟩ rfl (Nat.le_of_ble_eq_true rfl) ?_
    refine q_aloadn 1 d_D_step_0 rfl 0 rfl ?_
    refine q_xcallPT (as := [.ref 0]) (rest := []) 4 h (fun z e => t_D_requireFormula (Or.inr ⟨rfl, rfl⟩) e) (q_xinvV (Y := m_D_requireFormula) d_D_step_1 ml_D_85 ms_D_requireFormula.1 ms_D_requireFormula.2 k_D_requireFormula.1 (by decide) n_D_requireFormula (by decide) rfl rfl) k_D_requireFormula (q_ro (by decide) (by decide)) (Nat.le_of_ble_eq_true rfl) d_D_step_1 rfl rfl rfl rfl (fun w1 ew1 h => ?_)
    refine q_aloadn 5 d_D_step_4 rfl 0 rfl ?_
    refine q_xcallV (as := [.ref 0]) (rest := []) 8 h (fun z e => t_D_settle (Or.inr ⟨rfl, rfl⟩) e) (q_xinvV (Y := m_D_settle) d_D_step_5 ml_D_105 ms_D_settle.1 ms_D_settle.2 k_D_settle.1 (by decide) n_D_settle (by decide) rfl rfl) k_D_settle (q_ro (by decide) (by decide)) (Nat.le_of_ble_eq_true rfl) d_D_step_5 rfl rfl rfl (fun x3 ex3 h => ?_)
    refine q_aloadn 9 d_D_step_8 rfl 0 rfl ?_
    refine q_xget 12 d_D_step_9 rfl fl_D_26 (by decide) rfl rfl ?_
    refine q_xcallP (as := [.ref 11]) (rest := []) 15 h (fun z e => t_Wa_exists e) (q_xinvV (Y := m_Wa_exists) d_D_step_12 ml_D_115 ms_Wa_exists.1 ms_Wa_exists.2 k_Wa_exists.1 (by decide) n_Wa_exists (by decide) rfl rfl) k_Wa_exists (q_ro (by decide) (by decide)) (Nat.le_of_ble_eq_true rfl) d_D_step_12 rfl rfl rfl (fun w4 ew4 h => ?_)
    refine q_ite h (fun c9 h => ?_) (fun c9 h => ?_)
    · refine q_if_ne_t 28 d_D_step_15 (by decide) c9 ?_
      refine q_iloadn 29 d_D_step_28 rfl 1 rfl ?_
      refine q_ite h (fun c8 h => ?_) (fun c8 h => ?_)
      · refine q_if_lt_t 43 d_D_step_29 (by decide) c8 ?_
        cases h
        exact q_throw_D_step_43
      · refine q_if_lt_f 32 d_D_step_29 rfl 43 (by decide) c8 ?_
        refine q_iloadn 33 d_D_step_32 rfl 1 rfl ?_
        refine q_aloadn 34 d_D_step_33 rfl 0 rfl ?_
        refine q_xget 37 d_D_step_34 rfl fl_D_26 (by decide) rfl rfl ?_
        refine q_xcallP (as := [.ref 11]) (rest := [.int a1]) 40 h (fun z e => t_Wa_size e) (q_xinvV (Y := m_Wa_size) d_D_step_37 ml_D_130 ms_Wa_size.1 ms_Wa_size.2 k_Wa_size.1 (by decide) n_Wa_size (by decide) rfl rfl) k_Wa_size (q_ro (by decide) (by decide)) (Nat.le_of_ble_eq_true rfl) d_D_step_37 rfl rfl rfl (fun w5 ew5 h => ?_)
        refine q_ite h (fun c7 h => ?_) (fun c7 h => ?_)
        · refine q_icmp_lt_t 53 d_D_step_40 (by decide) c7 ?_
          refine q_aloadn 54 d_D_step_53 rfl 0 rfl ?_
          refine q_xget 57 d_D_step_54 rfl fl_D_26 (by decide) rfl rfl ?_
          refine q_iloadn 58 d_D_step_57 rfl 1 rfl ?_
          refine q_xcallP (as := [.ref 11, .int a1]) (rest := []) 61 h (fun z e => t_Wa_stateAt e) (q_xinvV (Y := m_Wa_stateAt) d_D_step_58 ml_D_136 ms_Wa_stateAt.1 ms_Wa_stateAt.2 k_Wa_stateAt.1 (by decide) n_Wa_stateAt (by decide) rfl rfl) k_Wa_stateAt (q_ro (by decide) (by decide)) (Nat.le_of_ble_eq_true rfl) d_D_step_58 rfl rfl rfl (fun w6 ew6 h => ?_)
          cases h
          exact q_iret d_D_step_61 rfl (Nat.zero_le _) (Nat.zero_le _)
        · refine q_icmp_lt_f 43 d_D_step_40 rfl 53 (by decide) c7 ?_
          cases h
          exact q_throw_D_step_43
    · refine q_if_ne_f 18 d_D_step_15 rfl 28 (by decide) (Classical.not_not.mp c9) ?_
      cases h
      exact q_throw_D_step_18
