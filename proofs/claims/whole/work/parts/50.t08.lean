set_option maxHeartbeats 4000000 in
set_option maxRecDepth 100000 in
theorem t_Mo_isDue {E : q_E} {c d : Nat} {x : q_W} {a1 : Int32} {a2 : Int32} {ρ : Int32} (h : f_Mo_isDue x a1 a2 = some ρ) : q_Ct E y_Mo_isDue m_Mo_isDue (q_rm 0) (q_cells E c d x) [.ref 32, .int a1, .int a2] (q_rP E c d x ρ) := by
  unfold f_Mo_isDue at h
  refine q_Ct.of (lv := [(0, .ref 32), (1, .int a1), (2, .int a2)]) (by decide) ⟨rfl, rfl⟩ rfl (Nat.le_of_ble_eq_true rfl) ?_
  refine q_aloadn 1 d_Mo_isDue_0 rfl 0 rfl ?_
  refine q_xget 4 d_Mo_isDue_1 rfl fl_Mo_56 (by decide) rfl rfl ?_
  refine q_iloadn 5 d_Mo_isDue_4 rfl 2 rfl ?_
  refine q_xiald 6 d_Mo_isDue_5 rfl (by decide) (fun _ => rfl) h (fun w1 ew1 h => ?_)
  refine q_iloadn 7 d_Mo_isDue_6 rfl 1 rfl ?_
  refine q_ishr 8 d_Mo_isDue_7 rfl ?_
  refine q_iconst (v := 1) 9 d_Mo_isDue_8 rfl (by decide) ?_
  refine q_iand 10 d_Mo_isDue_9 rfl ?_
  refine q_iconst (v := 1) 11 d_Mo_isDue_10 rfl (by decide) ?_
  refine q_ite h (fun c4 h => ?_) (fun c4 h => ?_)
  · refine q_icmp_ne_t 31 d_Mo_isDue_11 (by decide) c4 ?_
    refine q_iconst (v := 0) 32 d_Mo_isDue_31 rfl (by decide) ?_
    cases h
    exact q_zret d_Mo_isDue_32 rfl (Nat.zero_le _) (Nat.zero_le _)
  · refine q_icmp_ne_f 14 d_Mo_isDue_11 rfl 31 (by decide) (Classical.not_not.mp c4) ?_
    refine q_aloadn 15 d_Mo_isDue_14 rfl 0 rfl ?_
    refine q_xget 18 d_Mo_isDue_15 rfl fl_Mo_59 (by decide) rfl rfl ?_
    refine q_iloadn 19 d_Mo_isDue_18 rfl 2 rfl ?_
    refine q_xiald 20 d_Mo_isDue_19 rfl (by decide) (fun _ => rfl) h (fun w2 ew2 h => ?_)
    refine q_iloadn 21 d_Mo_isDue_20 rfl 1 rfl ?_
    refine q_ishr 22 d_Mo_isDue_21 rfl ?_
    refine q_iconst (v := 1) 23 d_Mo_isDue_22 rfl (by decide) ?_
    refine q_iand 24 d_Mo_isDue_23 rfl ?_
    refine q_ite h (fun c3 h => ?_) (fun c3 h => ?_)
    · refine q_if_ne_t 31 d_Mo_isDue_24 (by decide) c3 ?_
      refine q_iconst (v := 0) 32 d_Mo_isDue_31 rfl (by decide) ?_
      cases h
      exact q_zret d_Mo_isDue_32 rfl (Nat.zero_le _) (Nat.zero_le _)
    · refine q_if_ne_f 27 d_Mo_isDue_24 rfl 31 (by decide) (Classical.not_not.mp c3) ?_
      refine q_iconst (v := 1) 28 d_Mo_isDue_27 rfl (by decide) ?_
      refine q_goto 32 d_Mo_isDue_28 (by decide) ?_
      cases h
      exact q_zret d_Mo_isDue_32 rfl (Nat.zero_le _) (Nat.zero_le _)
set_option maxHeartbeats 4000000 in
set_option maxRecDepth 100000 in
theorem t_Mo_dutyAt_L2 {E : q_E} {c d : Nat} {ρ : Int32} : ∀ (n : Nat) (x : q_W) (v1 : Int32) (v2 : Int32) (v3 : Int32), f_Mo_dutyAt_L2  n x v1 v2 v3 = some ρ → AW E (q_rm 1) m_Mo_dutyAt (q_cells E c d x) 0 0 2 [(0, .ref 32), (1, .int v1), (2, .int v2), (3, .int v3)] [] (q_rP E c d x ρ) := by
  intro n
  induction n with
  | zero =>
    intro x v1 v2 v3 h
    have h : (none : Option Int32) = some ρ := h
    cases h
  | succ n ih =>
    intro x v1 v2 v3 h
    unfold f_Mo_dutyAt_L2 at h
    refine q_iloadn 3 d_Mo_dutyAt_2 rfl 3 rfl ?_
    refine q_aloadn 4 d_Mo_dutyAt_3 rfl 0 rfl ?_
    refine q_xget 7 d_Mo_dutyAt_4 rfl fl_Mo_156 (by decide) rfl rfl ?_
    refine q_ite h (fun c4 h => ?_) (fun c4 h => ?_)
    · refine q_icmp_ge_t 39 d_Mo_dutyAt_7 (by decide) c4 ?_
      refine q_iloadn 40 d_Mo_dutyAt_39 rfl 2 rfl ?_
      cases h
      exact q_iret d_Mo_dutyAt_40 rfl (Nat.zero_le _) (Nat.zero_le _)
    · refine q_icmp_ge_f 10 d_Mo_dutyAt_7 rfl 39 (by decide) c4 ?_
      refine q_iloadn 11 d_Mo_dutyAt_10 rfl 2 rfl ?_
      refine q_iloadn 12 d_Mo_dutyAt_11 rfl 3 rfl ?_
      refine q_iadd 13 d_Mo_dutyAt_12 rfl ?_
      refine q_aloadn 14 d_Mo_dutyAt_13 rfl 0 rfl ?_
      refine q_xget 17 d_Mo_dutyAt_14 rfl fl_Mo_156 (by decide) rfl rfl ?_
      refine q_ite h (fun c0 h => absurd h (fun q => nomatch q)) (fun c0 h => ?_)
      refine q_irem 18 d_Mo_dutyAt_17 rfl c0 ?_
      refine q_xtop h (fun z1 ez1 h => ?_)
      refine q_istore (lv' := [(4, .int z1), (0, .ref 32), (1, .int v1), (2, .int v2), (3, .int v3)]) 20 d_Mo_dutyAt_18 rfl (by decide) rfl ?_
      refine q_aloadn 21 d_Mo_dutyAt_20 rfl 1 rfl ?_
      refine q_iload 23 d_Mo_dutyAt_21 rfl 0 rfl ?_
      refine q_iloadn 24 d_Mo_dutyAt_23 rfl 2 rfl ?_
      refine q_xcallP (as := [.ref 32, .int z1, .int v1]) (rest := []) 27 h (fun z e => t_Mo_isDue e) (q_xinvV (Y := m_Mo_isDue) d_Mo_dutyAt_24 ml_Mo_184 ms_Mo_isDue.1 ms_Mo_isDue.2 k_Mo_isDue.1 (by decide) n_Mo_isDue (by decide) rfl rfl) k_Mo_isDue (q_ro (by decide) (by decide)) (Nat.le_of_ble_eq_true rfl) d_Mo_dutyAt_24 rfl rfl rfl (fun w2 ew2 h => ?_)
      refine q_ite h (fun c3 h => ?_) (fun c3 h => ?_)
      · refine q_if_eq_t 33 d_Mo_dutyAt_27 (by decide) c3 ?_
        refine q_iinc (v := (v3 + 1)) (lv' := [(3, .int (v3 + 1)), (4, .int z1), (0, .ref 32), (1, .int v1), (2, .int v2)]) 36 d_Mo_dutyAt_33 rfl 4 rfl (q_ai (by decide)) (by decide) rfl ?_
        refine q_goto 2 d_Mo_dutyAt_36 (by decide) ?_
        refine q_sub (lv' := [(0, .ref 32), (1, .int v1), (2, .int v2), (3, .int (v3 + 1))]) [2, 3, 4, 0] rfl ?_
        exact ih _ _ _ _ h
      · refine q_if_eq_f 30 d_Mo_dutyAt_27 rfl 33 (by decide) c3 ?_
        refine q_iload 32 d_Mo_dutyAt_30 rfl 0 rfl ?_
        cases h
        exact q_iret d_Mo_dutyAt_32 rfl (Nat.zero_le _) (Nat.zero_le _)
set_option maxHeartbeats 4000000 in
set_option maxRecDepth 100000 in
theorem t_Mo_dutyAt {E : q_E} {c d : Nat} {x : q_W} {a1 : Int32} {a2 : Int32} {ρ : Int32} (h : f_Mo_dutyAt x a1 a2 = some ρ) : q_Ct E y_Mo_dutyAt m_Mo_dutyAt (q_rm 1) (q_cells E c d x) [.ref 32, .int a1, .int a2] (q_rP E c d x ρ) := by
  unfold f_Mo_dutyAt at h
  refine q_Ct.of (lv := [(0, .ref 32), (1, .int a1), (2, .int a2)]) (by decide) ⟨rfl, rfl⟩ rfl (Nat.le_of_ble_eq_true rfl) ?_
  refine q_iconst (v := 0) 1 d_Mo_dutyAt_0 rfl (by decide) ?_
  refine q_istoren (lv' := [(3, .int 0), (0, .ref 32), (1, .int a1), (2, .int a2)]) 2 d_Mo_dutyAt_1 rfl (by decide) rfl ?_
  refine q_sub (lv' := [(0, .ref 32), (1, .int a1), (2, .int a2), (3, .int 0)]) [1, 2, 3, 0] rfl ?_
  exact t_Mo_dutyAt_L2  q_fu _ _ _ _ h
set_option maxHeartbeats 4000000 in
set_option maxRecDepth 100000 in
theorem t_Mo_firstState_L2 {E : q_E} {c d : Nat} {ρ : Int32} : ∀ (n : Nat) (x : q_W) (v1 : Int32), f_Mo_firstState_L2  n x v1 = some ρ → AW E (q_rm 1) m_Mo_firstState (q_cells E c d x) 0 0 2 [(0, .ref 32), (1, .int v1)] [] (q_rP E c d x ρ) := by
  intro n
  induction n with
  | zero =>
    intro x v1 h
    have h : (none : Option Int32) = some ρ := h
    cases h
  | succ n ih =>
    intro x v1 h
    unfold f_Mo_firstState_L2 at h
    refine q_iloadn 3 d_Mo_firstState_2 rfl 1 rfl ?_
    refine q_aloadn 4 d_Mo_firstState_3 rfl 0 rfl ?_
    refine q_xcallP (as := [.ref 32]) (rest := [.int v1]) 7 h (fun z e => t_Mo_count e) (q_xinvV (Y := m_Mo_count) d_Mo_firstState_4 ml_Mo_159 ms_Mo_count.1 ms_Mo_count.2 k_Mo_count.1 (by decide) n_Mo_count (by decide) rfl rfl) k_Mo_count (q_ro (by decide) (by decide)) (Nat.le_of_ble_eq_true rfl) d_Mo_firstState_4 rfl rfl rfl (fun w1 ew1 h => ?_)
    refine q_ite h (fun c6 h => ?_) (fun c6 h => ?_)
    · refine q_icmp_ge_t 36 d_Mo_firstState_7 (by decide) c6 ?_
      refine q_iconst (v := (-1)) 37 d_Mo_firstState_36 rfl (by decide) ?_
      cases h
      exact q_iret d_Mo_firstState_37 rfl (Nat.zero_le _) (Nat.zero_le _)
    · refine q_icmp_ge_f 10 d_Mo_firstState_7 rfl 36 (by decide) c6 ?_
      refine q_aloadn 11 d_Mo_firstState_10 rfl 0 rfl ?_
      refine q_xget 14 d_Mo_firstState_11 rfl fl_Mo_65 (by decide) rfl rfl ?_
      refine q_iloadn 15 d_Mo_firstState_14 rfl 1 rfl ?_
      refine q_xzald 16 d_Mo_firstState_15 rfl (by decide) (fun _ => rfl) h (fun w2 ew2 h => ?_)
      refine q_ite h (fun c5 h => ?_) (fun c5 h => ?_)
      · refine q_if_eq_t 30 d_Mo_firstState_16 (by decide) c5 ?_
        refine q_iinc (v := (v1 + 1)) (lv' := [(1, .int (v1 + 1)), (0, .ref 32)]) 33 d_Mo_firstState_30 rfl 1 rfl (q_ai (by decide)) (by decide) rfl ?_
        refine q_goto 2 d_Mo_firstState_33 (by decide) ?_
        refine q_sub (lv' := [(0, .ref 32), (1, .int (v1 + 1))]) [1, 0] rfl ?_
        exact ih _ _ h
      · refine q_if_eq_f 19 d_Mo_firstState_16 rfl 30 (by decide) c5 ?_
        refine q_aloadn 20 d_Mo_firstState_19 rfl 0 rfl ?_
        refine q_xget 23 d_Mo_firstState_20 rfl fl_Mo_52 (by decide) rfl rfl ?_
        refine q_iloadn 24 d_Mo_firstState_23 rfl 1 rfl ?_
        refine q_xzald 25 d_Mo_firstState_24 rfl (by decide) (fun _ => rfl) h (fun w3 ew3 h => ?_)
        refine q_ite h (fun c4 h => ?_) (fun c4 h => ?_)
        · refine q_if_eq_t 30 d_Mo_firstState_25 (by decide) c4 ?_
          refine q_iinc (v := (v1 + 1)) (lv' := [(1, .int (v1 + 1)), (0, .ref 32)]) 33 d_Mo_firstState_30 rfl 1 rfl (q_ai (by decide)) (by decide) rfl ?_
          refine q_goto 2 d_Mo_firstState_33 (by decide) ?_
          refine q_sub (lv' := [(0, .ref 32), (1, .int (v1 + 1))]) [1, 0] rfl ?_
          exact ih _ _ h
        · refine q_if_eq_f 28 d_Mo_firstState_25 rfl 30 (by decide) c4 ?_
          refine q_iloadn 29 d_Mo_firstState_28 rfl 1 rfl ?_
          cases h
          exact q_iret d_Mo_firstState_29 rfl (Nat.zero_le _) (Nat.zero_le _)
set_option maxHeartbeats 4000000 in
set_option maxRecDepth 100000 in
theorem t_Mo_firstState {E : q_E} {c d : Nat} {x : q_W} {ρ : Int32} (h : f_Mo_firstState x = some ρ) : q_Ct E y_Mo_firstState m_Mo_firstState (q_rm 1) (q_cells E c d x) [.ref 32] (q_rP E c d x ρ) := by
  unfold f_Mo_firstState at h
  refine q_Ct.of (lv := [(0, .ref 32)]) (by decide) ⟨rfl, rfl⟩ rfl (Nat.le_of_ble_eq_true rfl) ?_
  refine q_iconst (v := 0) 1 d_Mo_firstState_0 rfl (by decide) ?_
  refine q_istoren (lv' := [(1, .int 0), (0, .ref 32)]) 2 d_Mo_firstState_1 rfl (by decide) rfl ?_
  refine q_sub (lv' := [(0, .ref 32), (1, .int 0)]) [1, 0] rfl ?_
  exact t_Mo_firstState_L2  q_fu _ _ h
set_option maxHeartbeats 4000000 in
set_option maxRecDepth 100000 in
theorem t_Mo_goes {E : q_E} {c d : Nat} {x : q_W} {a1 : Int32} {a2 : Int32} {ρ : Int32} (h : f_Mo_goes x a1 a2 = some ρ) : q_Ct E y_Mo_goes m_Mo_goes (q_rm 0) (q_cells E c d x) [.ref 32, .int a1, .int a2] (q_rP E c d x ρ) := by
  unfold f_Mo_goes at h
  refine q_Ct.of (lv := [(0, .ref 32), (1, .int a1), (2, .int a2)]) (by decide) ⟨rfl, rfl⟩ rfl (Nat.le_of_ble_eq_true rfl) ?_
  refine q_iloadn 1 d_Mo_goes_0 rfl 1 rfl ?_
  refine q_iconst (v := 3) 2 d_Mo_goes_1 rfl (by decide) ?_
  refine q_ishr 3 d_Mo_goes_2 rfl ?_
  refine q_aloadn 4 d_Mo_goes_3 rfl 0 rfl ?_
  refine q_xget 7 d_Mo_goes_4 rfl fl_Mo_49 (by decide) rfl rfl ?_
  refine q_iloadn 8 d_Mo_goes_7 rfl 2 rfl ?_
  refine q_xiald 9 d_Mo_goes_8 rfl (by decide) (fun _ => rfl) h (fun w1 ew1 h => ?_)
  refine q_ite h (fun c2 h => ?_) (fun c2 h => ?_)
  · refine q_icmp_ne_t 16 d_Mo_goes_9 (by decide) c2 ?_
    refine q_iconst (v := 0) 17 d_Mo_goes_16 rfl (by decide) ?_
    cases h
    exact q_zret d_Mo_goes_17 rfl (Nat.zero_le _) (Nat.zero_le _)
  · refine q_icmp_ne_f 12 d_Mo_goes_9 rfl 16 (by decide) (Classical.not_not.mp c2) ?_
    refine q_iconst (v := 1) 13 d_Mo_goes_12 rfl (by decide) ?_
    refine q_goto 17 d_Mo_goes_13 (by decide) ?_
    cases h
    exact q_zret d_Mo_goes_17 rfl (Nat.zero_le _) (Nat.zero_le _)
set_option maxHeartbeats 4000000 in
set_option maxRecDepth 100000 in
theorem t_Mo_nextOf_J62 {E : q_E} {c d : Nat} {ρ : Int32} {K32 : q_W → Int32 → Int32 → Int32 → Int32 → Int32 → Int32 → Option Int32} (hK32 : ∀ x v1 v2 v3 v4 v5 v6, K32 x v1 v2 v3 v4 v5 v6 = some ρ → AW E (q_rm 1) m_Mo_nextOf (q_cells E c d x) 0 0 32 [(0, .ref 32), (1, .int v1), (2, .int v2), (3, .int v3), (4, .int v4), (5, .int v5), (6, .int v6)] [] (q_rP E c d x ρ)) : ∀ (x : q_W) (v1 : Int32) (v2 : Int32) (v3 : Int32) (v4 : Int32) (v5 : Int32) (v6 : Int32) (s0 : Int32), f_Mo_nextOf_J62 K32 x v1 v2 v3 v4 v5 v6 s0 = some ρ → AW E (q_rm 1) m_Mo_nextOf (q_cells E c d x) 0 0 62 [(0, .ref 32), (1, .int v1), (2, .int v2), (3, .int v3), (4, .int v4), (5, .int v5), (6, .int v6)] [.int s0] (q_rP E c d x ρ) := by
  intro x v1 v2 v3 v4 v5 v6 s0 h
  unfold f_Mo_nextOf_J62 at h
  refine q_istore (lv' := [(7, .int s0), (0, .ref 32), (1, .int v1), (2, .int v2), (3, .int v3), (4, .int v4), (5, .int v5), (6, .int v6)]) 64 d_Mo_nextOf_62 rfl (by decide) rfl ?_
  refine q_aloadn 65 d_Mo_nextOf_64 rfl 1 rfl ?_
  refine q_xget 68 d_Mo_nextOf_65 rfl fl_Mo_65 (by decide) rfl rfl ?_
  refine q_iload 70 d_Mo_nextOf_68 rfl 7 rfl ?_
  refine q_xzald 71 d_Mo_nextOf_70 rfl (by decide) (fun _ => rfl) h (fun w8 ew8 h => ?_)
  refine q_ite h (fun c13 h => ?_) (fun c13 h => ?_)
  · refine q_if_eq_t 104 d_Mo_nextOf_71 (by decide) c13 ?_
    refine q_iinc (v := (v6 + 1)) (lv' := [(6, .int (v6 + 1)), (7, .int s0), (0, .ref 32), (1, .int v1), (2, .int v2), (3, .int v3), (4, .int v4), (5, .int v5)]) 107 d_Mo_nextOf_104 rfl 7 rfl (q_ai (by decide)) (by decide) rfl ?_
    refine q_goto 32 d_Mo_nextOf_107 (by decide) ?_
    refine q_sub (lv' := [(0, .ref 32), (1, .int v1), (2, .int v2), (3, .int v3), (4, .int v4), (5, .int v5), (6, .int (v6 + 1))]) [2, 3, 4, 5, 6, 7, 0] rfl ?_
    exact hK32 _ _ _ _ _ _ _ h
  · refine q_if_eq_f 74 d_Mo_nextOf_71 rfl 104 (by decide) c13 ?_
    refine q_aloadn 75 d_Mo_nextOf_74 rfl 1 rfl ?_
    refine q_iloadn 76 d_Mo_nextOf_75 rfl 2 rfl ?_
    refine q_iload 78 d_Mo_nextOf_76 rfl 7 rfl ?_
    refine q_xcallP (as := [.ref 32, .int v1, .int v6]) (rest := []) 81 h (fun z e => t_Mo_goes e) (q_xinvV (Y := m_Mo_goes) d_Mo_nextOf_78 ml_Mo_189 ms_Mo_goes.1 ms_Mo_goes.2 k_Mo_goes.1 (by decide) n_Mo_goes (by decide) rfl rfl) k_Mo_goes (q_ro (by decide) (by decide)) (Nat.le_of_ble_eq_true rfl) d_Mo_nextOf_78 rfl rfl rfl (fun w9 ew9 h => ?_)
    refine q_ite h (fun c12 h => ?_) (fun c12 h => ?_)
    · refine q_if_eq_t 104 d_Mo_nextOf_81 (by decide) c12 ?_
      refine q_iinc (v := (v6 + 1)) (lv' := [(6, .int (v6 + 1)), (7, .int s0), (0, .ref 32), (1, .int v1), (2, .int v2), (3, .int v3), (4, .int v4), (5, .int v5)]) 107 d_Mo_nextOf_104 rfl 7 rfl (q_ai (by decide)) (by decide) rfl ?_
      refine q_goto 32 d_Mo_nextOf_107 (by decide) ?_
      refine q_sub (lv' := [(0, .ref 32), (1, .int v1), (2, .int v2), (3, .int v3), (4, .int v4), (5, .int v5), (6, .int (v6 + 1))]) [2, 3, 4, 5, 6, 7, 0] rfl ?_
      exact hK32 _ _ _ _ _ _ _ h
    · refine q_if_eq_f 84 d_Mo_nextOf_81 rfl 104 (by decide) c12 ?_
      refine q_iload 86 d_Mo_nextOf_84 rfl 0 rfl ?_
      refine q_ite h (fun c11 h => ?_) (fun c11 h => ?_)
      · refine q_if_lt_t 104 d_Mo_nextOf_86 (by decide) c11 ?_
        refine q_iinc (v := (v6 + 1)) (lv' := [(6, .int (v6 + 1)), (7, .int s0), (0, .ref 32), (1, .int v1), (2, .int v2), (3, .int v3), (4, .int v4), (5, .int v5)]) 107 d_Mo_nextOf_104 rfl 7 rfl (q_ai (by decide)) (by decide) rfl ?_
        refine q_goto 32 d_Mo_nextOf_107 (by decide) ?_
        refine q_sub (lv' := [(0, .ref 32), (1, .int v1), (2, .int v2), (3, .int v3), (4, .int v4), (5, .int v5), (6, .int (v6 + 1))]) [2, 3, 4, 5, 6, 7, 0] rfl ?_
        exact hK32 _ _ _ _ _ _ _ h
      · refine q_if_lt_f 89 d_Mo_nextOf_86 rfl 104 (by decide) c11 ?_
        refine q_iload 91 d_Mo_nextOf_89 rfl 0 rfl ?_
        refine q_iload 93 d_Mo_nextOf_91 rfl 6 rfl ?_
        refine q_ite h (fun c10 h => ?_) (fun c10 h => ?_)
        · refine q_icmp_ge_t 104 d_Mo_nextOf_93 (by decide) c10 ?_
          refine q_iinc (v := (v6 + 1)) (lv' := [(6, .int (v6 + 1)), (7, .int s0), (0, .ref 32), (1, .int v1), (2, .int v2), (3, .int v3), (4, .int v4), (5, .int v5)]) 107 d_Mo_nextOf_104 rfl 7 rfl (q_ai (by decide)) (by decide) rfl ?_
          refine q_goto 32 d_Mo_nextOf_107 (by decide) ?_
          refine q_sub (lv' := [(0, .ref 32), (1, .int v1), (2, .int v2), (3, .int v3), (4, .int v4), (5, .int v5), (6, .int (v6 + 1))]) [2, 3, 4, 5, 6, 7, 0] rfl ?_
          exact hK32 _ _ _ _ _ _ _ h
        · refine q_icmp_ge_f 96 d_Mo_nextOf_93 rfl 104 (by decide) c10 ?_
          refine q_iload 98 d_Mo_nextOf_96 rfl 7 rfl ?_
          refine q_istore (lv' := [(4, .int v6), (7, .int s0), (0, .ref 32), (1, .int v1), (2, .int v2), (3, .int v3), (5, .int v5), (6, .int v6)]) 100 d_Mo_nextOf_98 rfl (by decide) rfl ?_
          refine q_iload 102 d_Mo_nextOf_100 rfl 1 rfl ?_
          refine q_istore (lv' := [(5, .int s0), (4, .int v6), (7, .int s0), (0, .ref 32), (1, .int v1), (2, .int v2), (3, .int v3), (6, .int v6)]) 104 d_Mo_nextOf_102 rfl (by decide) rfl ?_
          refine q_iinc (v := (v6 + 1)) (lv' := [(6, .int (v6 + 1)), (5, .int s0), (4, .int v6), (7, .int s0), (0, .ref 32), (1, .int v1), (2, .int v2), (3, .int v3)]) 107 d_Mo_nextOf_104 rfl 7 rfl (q_ai (by decide)) (by decide) rfl ?_
          refine q_goto 32 d_Mo_nextOf_107 (by decide) ?_
          refine q_sub (lv' := [(0, .ref 32), (1, .int v1), (2, .int v2), (3, .int v3), (4, .int v6), (5, .int s0), (6, .int (v6 + 1))]) [4, 5, 6, 7, 2, 1, 0] rfl ?_
          exact hK32 _ _ _ _ _ _ _ h
set_option maxHeartbeats 4000000 in
set_option maxRecDepth 100000 in
theorem t_Mo_nextOf_L32 {E : q_E} {c d : Nat} {ρ : Int32} : ∀ (n : Nat) (x : q_W) (v1 : Int32) (v2 : Int32) (v3 : Int32) (v4 : Int32) (v5 : Int32) (v6 : Int32), f_Mo_nextOf_L32  n x v1 v2 v3 v4 v5 v6 = some ρ → AW E (q_rm 1) m_Mo_nextOf (q_cells E c d x) 0 0 32 [(0, .ref 32), (1, .int v1), (2, .int v2), (3, .int v3), (4, .int v4), (5, .int v5), (6, .int v6)] [] (q_rP E c d x ρ) := by
  intro n
  induction n with
  | zero =>
    intro x v1 v2 v3 v4 v5 v6 h
    have h : (none : Option Int32) = some ρ := h
    cases h
  | succ n ih =>
    intro x v1 v2 v3 v4 v5 v6 h
    unfold f_Mo_nextOf_L32 at h
    refine q_iload 34 d_Mo_nextOf_32 rfl 6 rfl ?_
    refine q_aloadn 35 d_Mo_nextOf_34 rfl 0 rfl ?_
    refine q_xcallP (as := [.ref 32]) (rest := [.int v6]) 38 h (fun z e => t_Mo_count e) (q_xinvV (Y := m_Mo_count) d_Mo_nextOf_35 ml_Mo_159 ms_Mo_count.1 ms_Mo_count.2 k_Mo_count.1 (by decide) n_Mo_count (by decide) rfl rfl) k_Mo_count (q_ro (by decide) (by decide)) (Nat.le_of_ble_eq_true rfl) d_Mo_nextOf_35 rfl rfl rfl (fun w4 ew4 h => ?_)
    refine q_ite h (fun c7 h => ?_) (fun c7 h => ?_)
    · refine q_icmp_ge_t 110 d_Mo_nextOf_38 (by decide) c7 ?_
      refine q_iload 112 d_Mo_nextOf_110 rfl 4 rfl ?_
      cases h
      exact q_iret d_Mo_nextOf_112 rfl (Nat.zero_le _) (Nat.zero_le _)
    · refine q_icmp_ge_f 41 d_Mo_nextOf_38 rfl 110 (by decide) c7 ?_
      refine q_iloadn 42 d_Mo_nextOf_41 rfl 3 rfl ?_
      refine q_ite h (fun c6 h => ?_) (fun c6 h => ?_)
      · refine q_if_eq_t 61 d_Mo_nextOf_42 (by decide) c6 ?_
        refine q_iconst (v := 0) 62 d_Mo_nextOf_61 rfl (by decide) ?_
        exact t_Mo_nextOf_J62 ih _ _ _ _ _ _ _ _ h
      · refine q_if_eq_f 45 d_Mo_nextOf_42 rfl 61 (by decide) c6 ?_
        refine q_aloadn 46 d_Mo_nextOf_45 rfl 0 rfl ?_
        refine q_xget 49 d_Mo_nextOf_46 rfl fl_Mo_74 (by decide) rfl rfl ?_
        refine q_sipush (v := 256) 52 d_Mo_nextOf_49 rfl (by decide) ?_
        refine q_iloadn 53 d_Mo_nextOf_52 rfl 2 rfl ?_
        refine q_imul 54 d_Mo_nextOf_53 rfl ?_
        refine q_iload 56 d_Mo_nextOf_54 rfl 6 rfl ?_
        refine q_iadd 57 d_Mo_nextOf_56 rfl ?_
        refine q_xiald 58 d_Mo_nextOf_57 rfl (by decide) (fun _ => rfl) h (fun w5 ew5 h => ?_)
        refine q_goto 62 d_Mo_nextOf_58 (by decide) ?_
        exact t_Mo_nextOf_J62 ih _ _ _ _ _ _ _ _ h
set_option maxHeartbeats 4000000 in
set_option maxRecDepth 100000 in
theorem t_Mo_nextOf_J21 {E : q_E} {c d : Nat} {ρ : Int32} : ∀ (x : q_W) (v1 : Int32) (v2 : Int32) (s0 : Int32), f_Mo_nextOf_J21  x v1 v2 s0 = some ρ → AW E (q_rm 1) m_Mo_nextOf (q_cells E c d x) 0 0 21 [(0, .ref 32), (1, .int v1), (2, .int v2)] [.int s0] (q_rP E c d x ρ) := by
  intro x v1 v2 s0 h
  unfold f_Mo_nextOf_J21 at h
  refine q_istoren (lv' := [(3, .int s0), (0, .ref 32), (1, .int v1), (2, .int v2)]) 22 d_Mo_nextOf_21 rfl (by decide) rfl ?_
  refine q_iconst (v := (-1)) 23 d_Mo_nextOf_22 rfl (by decide) ?_
  refine q_istore (lv' := [(4, .int (-1)), (3, .int s0), (0, .ref 32), (1, .int v1), (2, .int v2)]) 25 d_Mo_nextOf_23 rfl (by decide) rfl ?_
  refine q_ldc (v := 100000) 27 d_Mo_nextOf_25 rfl lc_Mo_188 ?_
  refine q_istore (lv' := [(5, .int 100000), (4, .int (-1)), (3, .int s0), (0, .ref 32), (1, .int v1), (2, .int v2)]) 29 d_Mo_nextOf_27 rfl (by decide) rfl ?_
  refine q_iconst (v := 0) 30 d_Mo_nextOf_29 rfl (by decide) ?_
  refine q_istore (lv' := [(6, .int 0), (5, .int 100000), (4, .int (-1)), (3, .int s0), (0, .ref 32), (1, .int v1), (2, .int v2)]) 32 d_Mo_nextOf_30 rfl (by decide) rfl ?_
  refine q_sub (lv' := [(0, .ref 32), (1, .int v1), (2, .int v2), (3, .int s0), (4, .int (-1)), (5, .int 100000), (6, .int 0)]) [4, 5, 6, 3, 2, 1, 0] rfl ?_
  exact t_Mo_nextOf_L32  q_fu _ _ _ _ _ _ _ h
set_option maxHeartbeats 4000000 in
set_option maxRecDepth 100000 in
theorem t_Mo_nextOf_J20 {E : q_E} {c d : Nat} {ρ : Int32} : ∀ (x : q_W) (v1 : Int32) (v2 : Int32), f_Mo_nextOf_J20  x v1 v2 = some ρ → AW E (q_rm 1) m_Mo_nextOf (q_cells E c d x) 0 0 20 [(0, .ref 32), (1, .int v1), (2, .int v2)] [] (q_rP E c d x ρ) := by
  intro x v1 v2 h
  unfold f_Mo_nextOf_J20 at h
  refine q_iconst (v := 0) 21 d_Mo_nextOf_20 rfl (by decide) ?_
  exact t_Mo_nextOf_J21  _ _ _ _ h
set_option maxHeartbeats 4000000 in
set_option maxRecDepth 100000 in
theorem t_Mo_nextOf {E : q_E} {c d : Nat} {x : q_W} {a1 : Int32} {a2 : Int32} {ρ : Int32} (h : f_Mo_nextOf x a1 a2 = some ρ) : q_Ct E y_Mo_nextOf m_Mo_nextOf (q_rm 1) (q_cells E c d x) [.ref 32, .int a1, .int a2] (q_rP E c d x ρ) := by
  unfold f_Mo_nextOf at h
  refine q_Ct.of (lv := [(0, .ref 32), (1, .int a1), (2, .int a2)]) (by decide) ⟨rfl, rfl⟩ rfl (Nat.le_of_ble_eq_true rfl) ?_
  refine q_aloadn 1 d_Mo_nextOf_0 rfl 0 rfl ?_
  refine q_xget 4 d_Mo_nextOf_1 rfl fl_Mo_156 (by decide) rfl rfl ?_
  refine q_ite h (fun c3 h => ?_) (fun c3 h => ?_)
  · refine q_if_le_t 20 d_Mo_nextOf_4 (by decide) c3 ?_
    exact t_Mo_nextOf_J20  _ _ _ h
  · refine q_if_le_f 7 d_Mo_nextOf_4 rfl 20 (by decide) c3 ?_
    refine q_aloadn 8 d_Mo_nextOf_7 rfl 0 rfl ?_
    refine q_iloadn 9 d_Mo_nextOf_8 rfl 2 rfl ?_
    refine q_iloadn 10 d_Mo_nextOf_9 rfl 1 rfl ?_
    refine q_xcallP (as := [.ref 32, .int a2, .int a1]) (rest := []) 13 h (fun z e => t_Mo_isDue e) (q_xinvV (Y := m_Mo_isDue) d_Mo_nextOf_10 ml_Mo_184 ms_Mo_isDue.1 ms_Mo_isDue.2 k_Mo_isDue.1 (by decide) n_Mo_isDue (by decide) rfl rfl) k_Mo_isDue (q_ro (by decide) (by decide)) (Nat.le_of_ble_eq_true rfl) d_Mo_nextOf_10 rfl rfl rfl (fun w1 ew1 h => ?_)
    refine q_ite h (fun c2 h => ?_) (fun c2 h => ?_)
    · refine q_if_eq_t 20 d_Mo_nextOf_13 (by decide) c2 ?_
      exact t_Mo_nextOf_J20  _ _ _ h
    · refine q_if_eq_f 16 d_Mo_nextOf_13 rfl 20 (by decide) c2 ?_
      refine q_iconst (v := 1) 17 d_Mo_nextOf_16 rfl (by decide) ?_
      refine q_goto 21 d_Mo_nextOf_17 (by decide) ?_
      exact t_Mo_nextOf_J21  _ _ _ _ h
set_option maxHeartbeats 4000000 in
set_option maxRecDepth 100000 in
theorem t_Mo_goWalk_L62 {E : q_E} {c d : Nat} {ρ : q_W} : ∀ (n : Nat) (x : q_W) (v1 : Int32) (v2 : Int32) (v3 : Int32), f_Mo_goWalk_L62  n x v1 v2 v3 = some ρ → AW E (q_rm 3) m_Mo_goWalk (q_cells E c d x) 0 0 62 [(0, .ref 32), (1, .int v1), (2, .int v2), (3, .int v3)] [] (q_rV E c d ρ) := by
  intro n
  induction n with
  | zero =>
    intro x v1 v2 v3 h
    have h : (none : Option q_W) = some ρ := h
    cases h
  | succ n ih =>
    intro x v1 v2 v3 h
    unfold f_Mo_goWalk_L62 at h
    refine q_iloadn 63 d_Mo_goWalk_62 rfl 1 rfl ?_
    refine q_ite h (fun c19 h => ?_) (fun c19 h => ?_)
    · refine q_if_lt_t 152 d_Mo_goWalk_63 (by decide) c19 ?_
      cases h
      exact q_vret d_Mo_goWalk_152 rfl (Nat.zero_le _) (Nat.zero_le _)
    · refine q_if_lt_f 66 d_Mo_goWalk_63 rfl 152 (by decide) c19 ?_
      refine q_aloadn 67 d_Mo_goWalk_66 rfl 0 rfl ?_
      refine q_xget 70 d_Mo_goWalk_67 rfl fl_Mo_192 (by decide) rfl rfl ?_
      refine q_ite h (fun c18 h => ?_) (fun c18 h => ?_)
      · refine q_if_ge_t 152 d_Mo_goWalk_70 (by decide) c18 ?_
        cases h
        exact q_vret d_Mo_goWalk_152 rfl (Nat.zero_le _) (Nat.zero_le _)
      · refine q_if_ge_f 73 d_Mo_goWalk_70 rfl 152 (by decide) c18 ?_
        refine q_aloadn 74 d_Mo_goWalk_73 rfl 0 rfl ?_
        refine q_iloadn 75 d_Mo_goWalk_74 rfl 1 rfl ?_
        refine q_iloadn 76 d_Mo_goWalk_75 rfl 3 rfl ?_
        refine q_xcallP (as := [.ref 32, .int v1, .int v3]) (rest := []) 79 h (fun z e => t_Mo_dutyAt e) (q_xinvV (Y := m_Mo_dutyAt) d_Mo_goWalk_76 ml_Mo_201 ms_Mo_dutyAt.1 ms_Mo_dutyAt.2 k_Mo_dutyAt.1 (by decide) n_Mo_dutyAt (by decide) rfl rfl) k_Mo_dutyAt (q_ro (by decide) (by decide)) (Nat.le_of_ble_eq_true rfl) d_Mo_goWalk_76 rfl rfl rfl (fun w7 ew7 h => ?_)
        refine q_istoren (lv' := [(3, .int w7), (0, .ref 32), (1, .int v1), (2, .int v2)]) 80 d_Mo_goWalk_79 rfl (by decide) rfl ?_
        refine q_iconst (v := 5) 81 d_Mo_goWalk_80 rfl (by decide) ?_
        refine q_iloadn 82 d_Mo_goWalk_81 rfl 2 rfl ?_
        refine q_imul 83 d_Mo_goWalk_82 rfl ?_
        refine q_iloadn 84 d_Mo_goWalk_83 rfl 0 rfl ?_
        refine q_iadd 85 d_Mo_goWalk_84 rfl ?_
        refine q_xtop h (fun z8 ez8 h => ?_)
        refine q_istore (lv' := [(4, .int z8), (3, .int w7), (0, .ref 32), (1, .int v1), (2, .int v2)]) 87 d_Mo_goWalk_85 rfl (by decide) rfl ?_
        refine q_aloadn 88 d_Mo_goWalk_87 rfl 2 rfl ?_
        refine q_xget 91 d_Mo_goWalk_88 rfl fl_Mo_80 (by decide) rfl rfl ?_
        refine q_iload 93 d_Mo_goWalk_91 rfl 0 rfl ?_
        refine q_xiald 94 d_Mo_goWalk_93 rfl (by decide) (fun _ => rfl) h (fun w9 ew9 h => ?_)
        refine q_ite h (fun c17 h => ?_) (fun c17 h => ?_)
        · refine q_if_lt_t 124 d_Mo_goWalk_94 (by decide) c17 ?_
          refine q_aloadn 125 d_Mo_goWalk_124 rfl 2 rfl ?_
          refine q_xget 128 d_Mo_goWalk_125 rfl fl_Mo_80 (by decide) rfl rfl ?_
          refine q_iload 130 d_Mo_goWalk_128 rfl 0 rfl ?_
          refine q_iloadn 131 d_Mo_goWalk_130 rfl 4 rfl ?_
          refine q_xiast 132 d_Mo_goWalk_131 rfl (by decide) (fun _ => rfl) h (fun x10 ex10 h => ?_)
          refine q_aloadn 133 d_Mo_goWalk_132 rfl 2 rfl ?_
          refine q_xget 136 d_Mo_goWalk_133 rfl fl_Mo_77 (by decide) rfl rfl ?_
          refine q_iloadn 137 d_Mo_goWalk_136 rfl 4 rfl ?_
          refine q_iloadn 138 d_Mo_goWalk_137 rfl 3 rfl ?_
          refine q_xiast 139 d_Mo_goWalk_138 rfl (by decide) (fun _ => rfl) h (fun x11 ex11 h => ?_)
          refine q_iinc (v := (v2 + 1)) (lv' := [(2, .int (v2 + 1)), (4, .int z8), (3, .int w7), (0, .ref 32), (1, .int v1)]) 142 d_Mo_goWalk_139 rfl 4 rfl (q_ai (by decide)) (by decide) rfl ?_
          refine q_aloadn 143 d_Mo_goWalk_142 rfl 3 rfl ?_
          refine q_iloadn 144 d_Mo_goWalk_143 rfl 4 rfl ?_
          refine q_iloadn 145 d_Mo_goWalk_144 rfl 2 rfl ?_
          refine q_xcallP (as := [.ref 32, .int v1, .int w7]) (rest := []) 148 h (fun z e => t_Mo_nextOf e) (q_xinvV (Y := m_Mo_nextOf) d_Mo_goWalk_145 ml_Mo_205 ms_Mo_nextOf.1 ms_Mo_nextOf.2 k_Mo_nextOf.1 (by decide) n_Mo_nextOf (by decide) rfl rfl) k_Mo_nextOf (q_ro (by decide) (by decide)) (Nat.le_of_ble_eq_true rfl) d_Mo_goWalk_145 rfl rfl rfl (fun w12 ew12 h => ?_)
          refine q_istoren (lv' := [(1, .int w12), (2, .int (v2 + 1)), (4, .int z8), (3, .int w7), (0, .ref 32)]) 149 d_Mo_goWalk_148 rfl (by decide) rfl ?_
          refine q_goto 62 d_Mo_goWalk_149 (by decide) ?_
          refine q_sub (lv' := [(0, .ref 32), (1, .int w12), (2, .int (v2 + 1)), (3, .int w7)]) [4, 0, 1, 3] rfl ?_
          exact ih _ _ _ _ h
        · refine q_if_lt_f 97 d_Mo_goWalk_94 rfl 124 (by decide) c17 ?_
          refine q_aloadn 98 d_Mo_goWalk_97 rfl 2 rfl ?_
          refine q_aloadn 99 d_Mo_goWalk_98 rfl 2 rfl ?_
          refine q_xget 102 d_Mo_goWalk_99 rfl fl_Mo_80 (by decide) rfl rfl ?_
          refine q_iload 104 d_Mo_goWalk_102 rfl 0 rfl ?_
          refine q_xiald 105 d_Mo_goWalk_104 rfl (by decide) (fun _ => rfl) h (fun w13 ew13 h => ?_)
          refine q_xput 108 d_Mo_goWalk_105 rfl fl_Mo_192 (by decide) rfl rfl rfl rfl (Nat.le_of_ble_eq_true rfl) (fun _ => rfl) h (fun x14 ex14 h => ?_)
          refine q_aloadn 109 d_Mo_goWalk_108 rfl 2 rfl ?_
          refine q_iloadn 110 d_Mo_goWalk_109 rfl 4 rfl ?_
          refine q_aloadn 111 d_Mo_goWalk_110 rfl 2 rfl ?_
          refine q_xget 114 d_Mo_goWalk_111 rfl fl_Mo_80 (by decide) rfl rfl ?_
          refine q_iload 116 d_Mo_goWalk_114 rfl 0 rfl ?_
          refine q_xiald 117 d_Mo_goWalk_116 rfl (by decide) (fun _ => rfl) h (fun w15 ew15 h => ?_)
          refine q_isub 118 d_Mo_goWalk_117 rfl ?_
          refine q_xput 121 d_Mo_goWalk_118 rfl fl_Mo_195 (by decide) rfl rfl rfl rfl (Nat.le_of_ble_eq_true rfl) (fun _ => rfl) h (fun x16 ex16 h => ?_)
          refine q_goto 149 d_Mo_goWalk_121 (by decide) ?_
          refine q_goto 62 d_Mo_goWalk_149 (by decide) ?_
          refine q_sub (lv' := [(0, .ref 32), (1, .int v1), (2, .int v2), (3, .int w7)]) [2, 3, 4, 1] rfl ?_
          exact ih _ _ _ _ h
set_option maxHeartbeats 4000000 in
set_option maxRecDepth 100000 in
theorem t_Mo_goWalk_L33 {E : q_E} {c d : Nat} {ρ : q_W} {E33 : q_W → Option q_W} (hE33 : ∀ x, E33 x = some ρ → AW E (q_rm 3) m_Mo_goWalk (q_cells E c d x) 0 0 53 [(0, .ref 32)] [] (q_rV E c d ρ)) : ∀ (n : Nat) (x : q_W) (v1 : Int32), f_Mo_goWalk_L33 E33 n x v1 = some ρ → AW E (q_rm 3) m_Mo_goWalk (q_cells E c d x) 0 0 33 [(0, .ref 32), (1, .int v1)] [] (q_rV E c d ρ) := by
  intro n
  induction n with
  | zero =>
    intro x v1 h
    have h : (none : Option q_W) = some ρ := h
    cases h
  | succ n ih =>
    intro x v1 h
    unfold f_Mo_goWalk_L33 at h
    refine q_iloadn 34 d_Mo_goWalk_33 rfl 1 rfl ?_
    refine q_sipush (v := 1280) 37 d_Mo_goWalk_34 rfl (by decide) ?_
    refine q_ite h (fun c21 h => ?_) (fun c21 h => ?_)
    · refine q_icmp_ge_t 53 d_Mo_goWalk_37 (by decide) c21 ?_
      refine q_sub (lv' := [(0, .ref 32)]) [0] rfl ?_
      exact hE33 _ h
    · refine q_icmp_ge_f 40 d_Mo_goWalk_37 rfl 53 (by decide) c21 ?_
      refine q_aloadn 41 d_Mo_goWalk_40 rfl 0 rfl ?_
      refine q_xget 44 d_Mo_goWalk_41 rfl fl_Mo_80 (by decide) rfl rfl ?_
      refine q_iloadn 45 d_Mo_goWalk_44 rfl 1 rfl ?_
      refine q_iconst (v := (-1)) 46 d_Mo_goWalk_45 rfl (by decide) ?_
      refine q_xiast 47 d_Mo_goWalk_46 rfl (by decide) (fun _ => rfl) h (fun x20 ex20 h => ?_)
      refine q_iinc (v := (v1 + 1)) (lv' := [(1, .int (v1 + 1)), (0, .ref 32)]) 50 d_Mo_goWalk_47 rfl 1 rfl (q_ai (by decide)) (by decide) rfl ?_
      refine q_goto 33 d_Mo_goWalk_50 (by decide) ?_
      refine q_sub (lv' := [(0, .ref 32), (1, .int (v1 + 1))]) [1, 0] rfl ?_
      exact ih _ _ h
set_option maxHeartbeats 4000000 in
set_option maxRecDepth 100000 in
theorem t_Mo_goWalk_L12 {E : q_E} {c d : Nat} {ρ : q_W} : ∀ (n : Nat) (x : q_W) (v1 : Int32), f_Mo_goWalk_L12  n x v1 = some ρ → AW E (q_rm 3) m_Mo_goWalk (q_cells E c d x) 0 0 12 [(0, .ref 32), (1, .int v1)] [] (q_rV E c d ρ) := by
  intro n
  induction n with
  | zero =>
    intro x v1 h
    have h : (none : Option q_W) = some ρ := h
    cases h
  | succ n ih =>
    intro x v1 h
    unfold f_Mo_goWalk_L12 at h
    refine q_iloadn 13 d_Mo_goWalk_12 rfl 1 rfl ?_
    refine q_aloadn 14 d_Mo_goWalk_13 rfl 0 rfl ?_
    refine q_xget 17 d_Mo_goWalk_14 rfl fl_Mo_156 (by decide) rfl rfl ?_
    refine q_ite h (fun c6 h => ?_) (fun c6 h => ?_)
    · refine q_icmp_ge_t 31 d_Mo_goWalk_17 (by decide) c6 ?_
      refine q_iconst (v := 0) 32 d_Mo_goWalk_31 rfl (by decide) ?_
      refine q_istoren (lv' := [(1, .int 0), (0, .ref 32)]) 33 d_Mo_goWalk_32 rfl (by decide) rfl ?_
      refine q_sub (lv' := [(0, .ref 32), (1, .int 0)]) [1, 0] rfl ?_
      refine t_Mo_goWalk_L33 (fun x3 h => ?_) q_fu _ _ h
      refine q_aloadn 54 d_Mo_goWalk_53 rfl 0 rfl ?_
      refine q_xcallP (as := [.ref 32]) (rest := []) 57 h (fun z e => t_Mo_firstState e) (q_xinvV (Y := m_Mo_firstState) d_Mo_goWalk_54 ml_Mo_198 ms_Mo_firstState.1 ms_Mo_firstState.2 k_Mo_firstState.1 (by decide) n_Mo_firstState (by decide) rfl rfl) k_Mo_firstState (q_ro (by decide) (by decide)) (Nat.le_of_ble_eq_true rfl) d_Mo_goWalk_54 rfl rfl rfl (fun w4 ew4 h => ?_)
      refine q_istoren (lv' := [(1, .int w4), (0, .ref 32)]) 58 d_Mo_goWalk_57 rfl (by decide) rfl ?_
      refine q_iconst (v := 0) 59 d_Mo_goWalk_58 rfl (by decide) ?_
      refine q_istoren (lv' := [(2, .int 0), (1, .int w4), (0, .ref 32)]) 60 d_Mo_goWalk_59 rfl (by decide) rfl ?_
      refine q_iconst (v := 0) 61 d_Mo_goWalk_60 rfl (by decide) ?_
      refine q_istoren (lv' := [(3, .int 0), (2, .int 0), (1, .int w4), (0, .ref 32)]) 62 d_Mo_goWalk_61 rfl (by decide) rfl ?_
      refine q_sub (lv' := [(0, .ref 32), (1, .int w4), (2, .int 0), (3, .int 0)]) [3, 2, 1, 0] rfl ?_
      exact t_Mo_goWalk_L62  q_fu _ _ _ _ h
    · refine q_icmp_ge_f 20 d_Mo_goWalk_17 rfl 31 (by decide) c6 ?_
      refine q_aloadn 21 d_Mo_goWalk_20 rfl 0 rfl ?_
      refine q_iloadn 22 d_Mo_goWalk_21 rfl 1 rfl ?_
      refine q_xcallV (as := [.ref 32, .int v1]) (rest := []) 25 h (fun z e => t_Mo_countSteps e) (q_xinvV (Y := m_Mo_countSteps) d_Mo_goWalk_22 ml_Mo_181 ms_Mo_countSteps.1 ms_Mo_countSteps.2 k_Mo_countSteps.1 (by decide) n_Mo_countSteps (by decide) rfl rfl) k_Mo_countSteps (q_ro (by decide) (by decide)) (Nat.le_of_ble_eq_true rfl) d_Mo_goWalk_22 rfl rfl rfl (fun x5 ex5 h => ?_)
      refine q_iinc (v := (v1 + 1)) (lv' := [(1, .int (v1 + 1)), (0, .ref 32)]) 28 d_Mo_goWalk_25 rfl 1 rfl (q_ai (by decide)) (by decide) rfl ?_
      refine q_goto 12 d_Mo_goWalk_28 (by decide) ?_
      refine q_sub (lv' := [(0, .ref 32), (1, .int (v1 + 1))]) [1, 0] rfl ?_
      exact ih _ _ h
set_option maxHeartbeats 4000000 in
set_option maxRecDepth 100000 in
theorem t_Mo_goWalk {E : q_E} {c d : Nat} {x : q_W} {ρ : q_W} (h : f_Mo_goWalk x = some ρ) : q_Ct E y_Mo_goWalk m_Mo_goWalk (q_rm 3) (q_cells E c d x) [.ref 32] (q_rV E c d ρ) := by
  unfold f_Mo_goWalk at h
  refine q_Ct.of (lv := [(0, .ref 32)]) (by decide) ⟨rfl, rfl⟩ rfl (Nat.le_of_ble_eq_true rfl) ?_
  refine q_aloadn 1 d_Mo_goWalk_0 rfl 0 rfl ?_
  refine q_iconst (v := (-1)) 2 d_Mo_goWalk_1 rfl (by decide) ?_
  refine q_xput 5 d_Mo_goWalk_2 rfl fl_Mo_192 (by decide) rfl rfl rfl rfl (Nat.le_of_ble_eq_true rfl) (fun _ => rfl) h (fun x1 ex1 h => ?_)
  refine q_aloadn 6 d_Mo_goWalk_5 rfl 0 rfl ?_
  refine q_iconst (v := (-1)) 7 d_Mo_goWalk_6 rfl (by decide) ?_
  refine q_xput 10 d_Mo_goWalk_7 rfl fl_Mo_195 (by decide) rfl rfl rfl rfl (Nat.le_of_ble_eq_true rfl) (fun _ => rfl) h (fun x2 ex2 h => ?_)
  refine q_iconst (v := 0) 11 d_Mo_goWalk_10 rfl (by decide) ?_
  refine q_istoren (lv' := [(1, .int 0), (0, .ref 32)]) 12 d_Mo_goWalk_11 rfl (by decide) rfl ?_
  refine q_sub (lv' := [(0, .ref 32), (1, .int 0)]) [1, 0] rfl ?_
  exact t_Mo_goWalk_L12  q_fu _ _ h
set_option maxHeartbeats 4000000 in
set_option maxRecDepth 100000 in
theorem t_Mo_valueOf_J271 {E : q_E} {c d : Nat} {ρ : Int32} : ∀ (x : q_W) (v1 : Int32) (v3 : Int32), f_Mo_valueOf_J271  x v1 v3 = some ρ → AW E (q_rm 0) m_Mo_valueOf (q_cells E c d x) 0 0 271 [(0, .ref 32), (1, .int v1), (3, .int v3)] [] (q_rP E c d x ρ) := by
  intro x v1 v3 h
  unfold f_Mo_valueOf_J271 at h
  refine q_iloadn 272 d_Mo_valueOf_271 rfl 2 rfl ?_
  refine q_aloadn 273 d_Mo_valueOf_272 rfl 0 rfl ?_
  refine q_xget 276 d_Mo_valueOf_273 rfl fl_Mo_13 (by decide) rfl rfl ?_
  refine q_iloadn 277 d_Mo_valueOf_276 rfl 1 rfl ?_
  refine q_xiald 278 d_Mo_valueOf_277 rfl (by decide) (fun _ => rfl) h (fun w43 ew43 h => ?_)
  refine q_iconst (v := 2) 279 d_Mo_valueOf_278 rfl (by decide) ?_
  refine q_isub 280 d_Mo_valueOf_279 rfl ?_
  refine q_ishr 281 d_Mo_valueOf_280 rfl ?_
  refine q_iconst (v := 1) 282 d_Mo_valueOf_281 rfl (by decide) ?_
  refine q_iand 283 d_Mo_valueOf_282 rfl ?_
  refine q_iconst (v := 1) 284 d_Mo_valueOf_283 rfl (by decide) ?_
  refine q_ite h (fun c44 h => ?_) (fun c44 h => ?_)
  · refine q_icmp_ne_t 291 d_Mo_valueOf_284 (by decide) c44 ?_
    refine q_iconst (v := 0) 292 d_Mo_valueOf_291 rfl (by decide) ?_
    cases h
    exact q_zret d_Mo_valueOf_292 rfl (Nat.zero_le _) (Nat.zero_le _)
  · refine q_icmp_ne_f 287 d_Mo_valueOf_284 rfl 291 (by decide) (Classical.not_not.mp c44) ?_
    refine q_iconst (v := 1) 288 d_Mo_valueOf_287 rfl (by decide) ?_
    refine q_goto 292 d_Mo_valueOf_288 (by decide) ?_
    cases h
    exact q_zret d_Mo_valueOf_292 rfl (Nat.zero_le _) (Nat.zero_le _)
set_option maxHeartbeats 4000000 in
set_option maxRecDepth 100000 in
theorem t_Mo_valueOf_J58 {E : q_E} {c d : Nat} {ρ : Int32} : ∀ (x : q_W) (v1 : Int32) (v2 : Int32) (v3 : Int32) (v4 : Int32) (s0 : Int32), f_Mo_valueOf_J58  x v1 v2 v3 v4 s0 = some ρ → AW E (q_rm 0) m_Mo_valueOf (q_cells E c d x) 0 0 58 [(0, .ref 32), (1, .int v1), (2, .int v2), (3, .int v3), (4, .int v4)] [.int s0] (q_rP E c d x ρ) := by
  intro x v1 v2 v3 v4 s0 h
  unfold f_Mo_valueOf_J58 at h
  refine q_istore (lv' := [(5, .int s0), (0, .ref 32), (1, .int v1), (2, .int v2), (3, .int v3), (4, .int v4)]) 60 d_Mo_valueOf_58 rfl (by decide) rfl ?_
  refine q_aloadn 61 d_Mo_valueOf_60 rfl 1 rfl ?_
  refine q_xget 64 d_Mo_valueOf_61 rfl fl_Mo_13 (by decide) rfl rfl ?_
  refine q_iloadn 65 d_Mo_valueOf_64 rfl 2 rfl ?_
  refine q_xiald 66 d_Mo_valueOf_65 rfl (by decide) (fun _ => rfl) h (fun w11 ew11 h => ?_)
  refine q_ite h (fun c12 h => ?_) (fun c12 h => ?_)
  · refine q_tableIn (off := 70) 136 d_Mo_valueOf_66 (by rw [c12] <;> decide +kernel) (by rw [c12] <;> decide +kernel) (by rw [c12] <;> decide +kernel) (by decide) ?_
    refine q_iconst (v := 0) 137 d_Mo_valueOf_136 rfl (by decide) ?_
    cases h
    exact q_zret d_Mo_valueOf_137 rfl (Nat.zero_le _) (Nat.zero_le _)
  · refine q_ite h (fun c13 h => ?_) (fun c13 h => ?_)
    · refine q_tableIn (off := 72) 138 d_Mo_valueOf_66 (by rw [c13] <;> decide +kernel) (by rw [c13] <;> decide +kernel) (by rw [c13] <;> decide +kernel) (by decide) ?_
      refine q_iconst (v := 1) 139 d_Mo_valueOf_138 rfl (by decide) ?_
      cases h
      exact q_zret d_Mo_valueOf_139 rfl (Nat.zero_le _) (Nat.zero_le _)
    · refine q_ite h (fun c14 h => ?_) (fun c14 h => ?_)
      · refine q_tableIn (off := 205) 271 d_Mo_valueOf_66 (by rw [c14] <;> decide +kernel) (by rw [c14] <;> decide +kernel) (by rw [c14] <;> decide +kernel) (by decide) ?_
        refine q_sub (lv' := [(0, .ref 32), (1, .int v1), (3, .int v3)]) [1, 2, 4] rfl ?_
        exact t_Mo_valueOf_J271  _ _ _ h
      · refine q_ite h (fun c15 h => ?_) (fun c15 h => ?_)
        · refine q_tableIn (off := 205) 271 d_Mo_valueOf_66 (by rw [c15] <;> decide +kernel) (by rw [c15] <;> decide +kernel) (by rw [c15] <;> decide +kernel) (by decide) ?_
          refine q_sub (lv' := [(0, .ref 32), (1, .int v1), (3, .int v3)]) [1, 2, 4] rfl ?_
          exact t_Mo_valueOf_J271  _ _ _ h
        · refine q_ite h (fun c16 h => ?_) (fun c16 h => ?_)
          · refine q_tableIn (off := 205) 271 d_Mo_valueOf_66 (by rw [c16] <;> decide +kernel) (by rw [c16] <;> decide +kernel) (by rw [c16] <;> decide +kernel) (by decide) ?_
            refine q_sub (lv' := [(0, .ref 32), (1, .int v1), (3, .int v3)]) [1, 2, 4] rfl ?_
            exact t_Mo_valueOf_J271  _ _ _ h
          · refine q_ite h (fun c17 h => ?_) (fun c17 h => ?_)
            · refine q_tableIn (off := 74) 140 d_Mo_valueOf_66 (by rw [c17] <;> decide +kernel) (by rw [c17] <;> decide +kernel) (by rw [c17] <;> decide +kernel) (by decide) ?_
              refine q_iload 142 d_Mo_valueOf_140 rfl 0 rfl ?_
              refine q_ite h (fun c18 h => ?_) (fun c18 h => ?_)
              · refine q_if_ne_t 149 d_Mo_valueOf_142 (by decide) c18 ?_
                refine q_iconst (v := 0) 150 d_Mo_valueOf_149 rfl (by decide) ?_
                cases h
                exact q_zret d_Mo_valueOf_150 rfl (Nat.zero_le _) (Nat.zero_le _)
              · refine q_if_ne_f 145 d_Mo_valueOf_142 rfl 149 (by decide) (Classical.not_not.mp c18) ?_
                refine q_iconst (v := 1) 146 d_Mo_valueOf_145 rfl (by decide) ?_
                refine q_goto 150 d_Mo_valueOf_146 (by decide) ?_
                cases h
                exact q_zret d_Mo_valueOf_150 rfl (Nat.zero_le _) (Nat.zero_le _)
            · refine q_ite h (fun c19 h => ?_) (fun c19 h => ?_)
              · refine q_tableIn (off := 85) 151 d_Mo_valueOf_66 (by rw [c19] <;> decide +kernel) (by rw [c19] <;> decide +kernel) (by rw [c19] <;> decide +kernel) (by decide) ?_
                refine q_iloadn 152 d_Mo_valueOf_151 rfl 3 rfl ?_
                cases h
                exact q_zret d_Mo_valueOf_152 rfl (Nat.zero_le _) (Nat.zero_le _)
              · refine q_ite h (fun c20 h => ?_) (fun c20 h => ?_)
                · refine q_tableIn (off := 87) 153 d_Mo_valueOf_66 (by rw [c20] <;> decide +kernel) (by rw [c20] <;> decide +kernel) (by rw [c20] <;> decide +kernel) (by decide) ?_
                  refine q_iload 155 d_Mo_valueOf_153 rfl 0 rfl ?_
                  refine q_ite h (fun c22 h => ?_) (fun c22 h => ?_)
                  · refine q_if_ne_t 162 d_Mo_valueOf_155 (by decide) c22 ?_
                    refine q_iconst (v := 1) 163 d_Mo_valueOf_162 rfl (by decide) ?_
                    refine q_goto 167 d_Mo_valueOf_163 (by decide) ?_
                    cases h
                    exact q_zret d_Mo_valueOf_167 rfl (Nat.zero_le _) (Nat.zero_le _)
                  · refine q_if_ne_f 158 d_Mo_valueOf_155 rfl 162 (by decide) (Classical.not_not.mp c22) ?_
                    refine q_iloadn 159 d_Mo_valueOf_158 rfl 3 rfl ?_
                    refine q_ite h (fun c21 h => ?_) (fun c21 h => ?_)
                    · refine q_if_eq_t 166 d_Mo_valueOf_159 (by decide) c21 ?_
                      refine q_iconst (v := 0) 167 d_Mo_valueOf_166 rfl (by decide) ?_
                      cases h
                      exact q_zret d_Mo_valueOf_167 rfl (Nat.zero_le _) (Nat.zero_le _)
                    · refine q_if_eq_f 162 d_Mo_valueOf_159 rfl 166 (by decide) c21 ?_
                      refine q_iconst (v := 1) 163 d_Mo_valueOf_162 rfl (by decide) ?_
                      refine q_goto 167 d_Mo_valueOf_163 (by decide) ?_
                      cases h
                      exact q_zret d_Mo_valueOf_167 rfl (Nat.zero_le _) (Nat.zero_le _)
                · refine q_ite h (fun c23 h => ?_) (fun c23 h => ?_)
                  · refine q_tableIn (off := 102) 168 d_Mo_valueOf_66 (by rw [c23] <;> decide +kernel) (by rw [c23] <;> decide +kernel) (by rw [c23] <;> decide +kernel) (by decide) ?_
                    refine q_iload 170 d_Mo_valueOf_168 rfl 0 rfl ?_
                    refine q_ite h (fun c25 h => ?_) (fun c25 h => ?_)
                    · refine q_if_eq_t 181 d_Mo_valueOf_170 (by decide) c25 ?_
                      refine q_iconst (v := 0) 182 d_Mo_valueOf_181 rfl (by decide) ?_
                      cases h
                      exact q_zret d_Mo_valueOf_182 rfl (Nat.zero_le _) (Nat.zero_le _)
                    · refine q_if_eq_f 173 d_Mo_valueOf_170 rfl 181 (by decide) c25 ?_
                      refine q_iloadn 174 d_Mo_valueOf_173 rfl 3 rfl ?_
                      refine q_ite h (fun c24 h => ?_) (fun c24 h => ?_)
                      · refine q_if_eq_t 181 d_Mo_valueOf_174 (by decide) c24 ?_
                        refine q_iconst (v := 0) 182 d_Mo_valueOf_181 rfl (by decide) ?_
                        cases h
                        exact q_zret d_Mo_valueOf_182 rfl (Nat.zero_le _) (Nat.zero_le _)
                      · refine q_if_eq_f 177 d_Mo_valueOf_174 rfl 181 (by decide) c24 ?_
                        refine q_iconst (v := 1) 178 d_Mo_valueOf_177 rfl (by decide) ?_
                        refine q_goto 182 d_Mo_valueOf_178 (by decide) ?_
                        cases h
                        exact q_zret d_Mo_valueOf_182 rfl (Nat.zero_le _) (Nat.zero_le _)
                  · refine q_ite h (fun c26 h => ?_) (fun c26 h => ?_)
                    · refine q_tableIn (off := 117) 183 d_Mo_valueOf_66 (by rw [c26] <;> decide +kernel) (by rw [c26] <;> decide +kernel) (by rw [c26] <;> decide +kernel) (by decide) ?_
                      refine q_iload 185 d_Mo_valueOf_183 rfl 0 rfl ?_
                      refine q_ite h (fun c29 h => ?_) (fun c29 h => ?_)
                      · refine q_if_ne_t 197 d_Mo_valueOf_185 (by decide) c29 ?_
                        refine q_iconst (v := 1) 198 d_Mo_valueOf_197 rfl (by decide) ?_
                        refine q_goto 202 d_Mo_valueOf_198 (by decide) ?_
                        cases h
                        exact q_zret d_Mo_valueOf_202 rfl (Nat.zero_le _) (Nat.zero_le _)
                      · refine q_if_ne_f 188 d_Mo_valueOf_185 rfl 197 (by decide) (Classical.not_not.mp c29) ?_
                        refine q_iload 190 d_Mo_valueOf_188 rfl 5 rfl ?_
                        refine q_ite h (fun c28 h => ?_) (fun c28 h => ?_)
                        · refine q_if_eq_t 201 d_Mo_valueOf_190 (by decide) c28 ?_
                          refine q_iconst (v := 0) 202 d_Mo_valueOf_201 rfl (by decide) ?_
                          cases h
                          exact q_zret d_Mo_valueOf_202 rfl (Nat.zero_le _) (Nat.zero_le _)
                        · refine q_if_eq_f 193 d_Mo_valueOf_190 rfl 201 (by decide) c28 ?_
                          refine q_iloadn 194 d_Mo_valueOf_193 rfl 3 rfl ?_
                          refine q_ite h (fun c27 h => ?_) (fun c27 h => ?_)
                          · refine q_if_eq_t 201 d_Mo_valueOf_194 (by decide) c27 ?_
                            refine q_iconst (v := 0) 202 d_Mo_valueOf_201 rfl (by decide) ?_
                            cases h
                            exact q_zret d_Mo_valueOf_202 rfl (Nat.zero_le _) (Nat.zero_le _)
                          · refine q_if_eq_f 197 d_Mo_valueOf_194 rfl 201 (by decide) c27 ?_
                            refine q_iconst (v := 1) 198 d_Mo_valueOf_197 rfl (by decide) ?_
                            refine q_goto 202 d_Mo_valueOf_198 (by decide) ?_
                            cases h
                            exact q_zret d_Mo_valueOf_202 rfl (Nat.zero_le _) (Nat.zero_le _)
                    · refine q_ite h (fun c30 h => ?_) (fun c30 h => ?_)
                      · refine q_tableIn (off := 137) 203 d_Mo_valueOf_66 (by rw [c30] <;> decide +kernel) (by rw [c30] <;> decide +kernel) (by rw [c30] <;> decide +kernel) (by decide) ?_
                        refine q_iload 205 d_Mo_valueOf_203 rfl 0 rfl ?_
                        refine q_ite h (fun c33 h => ?_) (fun c33 h => ?_)
                        · refine q_if_eq_t 221 d_Mo_valueOf_205 (by decide) c33 ?_
                          refine q_iconst (v := 0) 222 d_Mo_valueOf_221 rfl (by decide) ?_
                          cases h
                          exact q_zret d_Mo_valueOf_222 rfl (Nat.zero_le _) (Nat.zero_le _)
                        · refine q_if_eq_f 208 d_Mo_valueOf_205 rfl 221 (by decide) c33 ?_
                          refine q_iload 210 d_Mo_valueOf_208 rfl 5 rfl ?_
                          refine q_ite h (fun c32 h => ?_) (fun c32 h => ?_)
                          · refine q_if_ne_t 217 d_Mo_valueOf_210 (by decide) c32 ?_
                            refine q_iconst (v := 1) 218 d_Mo_valueOf_217 rfl (by decide) ?_
                            refine q_goto 222 d_Mo_valueOf_218 (by decide) ?_
                            cases h
                            exact q_zret d_Mo_valueOf_222 rfl (Nat.zero_le _) (Nat.zero_le _)
                          · refine q_if_ne_f 213 d_Mo_valueOf_210 rfl 217 (by decide) (Classical.not_not.mp c32) ?_
                            refine q_iloadn 214 d_Mo_valueOf_213 rfl 3 rfl ?_
                            refine q_ite h (fun c31 h => ?_) (fun c31 h => ?_)
                            · refine q_if_eq_t 221 d_Mo_valueOf_214 (by decide) c31 ?_
                              refine q_iconst (v := 0) 222 d_Mo_valueOf_221 rfl (by decide) ?_
                              cases h
                              exact q_zret d_Mo_valueOf_222 rfl (Nat.zero_le _) (Nat.zero_le _)
                            · refine q_if_eq_f 217 d_Mo_valueOf_214 rfl 221 (by decide) c31 ?_
                              refine q_iconst (v := 1) 218 d_Mo_valueOf_217 rfl (by decide) ?_
                              refine q_goto 222 d_Mo_valueOf_218 (by decide) ?_
                              cases h
                              exact q_zret d_Mo_valueOf_222 rfl (Nat.zero_le _) (Nat.zero_le _)
                      · refine q_ite h (fun c34 h => ?_) (fun c34 h => ?_)
                        · refine q_tableIn (off := 157) 223 d_Mo_valueOf_66 (by rw [c34] <;> decide +kernel) (by rw [c34] <;> decide +kernel) (by rw [c34] <;> decide +kernel) (by decide) ?_
                          refine q_iload 225 d_Mo_valueOf_223 rfl 5 rfl ?_
                          refine q_ite h (fun c36 h => ?_) (fun c36 h => ?_)
                          · refine q_if_eq_t 237 d_Mo_valueOf_225 (by decide) c36 ?_
                            refine q_iconst (v := 0) 238 d_Mo_valueOf_237 rfl (by decide) ?_
                            cases h
                            exact q_zret d_Mo_valueOf_238 rfl (Nat.zero_le _) (Nat.zero_le _)
                          · refine q_if_eq_f 228 d_Mo_valueOf_225 rfl 237 (by decide) c36 ?_
                            refine q_iload 230 d_Mo_valueOf_228 rfl 0 rfl ?_
                            refine q_ite h (fun c35 h => ?_) (fun c35 h => ?_)
                            · refine q_if_eq_t 237 d_Mo_valueOf_230 (by decide) c35 ?_
                              refine q_iconst (v := 0) 238 d_Mo_valueOf_237 rfl (by decide) ?_
                              cases h
                              exact q_zret d_Mo_valueOf_238 rfl (Nat.zero_le _) (Nat.zero_le _)
                            · refine q_if_eq_f 233 d_Mo_valueOf_230 rfl 237 (by decide) c35 ?_
                              refine q_iconst (v := 1) 234 d_Mo_valueOf_233 rfl (by decide) ?_
                              refine q_goto 238 d_Mo_valueOf_234 (by decide) ?_
                              cases h
                              exact q_zret d_Mo_valueOf_238 rfl (Nat.zero_le _) (Nat.zero_le _)
                        · refine q_ite h (fun c37 h => ?_) (fun c37 h => ?_)
                          · refine q_tableIn (off := 173) 239 d_Mo_valueOf_66 (by rw [c37] <;> decide +kernel) (by rw [c37] <;> decide +kernel) (by rw [c37] <;> decide +kernel) (by decide) ?_
                            refine q_iload 241 d_Mo_valueOf_239 rfl 5 rfl ?_
                            refine q_ite h (fun c39 h => ?_) (fun c39 h => ?_)
                            · refine q_if_ne_t 249 d_Mo_valueOf_241 (by decide) c39 ?_
                              refine q_iconst (v := 1) 250 d_Mo_valueOf_249 rfl (by decide) ?_
                              refine q_goto 254 d_Mo_valueOf_250 (by decide) ?_
                              cases h
                              exact q_zret d_Mo_valueOf_254 rfl (Nat.zero_le _) (Nat.zero_le _)
                            · refine q_if_ne_f 244 d_Mo_valueOf_241 rfl 249 (by decide) (Classical.not_not.mp c39) ?_
                              refine q_iload 246 d_Mo_valueOf_244 rfl 0 rfl ?_
                              refine q_ite h (fun c38 h => ?_) (fun c38 h => ?_)
                              · refine q_if_eq_t 253 d_Mo_valueOf_246 (by decide) c38 ?_
                                refine q_iconst (v := 0) 254 d_Mo_valueOf_253 rfl (by decide) ?_
                                cases h
                                exact q_zret d_Mo_valueOf_254 rfl (Nat.zero_le _) (Nat.zero_le _)
                              · refine q_if_eq_f 249 d_Mo_valueOf_246 rfl 253 (by decide) c38 ?_
                                refine q_iconst (v := 1) 250 d_Mo_valueOf_249 rfl (by decide) ?_
                                refine q_goto 254 d_Mo_valueOf_250 (by decide) ?_
                                cases h
                                exact q_zret d_Mo_valueOf_254 rfl (Nat.zero_le _) (Nat.zero_le _)
                          · refine q_ite h (fun c40 h => ?_) (fun c40 h => ?_)
                            · refine q_tableIn (off := 189) 255 d_Mo_valueOf_66 (by rw [c40] <;> decide +kernel) (by rw [c40] <;> decide +kernel) (by rw [c40] <;> decide +kernel) (by decide) ?_
                              refine q_iload 257 d_Mo_valueOf_255 rfl 5 rfl ?_
                              refine q_ite h (fun c42 h => ?_) (fun c42 h => ?_)
                              · refine q_if_eq_t 265 d_Mo_valueOf_257 (by decide) c42 ?_
                                refine q_iconst (v := 1) 266 d_Mo_valueOf_265 rfl (by decide) ?_
                                refine q_goto 270 d_Mo_valueOf_266 (by decide) ?_
                                cases h
                                exact q_zret d_Mo_valueOf_270 rfl (Nat.zero_le _) (Nat.zero_le _)
                              · refine q_if_eq_f 260 d_Mo_valueOf_257 rfl 265 (by decide) c42 ?_
                                refine q_iload 262 d_Mo_valueOf_260 rfl 0 rfl ?_
                                refine q_ite h (fun c41 h => ?_) (fun c41 h => ?_)
                                · refine q_if_eq_t 269 d_Mo_valueOf_262 (by decide) c41 ?_
                                  refine q_iconst (v := 0) 270 d_Mo_valueOf_269 rfl (by decide) ?_
                                  cases h
                                  exact q_zret d_Mo_valueOf_270 rfl (Nat.zero_le _) (Nat.zero_le _)
                                · refine q_if_eq_f 265 d_Mo_valueOf_262 rfl 269 (by decide) c41 ?_
                                  refine q_iconst (v := 1) 266 d_Mo_valueOf_265 rfl (by decide) ?_
                                  refine q_goto 270 d_Mo_valueOf_266 (by decide) ?_
                                  cases h
                                  exact q_zret d_Mo_valueOf_270 rfl (Nat.zero_le _) (Nat.zero_le _)
                            · refine q_tableOut 271 d_Mo_valueOf_66 (by have ec12 := lv_neT c12 (by decide : (0 : Int32).toInt = 0); have ec13 := lv_neT c13 (by decide : (1 : Int32).toInt = 1); have ec14 := lv_neT c14 (by decide : (2 : Int32).toInt = 2); have ec15 := lv_neT c15 (by decide : (3 : Int32).toInt = 3); have ec16 := lv_neT c16 (by decide : (4 : Int32).toInt = 4); have ec17 := lv_neT c17 (by decide : (5 : Int32).toInt = 5); have ec19 := lv_neT c19 (by decide : (6 : Int32).toInt = 6); have ec20 := lv_neT c20 (by decide : (7 : Int32).toInt = 7); have ec23 := lv_neT c23 (by decide : (8 : Int32).toInt = 8); have ec26 := lv_neT c26 (by decide : (9 : Int32).toInt = 9); have ec30 := lv_neT c30 (by decide : (10 : Int32).toInt = 10); have ec34 := lv_neT c34 (by decide : (11 : Int32).toInt = 11); have ec37 := lv_neT c37 (by decide : (12 : Int32).toInt = 12); have ec40 := lv_neT c40 (by decide : (13 : Int32).toInt = 13); omega) (by decide) ?_
                              refine q_sub (lv' := [(0, .ref 32), (1, .int v1), (3, .int v3)]) [1, 2, 4] rfl ?_
                              exact t_Mo_valueOf_J271  _ _ _ h
set_option maxHeartbeats 4000000 in
set_option maxRecDepth 100000 in
theorem t_Mo_valueOf_J57 {E : q_E} {c d : Nat} {ρ : Int32} : ∀ (x : q_W) (v1 : Int32) (v2 : Int32) (v3 : Int32) (v4 : Int32), f_Mo_valueOf_J57  x v1 v2 v3 v4 = some ρ → AW E (q_rm 0) m_Mo_valueOf (q_cells E c d x) 0 0 57 [(0, .ref 32), (1, .int v1), (2, .int v2), (3, .int v3), (4, .int v4)] [] (q_rP E c d x ρ) := by
  intro x v1 v2 v3 v4 h
  unfold f_Mo_valueOf_J57 at h
  refine q_iconst (v := 0) 58 d_Mo_valueOf_57 rfl (by decide) ?_
  exact t_Mo_valueOf_J58  _ _ _ _ _ _ h
set_option maxHeartbeats 4000000 in
set_option maxRecDepth 100000 in
theorem t_Mo_valueOf_J28 {E : q_E} {c d : Nat} {ρ : Int32} : ∀ (x : q_W) (v1 : Int32) (v2 : Int32) (v3 : Int32) (s0 : Int32), f_Mo_valueOf_J28  x v1 v2 v3 s0 = some ρ → AW E (q_rm 0) m_Mo_valueOf (q_cells E c d x) 0 0 28 [(0, .ref 32), (1, .int v1), (2, .int v2), (3, .int v3)] [.int s0] (q_rP E c d x ρ) := by
  intro x v1 v2 v3 s0 h
  unfold f_Mo_valueOf_J28 at h
  refine q_istore (lv' := [(4, .int s0), (0, .ref 32), (1, .int v1), (2, .int v2), (3, .int v3)]) 30 d_Mo_valueOf_28 rfl (by decide) rfl ?_
  refine q_aloadn 31 d_Mo_valueOf_30 rfl 1 rfl ?_
  refine q_xget 34 d_Mo_valueOf_31 rfl fl_Mo_19 (by decide) rfl rfl ?_
  refine q_iloadn 35 d_Mo_valueOf_34 rfl 2 rfl ?_
  refine q_xiald 36 d_Mo_valueOf_35 rfl (by decide) (fun _ => rfl) h (fun w6 ew6 h => ?_)
  refine q_ite h (fun c10 h => ?_) (fun c10 h => ?_)
  · refine q_if_lt_t 57 d_Mo_valueOf_36 (by decide) c10 ?_
    refine q_sub (lv' := [(0, .ref 32), (1, .int v1), (2, .int v2), (3, .int v3), (4, .int s0)]) [1, 2, 3, 4, 0] rfl ?_
    exact t_Mo_valueOf_J57  _ _ _ _ _ h
  · refine q_if_lt_f 39 d_Mo_valueOf_36 rfl 57 (by decide) c10 ?_
    refine q_aloadn 40 d_Mo_valueOf_39 rfl 1 rfl ?_
    refine q_xget 43 d_Mo_valueOf_40 rfl fl_Mo_62 (by decide) rfl rfl ?_
    refine q_aloadn 44 d_Mo_valueOf_43 rfl 1 rfl ?_
    refine q_xget 47 d_Mo_valueOf_44 rfl fl_Mo_19 (by decide) rfl rfl ?_
    refine q_iloadn 48 d_Mo_valueOf_47 rfl 2 rfl ?_
    refine q_xiald 49 d_Mo_valueOf_48 rfl (by decide) (fun _ => rfl) h (fun w7 ew7 h => ?_)
    refine q_xzald 50 d_Mo_valueOf_49 rfl (by decide) (fun _ => rfl) h (fun w8 ew8 h => ?_)
    refine q_ite h (fun c9 h => ?_) (fun c9 h => ?_)
    · refine q_if_eq_t 57 d_Mo_valueOf_50 (by decide) c9 ?_
      refine q_sub (lv' := [(0, .ref 32), (1, .int v1), (2, .int v2), (3, .int v3), (4, .int s0)]) [1, 2, 3, 4, 0] rfl ?_
      exact t_Mo_valueOf_J57  _ _ _ _ _ h
    · refine q_if_eq_f 53 d_Mo_valueOf_50 rfl 57 (by decide) c9 ?_
      refine q_iconst (v := 1) 54 d_Mo_valueOf_53 rfl (by decide) ?_
      refine q_goto 58 d_Mo_valueOf_54 (by decide) ?_
      refine q_sub (lv' := [(0, .ref 32), (1, .int v1), (2, .int v2), (3, .int v3), (4, .int s0)]) [1, 2, 3, 4, 0] rfl ?_
      exact t_Mo_valueOf_J58  _ _ _ _ _ _ h
set_option maxHeartbeats 4000000 in
set_option maxRecDepth 100000 in
theorem t_Mo_valueOf_J27 {E : q_E} {c d : Nat} {ρ : Int32} : ∀ (x : q_W) (v1 : Int32) (v2 : Int32) (v3 : Int32), f_Mo_valueOf_J27  x v1 v2 v3 = some ρ → AW E (q_rm 0) m_Mo_valueOf (q_cells E c d x) 0 0 27 [(0, .ref 32), (1, .int v1), (2, .int v2), (3, .int v3)] [] (q_rP E c d x ρ) := by
  intro x v1 v2 v3 h
  unfold f_Mo_valueOf_J27 at h
  refine q_iconst (v := 0) 28 d_Mo_valueOf_27 rfl (by decide) ?_
  exact t_Mo_valueOf_J28  _ _ _ _ _ h
set_option maxHeartbeats 4000000 in
set_option maxRecDepth 100000 in
theorem t_Mo_valueOf {E : q_E} {c d : Nat} {x : q_W} {a1 : Int32} {a2 : Int32} {a3 : Int32} {ρ : Int32} (h : f_Mo_valueOf x a1 a2 a3 = some ρ) : q_Ct E y_Mo_valueOf m_Mo_valueOf (q_rm 0) (q_cells E c d x) [.ref 32, .int a1, .int a2, .int a3] (q_rP E c d x ρ) := by
  unfold f_Mo_valueOf at h
  refine q_Ct.of (lv := [(0, .ref 32), (1, .int a1), (2, .int a2), (3, .int a3)]) (by decide) ⟨rfl, rfl⟩ rfl (Nat.le_of_ble_eq_true rfl) ?_
  refine q_aloadn 1 d_Mo_valueOf_0 rfl 0 rfl ?_
  refine q_xget 4 d_Mo_valueOf_1 rfl fl_Mo_16 (by decide) rfl rfl ?_
  refine q_iloadn 5 d_Mo_valueOf_4 rfl 1 rfl ?_
  refine q_xiald 6 d_Mo_valueOf_5 rfl (by decide) (fun _ => rfl) h (fun w1 ew1 h => ?_)
  refine q_ite h (fun c5 h => ?_) (fun c5 h => ?_)
  · refine q_if_lt_t 27 d_Mo_valueOf_6 (by decide) c5 ?_
    exact t_Mo_valueOf_J27  _ _ _ _ h
  · refine q_if_lt_f 9 d_Mo_valueOf_6 rfl 27 (by decide) c5 ?_
    refine q_aloadn 10 d_Mo_valueOf_9 rfl 0 rfl ?_
    refine q_xget 13 d_Mo_valueOf_10 rfl fl_Mo_62 (by decide) rfl rfl ?_
    refine q_aloadn 14 d_Mo_valueOf_13 rfl 0 rfl ?_
    refine q_xget 17 d_Mo_valueOf_14 rfl fl_Mo_16 (by decide) rfl rfl ?_
    refine q_iloadn 18 d_Mo_valueOf_17 rfl 1 rfl ?_
    refine q_xiald 19 d_Mo_valueOf_18 rfl (by decide) (fun _ => rfl) h (fun w2 ew2 h => ?_)
    refine q_xzald 20 d_Mo_valueOf_19 rfl (by decide) (fun _ => rfl) h (fun w3 ew3 h => ?_)
    refine q_ite h (fun c4 h => ?_) (fun c4 h => ?_)
    · refine q_if_eq_t 27 d_Mo_valueOf_20 (by decide) c4 ?_
      exact t_Mo_valueOf_J27  _ _ _ _ h
    · refine q_if_eq_f 23 d_Mo_valueOf_20 rfl 27 (by decide) c4 ?_
      refine q_iconst (v := 1) 24 d_Mo_valueOf_23 rfl (by decide) ?_
      refine q_goto 28 d_Mo_valueOf_24 (by decide) ?_
      exact t_Mo_valueOf_J28  _ _ _ _ _ h
set_option maxHeartbeats 4000000 in
set_option maxRecDepth 100000 in
theorem t_Mo_look_J243 {E : q_E} {c d : Nat} {ρ : q_W} {K172 : q_W → Int32 → Int32 → Int32 → Int32 → Option q_W} {E172 : q_W → Int32 → Int32 → Int32 → Option q_W} (hK172 : ∀ x v1 v3 v4 v5, K172 x v1 v3 v4 v5 = some ρ → AW E (q_rm 1) m_Mo_look (q_cells E c d x) 0 0 172 [(0, .ref 32), (1, .int v1), (3, .int v3), (4, .int v4), (5, .int v5)] [] (q_rV E c d ρ)) (hE172 : ∀ x u1 u3 u4, E172 x u1 u3 u4 = some ρ → AW E (q_rm 1) m_Mo_look (q_cells E c d x) 0 0 281 [(0, .ref 32), (1, .int u1), (3, .int u3), (4, .int u4)] [] (q_rV E c d ρ)) : ∀ (x : q_W) (v1 : Int32) (v4 : Int32) (v5 : Int32) (v6 : Int32) (v7 : Int32) (s0 : Int32), f_Mo_look_J243 K172 E172 x v1 v4 v5 v6 v7 s0 = some ρ → AW E (q_rm 1) m_Mo_look (q_cells E c d x) 0 0 243 [(0, .ref 32), (1, .int v1), (4, .int v4), (5, .int v5), (6, .int v6), (7, .int v7)] [.int s0] (q_rV E c d ρ) := by
  intro x v1 v4 v5 v6 v7 s0 h
  unfold f_Mo_look_J243 at h
  refine q_istoren (lv' := [(3, .int s0), (0, .ref 32), (1, .int v1), (4, .int v4), (5, .int v5), (6, .int v6), (7, .int v7)]) 244 d_Mo_look_243 rfl (by decide) rfl ?_
  refine q_aloadn 245 d_Mo_look_244 rfl 1 rfl ?_
  refine q_xget 248 d_Mo_look_245 rfl fl_Mo_62 (by decide) rfl rfl ?_
  refine q_aloadn 249 d_Mo_look_248 rfl 1 rfl ?_
  refine q_xget 252 d_Mo_look_249 rfl fl_Mo_19 (by decide) rfl rfl ?_
  refine q_iload 254 d_Mo_look_252 rfl 5 rfl ?_
  refine q_xiald 255 d_Mo_look_254 rfl (by decide) (fun _ => rfl) h (fun w40 ew40 h => ?_)
  refine q_xzald 256 d_Mo_look_255 rfl (by decide) (fun _ => rfl) h (fun w41 ew41 h => ?_)
  refine q_iload 258 d_Mo_look_256 rfl 6 rfl ?_
  refine q_ite h (fun c43 h => ?_) (fun c43 h => ?_)
  · refine q_icmp_ne_t 271 d_Mo_look_258 (by decide) c43 ?_
    refine q_iload 273 d_Mo_look_271 rfl 3 rfl ?_
    refine q_istore (lv' := [(4, .int v4), (3, .int s0), (0, .ref 32), (1, .int v1), (5, .int v5), (6, .int v6), (7, .int v7)]) 275 d_Mo_look_273 rfl (by decide) rfl ?_
    refine q_iinc (v := (v5 + 1)) (lv' := [(5, .int (v5 + 1)), (4, .int v4), (3, .int s0), (0, .ref 32), (1, .int v1), (6, .int v6), (7, .int v7)]) 278 d_Mo_look_275 rfl 4 rfl (q_ai (by decide)) (by decide) rfl ?_
    refine q_goto 172 d_Mo_look_278 (by decide) ?_
    refine q_sub (lv' := [(0, .ref 32), (1, .int v1), (3, .int s0), (4, .int v4), (5, .int (v5 + 1))]) [3, 4, 2, 1, 0] rfl ?_
    exact hK172 _ _ _ _ _ h
  · refine q_icmp_ne_f 261 d_Mo_look_258 rfl 271 (by decide) (Classical.not_not.mp c43) ?_
    refine q_iload 263 d_Mo_look_261 rfl 3 rfl ?_
    refine q_iconst (v := 1) 264 d_Mo_look_263 rfl (by decide) ?_
    refine q_iload 266 d_Mo_look_264 rfl 4 rfl ?_
    refine q_ishl 267 d_Mo_look_266 rfl ?_
    refine q_ior 268 d_Mo_look_267 rfl ?_
    refine q_goto 273 d_Mo_look_268 (by decide) ?_
    refine q_xtop h (fun z42 ez42 h => ?_)
    refine q_istore (lv' := [(4, .int z42), (3, .int s0), (0, .ref 32), (1, .int v1), (5, .int v5), (6, .int v6), (7, .int v7)]) 275 d_Mo_look_273 rfl (by decide) rfl ?_
    refine q_iinc (v := (v5 + 1)) (lv' := [(5, .int (v5 + 1)), (4, .int z42), (3, .int s0), (0, .ref 32), (1, .int v1), (6, .int v6), (7, .int v7)]) 278 d_Mo_look_275 rfl 4 rfl (q_ai (by decide)) (by decide) rfl ?_
    refine q_goto 172 d_Mo_look_278 (by decide) ?_
    refine q_sub (lv' := [(0, .ref 32), (1, .int v1), (3, .int s0), (4, .int z42), (5, .int (v5 + 1))]) [3, 4, 2, 1, 0] rfl ?_
    exact hK172 _ _ _ _ _ h
set_option maxHeartbeats 4000000 in
set_option maxRecDepth 100000 in
theorem t_Mo_look_J219 {E : q_E} {c d : Nat} {ρ : q_W} {K172 : q_W → Int32 → Int32 → Int32 → Int32 → Option q_W} {E172 : q_W → Int32 → Int32 → Int32 → Option q_W} (hK172 : ∀ x v1 v3 v4 v5, K172 x v1 v3 v4 v5 = some ρ → AW E (q_rm 1) m_Mo_look (q_cells E c d x) 0 0 172 [(0, .ref 32), (1, .int v1), (3, .int v3), (4, .int v4), (5, .int v5)] [] (q_rV E c d ρ)) (hE172 : ∀ x u1 u3 u4, E172 x u1 u3 u4 = some ρ → AW E (q_rm 1) m_Mo_look (q_cells E c d x) 0 0 281 [(0, .ref 32), (1, .int u1), (3, .int u3), (4, .int u4)] [] (q_rV E c d ρ)) : ∀ (x : q_W) (v1 : Int32) (v3 : Int32) (v4 : Int32) (v5 : Int32) (v6 : Int32) (s0 : Int32), f_Mo_look_J219 K172 E172 x v1 v3 v4 v5 v6 s0 = some ρ → AW E (q_rm 1) m_Mo_look (q_cells E c d x) 0 0 219 [(0, .ref 32), (1, .int v1), (3, .int v3), (4, .int v4), (5, .int v5), (6, .int v6)] [.int s0] (q_rV E c d ρ) := by
  intro x v1 v3 v4 v5 v6 s0 h
  unfold f_Mo_look_J219 at h
  refine q_istore (lv' := [(7, .int s0), (0, .ref 32), (1, .int v1), (3, .int v3), (4, .int v4), (5, .int v5), (6, .int v6)]) 221 d_Mo_look_219 rfl (by decide) rfl ?_
  refine q_aloadn 222 d_Mo_look_221 rfl 1 rfl ?_
  refine q_xget 225 d_Mo_look_222 rfl fl_Mo_62 (by decide) rfl rfl ?_
  refine q_iload 227 d_Mo_look_225 rfl 6 rfl ?_
  refine q_xzald 228 d_Mo_look_227 rfl (by decide) (fun _ => rfl) h (fun w34 ew34 h => ?_)
  refine q_iload 230 d_Mo_look_228 rfl 0 rfl ?_
  refine q_ite h (fun c35 h => ?_) (fun c35 h => ?_)
  · refine q_icmp_ne_t 242 d_Mo_look_230 (by decide) c35 ?_
    refine q_iloadn 243 d_Mo_look_242 rfl 3 rfl ?_
    refine q_sub (lv' := [(0, .ref 32), (1, .int v1), (4, .int v4), (5, .int v5), (6, .int v6), (7, .int s0)]) [1, 2, 4, 5, 6, 0] rfl ?_
    exact t_Mo_look_J243 hK172 hE172 _ _ _ _ _ _ _ h
  · refine q_icmp_ne_f 233 d_Mo_look_230 rfl 242 (by decide) (Classical.not_not.mp c35) ?_
    refine q_iloadn 234 d_Mo_look_233 rfl 3 rfl ?_
    refine q_iconst (v := 1) 235 d_Mo_look_234 rfl (by decide) ?_
    refine q_iload 237 d_Mo_look_235 rfl 5 rfl ?_
    refine q_ishl 238 d_Mo_look_237 rfl ?_
    refine q_ior 239 d_Mo_look_238 rfl ?_
    refine q_goto 243 d_Mo_look_239 (by decide) ?_
    refine q_sub (lv' := [(0, .ref 32), (1, .int v1), (4, .int v4), (5, .int v5), (6, .int v6), (7, .int s0)]) [1, 2, 4, 5, 6, 0] rfl ?_
    exact t_Mo_look_J243 hK172 hE172 _ _ _ _ _ _ _ h
set_option maxHeartbeats 4000000 in
set_option maxRecDepth 100000 in
theorem t_Mo_look_J214 {E : q_E} {c d : Nat} {ρ : q_W} {K172 : q_W → Int32 → Int32 → Int32 → Int32 → Option q_W} {E172 : q_W → Int32 → Int32 → Int32 → Option q_W} (hK172 : ∀ x v1 v3 v4 v5, K172 x v1 v3 v4 v5 = some ρ → AW E (q_rm 1) m_Mo_look (q_cells E c d x) 0 0 172 [(0, .ref 32), (1, .int v1), (3, .int v3), (4, .int v4), (5, .int v5)] [] (q_rV E c d ρ)) (hE172 : ∀ x u1 u3 u4, E172 x u1 u3 u4 = some ρ → AW E (q_rm 1) m_Mo_look (q_cells E c d x) 0 0 281 [(0, .ref 32), (1, .int u1), (3, .int u3), (4, .int u4)] [] (q_rV E c d ρ)) : ∀ (x : q_W) (v1 : Int32) (v3 : Int32) (v4 : Int32) (v5 : Int32) (v6 : Int32), f_Mo_look_J214 K172 E172 x v1 v3 v4 v5 v6 = some ρ → AW E (q_rm 1) m_Mo_look (q_cells E c d x) 0 0 214 [(0, .ref 32), (1, .int v1), (3, .int v3), (4, .int v4), (5, .int v5), (6, .int v6)] [] (q_rV E c d ρ) := by
  intro x v1 v3 v4 v5 v6 h
  unfold f_Mo_look_J214 at h
  refine q_iconst (v := 1) 215 d_Mo_look_214 rfl (by decide) ?_
  refine q_goto 219 d_Mo_look_215 (by decide) ?_
  exact t_Mo_look_J219 hK172 hE172 _ _ _ _ _ _ _ h
set_option maxHeartbeats 4000000 in
set_option maxRecDepth 100000 in
theorem t_Mo_look_L172 {E : q_E} {c d : Nat} {ρ : q_W} {E172 : q_W → Int32 → Int32 → Int32 → Option q_W} (hE172 : ∀ x u1 u3 u4, E172 x u1 u3 u4 = some ρ → AW E (q_rm 1) m_Mo_look (q_cells E c d x) 0 0 281 [(0, .ref 32), (1, .int u1), (3, .int u3), (4, .int u4)] [] (q_rV E c d ρ)) : ∀ (n : Nat) (x : q_W) (v1 : Int32) (v3 : Int32) (v4 : Int32) (v5 : Int32), f_Mo_look_L172 E172 n x v1 v3 v4 v5 = some ρ → AW E (q_rm 1) m_Mo_look (q_cells E c d x) 0 0 172 [(0, .ref 32), (1, .int v1), (3, .int v3), (4, .int v4), (5, .int v5)] [] (q_rV E c d ρ) := by
  intro n
  induction n with
  | zero =>
    intro x v1 v3 v4 v5 h
    have h : (none : Option q_W) = some ρ := h
    cases h
  | succ n ih =>
    intro x v1 v3 v4 v5 h
    unfold f_Mo_look_L172 at h
    refine q_iload 174 d_Mo_look_172 rfl 4 rfl ?_
    refine q_aloadn 175 d_Mo_look_174 rfl 0 rfl ?_
    refine q_xget 178 d_Mo_look_175 rfl fl_Mo_156 (by decide) rfl rfl ?_
    refine q_ite h (fun c20 h => ?_) (fun c20 h => ?_)
    · refine q_icmp_ge_t 281 d_Mo_look_178 (by decide) c20 ?_
      refine q_sub (lv' := [(0, .ref 32), (1, .int v1), (3, .int v3), (4, .int v4)]) [0, 1, 2, 3] rfl ?_
      exact hE172 _ _ _ _ h
    · refine q_icmp_ge_f 181 d_Mo_look_178 rfl 281 (by decide) c20 ?_
      refine q_aloadn 182 d_Mo_look_181 rfl 0 rfl ?_
      refine q_xget 185 d_Mo_look_182 rfl fl_Mo_28 (by decide) rfl rfl ?_
      refine q_iload 187 d_Mo_look_185 rfl 4 rfl ?_
      refine q_xiald 188 d_Mo_look_187 rfl (by decide) (fun _ => rfl) h (fun w15 ew15 h => ?_)
      refine q_istore (lv' := [(6, .int w15), (0, .ref 32), (1, .int v1), (3, .int v3), (4, .int v4), (5, .int v5)]) 190 d_Mo_look_188 rfl (by decide) rfl ?_
      refine q_aloadn 191 d_Mo_look_190 rfl 1 rfl ?_
      refine q_xget 194 d_Mo_look_191 rfl fl_Mo_13 (by decide) rfl rfl ?_
      refine q_iload 196 d_Mo_look_194 rfl 0 rfl ?_
      refine q_xiald 197 d_Mo_look_196 rfl (by decide) (fun _ => rfl) h (fun w16 ew16 h => ?_)
      refine q_bipush (v := 7) 199 d_Mo_look_197 rfl (by decide) ?_
      refine q_ite h (fun c19 h => ?_) (fun c19 h => ?_)
      · refine q_icmp_eq_t 214 d_Mo_look_199 (by decide) c19 ?_
        refine q_sub (lv' := [(0, .ref 32), (1, .int v1), (3, .int v3), (4, .int v4), (5, .int v5), (6, .int w15)]) [1, 2, 3, 4, 5, 0] rfl ?_
        exact t_Mo_look_J214 ih hE172 _ _ _ _ _ _ h
      · refine q_icmp_eq_f 202 d_Mo_look_199 rfl 214 (by decide) c19 ?_
        refine q_aloadn 203 d_Mo_look_202 rfl 1 rfl ?_
        refine q_xget 206 d_Mo_look_203 rfl fl_Mo_13 (by decide) rfl rfl ?_
        refine q_iload 208 d_Mo_look_206 rfl 0 rfl ?_
        refine q_xiald 209 d_Mo_look_208 rfl (by decide) (fun _ => rfl) h (fun w17 ew17 h => ?_)
        refine q_bipush (v := 9) 211 d_Mo_look_209 rfl (by decide) ?_
        refine q_ite h (fun c18 h => ?_) (fun c18 h => ?_)
        · refine q_icmp_ne_t 218 d_Mo_look_211 (by decide) c18 ?_
          refine q_iconst (v := 0) 219 d_Mo_look_218 rfl (by decide) ?_
          refine q_sub (lv' := [(0, .ref 32), (1, .int v1), (3, .int v3), (4, .int v4), (5, .int v5), (6, .int w15)]) [1, 2, 3, 4, 5, 0] rfl ?_
          exact t_Mo_look_J219 ih hE172 _ _ _ _ _ _ _ h
        · refine q_icmp_ne_f 214 d_Mo_look_211 rfl 218 (by decide) (Classical.not_not.mp c18) ?_
          refine q_sub (lv' := [(0, .ref 32), (1, .int v1), (3, .int v3), (4, .int v4), (5, .int v5), (6, .int w15)]) [1, 2, 3, 4, 5, 0] rfl ?_
          exact t_Mo_look_J214 ih hE172 _ _ _ _ _ _ h
set_option maxHeartbeats 4000000 in
set_option maxRecDepth 100000 in
theorem t_Mo_look_J134 {E : q_E} {c d : Nat} {ρ : q_W} {K84 : q_W → Int32 → Int32 → Int32 → Option q_W} {E84 : q_W → Int32 → Int32 → Option q_W} (hK84 : ∀ x v1 v2 v3, K84 x v1 v2 v3 = some ρ → AW E (q_rm 1) m_Mo_look (q_cells E c d x) 0 0 84 [(0, .ref 32), (1, .int v1), (2, .int v2), (3, .int v3)] [] (q_rV E c d ρ)) (hE84 : ∀ x u1 u2, E84 x u1 u2 = some ρ → AW E (q_rm 1) m_Mo_look (q_cells E c d x) 0 0 157 [(0, .ref 32), (1, .int u1), (2, .int u2)] [] (q_rV E c d ρ)) : ∀ (x : q_W) (v1 : Int32) (v2 : Int32) (v3 : Int32) (s0 : Int32), f_Mo_look_J134 K84 E84 x v1 v2 v3 s0 = some ρ → AW E (q_rm 1) m_Mo_look (q_cells E c d x) 0 0 134 [(0, .ref 32), (1, .int v1), (2, .int v2), (3, .int v3)] [.int s0] (q_rV E c d ρ) := by
  intro x v1 v2 v3 s0 h
  unfold f_Mo_look_J134 at h
  refine q_istore (lv' := [(5, .int s0), (0, .ref 32), (1, .int v1), (2, .int v2), (3, .int v3)]) 136 d_Mo_look_134 rfl (by decide) rfl ?_
  refine q_iload 138 d_Mo_look_136 rfl 0 rfl ?_
  refine q_ite h (fun c37 h => ?_) (fun c37 h => ?_)
  · refine q_if_eq_t 149 d_Mo_look_138 (by decide) c37 ?_
    refine q_iloadn 150 d_Mo_look_149 rfl 3 rfl ?_
    refine q_istoren (lv' := [(2, .int v2), (5, .int s0), (0, .ref 32), (1, .int v1), (3, .int v3)]) 151 d_Mo_look_150 rfl (by decide) rfl ?_
    refine q_iinc (v := (v3 + 1)) (lv' := [(3, .int (v3 + 1)), (2, .int v2), (5, .int s0), (0, .ref 32), (1, .int v1)]) 154 d_Mo_look_151 rfl 4 rfl (q_ai (by decide)) (by decide) rfl ?_
    refine q_goto 84 d_Mo_look_154 (by decide) ?_
    refine q_sub (lv' := [(0, .ref 32), (1, .int v1), (2, .int v2), (3, .int (v3 + 1))]) [3, 4, 1, 0] rfl ?_
    exact hK84 _ _ _ _ h
  · refine q_if_eq_f 141 d_Mo_look_138 rfl 149 (by decide) c37 ?_
    refine q_iloadn 142 d_Mo_look_141 rfl 3 rfl ?_
    refine q_iconst (v := 1) 143 d_Mo_look_142 rfl (by decide) ?_
    refine q_iloadn 144 d_Mo_look_143 rfl 4 rfl ?_
    refine q_ishl 145 d_Mo_look_144 rfl ?_
    refine q_ior 146 d_Mo_look_145 rfl ?_
    refine q_goto 150 d_Mo_look_146 (by decide) ?_
    refine q_xtop h (fun z36 ez36 h => ?_)
    refine q_istoren (lv' := [(2, .int z36), (5, .int s0), (0, .ref 32), (1, .int v1), (3, .int v3)]) 151 d_Mo_look_150 rfl (by decide) rfl ?_
    refine q_iinc (v := (v3 + 1)) (lv' := [(3, .int (v3 + 1)), (2, .int z36), (5, .int s0), (0, .ref 32), (1, .int v1)]) 154 d_Mo_look_151 rfl 4 rfl (q_ai (by decide)) (by decide) rfl ?_
    refine q_goto 84 d_Mo_look_154 (by decide) ?_
    refine q_sub (lv' := [(0, .ref 32), (1, .int v1), (2, .int z36), (3, .int (v3 + 1))]) [3, 4, 1, 0] rfl ?_
    exact hK84 _ _ _ _ h
set_option maxHeartbeats 4000000 in
set_option maxRecDepth 100000 in
theorem t_Mo_look_L84 {E : q_E} {c d : Nat} {ρ : q_W} {E84 : q_W → Int32 → Int32 → Option q_W} (hE84 : ∀ x u1 u2, E84 x u1 u2 = some ρ → AW E (q_rm 1) m_Mo_look (q_cells E c d x) 0 0 157 [(0, .ref 32), (1, .int u1), (2, .int u2)] [] (q_rV E c d ρ)) : ∀ (n : Nat) (x : q_W) (v1 : Int32) (v2 : Int32) (v3 : Int32), f_Mo_look_L84 E84 n x v1 v2 v3 = some ρ → AW E (q_rm 1) m_Mo_look (q_cells E c d x) 0 0 84 [(0, .ref 32), (1, .int v1), (2, .int v2), (3, .int v3)] [] (q_rV E c d ρ) := by
  intro n
  induction n with
  | zero =>
    intro x v1 v2 v3 h
    have h : (none : Option q_W) = some ρ := h
    cases h
  | succ n ih =>
    intro x v1 v2 v3 h
    unfold f_Mo_look_L84 at h
    refine q_iloadn 85 d_Mo_look_84 rfl 3 rfl ?_
    refine q_aloadn 86 d_Mo_look_85 rfl 0 rfl ?_
    refine q_xget 89 d_Mo_look_86 rfl fl_Mo_153 (by decide) rfl rfl ?_
    refine q_ite h (fun c27 h => ?_) (fun c27 h => ?_)
    · refine q_icmp_ge_t 157 d_Mo_look_89 (by decide) c27 ?_
      refine q_sub (lv' := [(0, .ref 32), (1, .int v1), (2, .int v2)]) [0, 1, 2] rfl ?_
      exact hE84 _ _ _ h
    · refine q_icmp_ge_f 92 d_Mo_look_89 rfl 157 (by decide) c27 ?_
      refine q_aloadn 93 d_Mo_look_92 rfl 0 rfl ?_
      refine q_xget 96 d_Mo_look_93 rfl fl_Mo_25 (by decide) rfl rfl ?_
      refine q_iloadn 97 d_Mo_look_96 rfl 3 rfl ?_
      refine q_xiald 98 d_Mo_look_97 rfl (by decide) (fun _ => rfl) h (fun w21 ew21 h => ?_)
      refine q_istore (lv' := [(4, .int w21), (0, .ref 32), (1, .int v1), (2, .int v2), (3, .int v3)]) 100 d_Mo_look_98 rfl (by decide) rfl ?_
      refine q_aloadn 101 d_Mo_look_100 rfl 1 rfl ?_
      refine q_xget 104 d_Mo_look_101 rfl fl_Mo_13 (by decide) rfl rfl ?_
      refine q_iload 106 d_Mo_look_104 rfl 0 rfl ?_
      refine q_xiald 107 d_Mo_look_106 rfl (by decide) (fun _ => rfl) h (fun w22 ew22 h => ?_)
      refine q_bipush (v := 6) 109 d_Mo_look_107 rfl (by decide) ?_
      refine q_ite h (fun c26 h => ?_) (fun c26 h => ?_)
      · refine q_icmp_ne_t 127 d_Mo_look_109 (by decide) c26 ?_
        refine q_aloadn 128 d_Mo_look_127 rfl 1 rfl ?_
        refine q_xget 131 d_Mo_look_128 rfl fl_Mo_62 (by decide) rfl rfl ?_
        refine q_iload 133 d_Mo_look_131 rfl 0 rfl ?_
        refine q_xzald 134 d_Mo_look_133 rfl (by decide) (fun _ => rfl) h (fun w23 ew23 h => ?_)
        refine q_sub (lv' := [(0, .ref 32), (1, .int v1), (2, .int v2), (3, .int v3)]) [1, 2, 3, 4] rfl ?_
        exact t_Mo_look_J134 ih hE84 _ _ _ _ _ h
      · refine q_icmp_ne_f 112 d_Mo_look_109 rfl 127 (by decide) (Classical.not_not.mp c26) ?_
        refine q_aloadn 113 d_Mo_look_112 rfl 1 rfl ?_
        refine q_xget 116 d_Mo_look_113 rfl fl_Mo_62 (by decide) rfl rfl ?_
        refine q_aloadn 117 d_Mo_look_116 rfl 1 rfl ?_
        refine q_xget 120 d_Mo_look_117 rfl fl_Mo_19 (by decide) rfl rfl ?_
        refine q_iload 122 d_Mo_look_120 rfl 0 rfl ?_
        refine q_xiald 123 d_Mo_look_122 rfl (by decide) (fun _ => rfl) h (fun w24 ew24 h => ?_)
        refine q_xzald 124 d_Mo_look_123 rfl (by decide) (fun _ => rfl) h (fun w25 ew25 h => ?_)
        refine q_goto 134 d_Mo_look_124 (by decide) ?_
        refine q_sub (lv' := [(0, .ref 32), (1, .int v1), (2, .int v2), (3, .int v3)]) [1, 2, 3, 4] rfl ?_
        exact t_Mo_look_J134 ih hE84 _ _ _ _ _ h
set_option maxHeartbeats 4000000 in
set_option maxRecDepth 100000 in
theorem t_Mo_look_J43 {E : q_E} {c d : Nat} {ρ : q_W} {K2 : q_W → Int32 → Int32 → Option q_W} {E2 : q_W → Int32 → Option q_W} (hK2 : ∀ x v1 v2, K2 x v1 v2 = some ρ → AW E (q_rm 1) m_Mo_look (q_cells E c d x) 0 0 2 [(0, .ref 32), (1, .int v1), (2, .int v2)] [] (q_rV E c d ρ)) (hE2 : ∀ x u1, E2 x u1 = some ρ → AW E (q_rm 1) m_Mo_look (q_cells E c d x) 0 0 63 [(0, .ref 32), (1, .int u1)] [] (q_rV E c d ρ)) : ∀ (x : q_W) (v1 : Int32) (v2 : Int32) (s0 : Int32), f_Mo_look_J43 K2 E2 x v1 v2 s0 = some ρ → AW E (q_rm 1) m_Mo_look (q_cells E c d x) 0 0 43 [(0, .ref 32), (1, .int v1), (2, .int v2)] [.int s0] (q_rV E c d ρ) := by
  intro x v1 v2 s0 h
  unfold f_Mo_look_J43 at h
  refine q_istoren (lv' := [(3, .int s0), (0, .ref 32), (1, .int v1), (2, .int v2)]) 44 d_Mo_look_43 rfl (by decide) rfl ?_
  refine q_aloadn 45 d_Mo_look_44 rfl 1 rfl ?_
  refine q_xget 48 d_Mo_look_45 rfl fl_Mo_62 (by decide) rfl rfl ?_
  refine q_iloadn 49 d_Mo_look_48 rfl 3 rfl ?_
  refine q_aloadn 50 d_Mo_look_49 rfl 1 rfl ?_
  refine q_iloadn 51 d_Mo_look_50 rfl 3 rfl ?_
  refine q_iloadn 52 d_Mo_look_51 rfl 0 rfl ?_
  refine q_iloadn 53 d_Mo_look_52 rfl 2 rfl ?_
  refine q_xcallP (as := [.ref 32, .int v2, .int s0, .int v1]) (rest := [.int v2, .ref 50]) 56 h (fun z e => t_Mo_valueOf e) (q_xinvV (Y := m_Mo_valueOf) d_Mo_look_53 ml_Mo_171 ms_Mo_valueOf.1 ms_Mo_valueOf.2 k_Mo_valueOf.1 (by decide) n_Mo_valueOf (by decide) rfl rfl) k_Mo_valueOf (q_ro (by decide) (by decide)) (Nat.le_of_ble_eq_true rfl) d_Mo_look_53 rfl rfl rfl (fun w38 ew38 h => ?_)
  refine q_xzast 57 d_Mo_look_56 rfl (by decide) (fun _ => rfl) h (fun x39 ex39 h => ?_)
  refine q_iinc (v := (v2 + 1)) (lv' := [(2, .int (v2 + 1)), (3, .int s0), (0, .ref 32), (1, .int v1)]) 60 d_Mo_look_57 rfl 3 rfl (q_ai (by decide)) (by decide) rfl ?_
  refine q_goto 2 d_Mo_look_60 (by decide) ?_
  refine q_sub (lv' := [(0, .ref 32), (1, .int v1), (2, .int (v2 + 1))]) [2, 3, 0] rfl ?_
  exact hK2 _ _ _ h
set_option maxHeartbeats 4000000 in
set_option maxRecDepth 100000 in
theorem t_Mo_look_J42 {E : q_E} {c d : Nat} {ρ : q_W} {K2 : q_W → Int32 → Int32 → Option q_W} {E2 : q_W → Int32 → Option q_W} (hK2 : ∀ x v1 v2, K2 x v1 v2 = some ρ → AW E (q_rm 1) m_Mo_look (q_cells E c d x) 0 0 2 [(0, .ref 32), (1, .int v1), (2, .int v2)] [] (q_rV E c d ρ)) (hE2 : ∀ x u1, E2 x u1 = some ρ → AW E (q_rm 1) m_Mo_look (q_cells E c d x) 0 0 63 [(0, .ref 32), (1, .int u1)] [] (q_rV E c d ρ)) : ∀ (x : q_W) (v1 : Int32) (v2 : Int32), f_Mo_look_J42 K2 E2 x v1 v2 = some ρ → AW E (q_rm 1) m_Mo_look (q_cells E c d x) 0 0 42 [(0, .ref 32), (1, .int v1), (2, .int v2)] [] (q_rV E c d ρ) := by
  intro x v1 v2 h
  unfold f_Mo_look_J42 at h
  refine q_iconst (v := 0) 43 d_Mo_look_42 rfl (by decide) ?_
  exact t_Mo_look_J43 hK2 hE2 _ _ _ _ h
set_option maxHeartbeats 4000000 in
set_option maxRecDepth 100000 in
theorem t_Mo_look_L2 {E : q_E} {c d : Nat} {ρ : q_W} {E2 : q_W → Int32 → Option q_W} (hE2 : ∀ x u1, E2 x u1 = some ρ → AW E (q_rm 1) m_Mo_look (q_cells E c d x) 0 0 63 [(0, .ref 32), (1, .int u1)] [] (q_rV E c d ρ)) : ∀ (n : Nat) (x : q_W) (v1 : Int32) (v2 : Int32), f_Mo_look_L2 E2 n x v1 v2 = some ρ → AW E (q_rm 1) m_Mo_look (q_cells E c d x) 0 0 2 [(0, .ref 32), (1, .int v1), (2, .int v2)] [] (q_rV E c d ρ) := by
  intro n
  induction n with
  | zero =>
    intro x v1 v2 h
    have h : (none : Option q_W) = some ρ := h
    cases h
  | succ n ih =>
    intro x v1 v2 h
    unfold f_Mo_look_L2 at h
    refine q_iloadn 3 d_Mo_look_2 rfl 2 rfl ?_
    refine q_aloadn 4 d_Mo_look_3 rfl 0 rfl ?_
    refine q_xget 7 d_Mo_look_4 rfl fl_Mo_150 (by decide) rfl rfl ?_
    refine q_ite h (fun c33 h => ?_) (fun c33 h => ?_)
    · refine q_icmp_ge_t 63 d_Mo_look_7 (by decide) c33 ?_
      refine q_sub (lv' := [(0, .ref 32), (1, .int v1)]) [0, 1] rfl ?_
      exact hE2 _ _ h
    · refine q_icmp_ge_f 10 d_Mo_look_7 rfl 63 (by decide) c33 ?_
      refine q_aloadn 11 d_Mo_look_10 rfl 0 rfl ?_
      refine q_xget 14 d_Mo_look_11 rfl fl_Mo_13 (by decide) rfl rfl ?_
      refine q_iloadn 15 d_Mo_look_14 rfl 2 rfl ?_
      refine q_xiald 16 d_Mo_look_15 rfl (by decide) (fun _ => rfl) h (fun w28 ew28 h => ?_)
      refine q_xcallP (as := [.int w28]) (rest := []) 19 h (fun z e => t_Mo_isTemporal e) (q_invS (Y := m_Mo_isTemporal) d_Mo_look_16 ml_Mo_123 ms_Mo_isTemporal k_Mo_isTemporal.2 k_Mo_isTemporal.1 (by decide) n_Mo_isTemporal) k_Mo_isTemporal (q_ro (by decide) (by decide)) (Nat.le_of_ble_eq_true rfl) d_Mo_look_16 rfl rfl rfl (fun w29 ew29 h => ?_)
      refine q_ite h (fun c32 h => ?_) (fun c32 h => ?_)
      · refine q_if_eq_t 42 d_Mo_look_19 (by decide) c32 ?_
        exact t_Mo_look_J42 ih hE2 _ _ _ h
      · refine q_if_eq_f 22 d_Mo_look_19 rfl 42 (by decide) c32 ?_
        refine q_iloadn 23 d_Mo_look_22 rfl 1 rfl ?_
        refine q_iconst (v := 3) 24 d_Mo_look_23 rfl (by decide) ?_
        refine q_aloadn 25 d_Mo_look_24 rfl 0 rfl ?_
        refine q_xget 28 d_Mo_look_25 rfl fl_Mo_22 (by decide) rfl rfl ?_
        refine q_iloadn 29 d_Mo_look_28 rfl 2 rfl ?_
        refine q_xiald 30 d_Mo_look_29 rfl (by decide) (fun _ => rfl) h (fun w30 ew30 h => ?_)
        refine q_iadd 31 d_Mo_look_30 rfl ?_
        refine q_ishr 32 d_Mo_look_31 rfl ?_
        refine q_iconst (v := 1) 33 d_Mo_look_32 rfl (by decide) ?_
        refine q_iand 34 d_Mo_look_33 rfl ?_
        refine q_iconst (v := 1) 35 d_Mo_look_34 rfl (by decide) ?_
        refine q_ite h (fun c31 h => ?_) (fun c31 h => ?_)
        · refine q_icmp_ne_t 42 d_Mo_look_35 (by decide) c31 ?_
          exact t_Mo_look_J42 ih hE2 _ _ _ h
        · refine q_icmp_ne_f 38 d_Mo_look_35 rfl 42 (by decide) (Classical.not_not.mp c31) ?_
          refine q_iconst (v := 1) 39 d_Mo_look_38 rfl (by decide) ?_
          refine q_goto 43 d_Mo_look_39 (by decide) ?_
          exact t_Mo_look_J43 ih hE2 _ _ _ _ h
set_option maxHeartbeats 4000000 in
set_option maxRecDepth 100000 in
theorem t_Mo_look {E : q_E} {c d : Nat} {x : q_W} {a1 : Int32} {ρ : q_W} (h : f_Mo_look x a1 = some ρ) : q_Ct E y_Mo_look m_Mo_look (q_rm 1) (q_cells E c d x) [.ref 32, .int a1] (q_rV E c d ρ) := by
  unfold f_Mo_look at h
  refine q_Ct.of (lv := [(0, .ref 32), (1, .int a1)]) (by decide) ⟨rfl, rfl⟩ rfl (Nat.le_of_ble_eq_true rfl) ?_
  refine q_iconst (v := 0) 1 d_Mo_look_0 rfl (by decide) ?_
  refine q_istoren (lv' := [(2, .int 0), (0, .ref 32), (1, .int a1)]) 2 d_Mo_look_1 rfl (by decide) rfl ?_
  refine q_sub (lv' := [(0, .ref 32), (1, .int a1), (2, .int 0)]) [1, 2, 0] rfl ?_
  refine t_Mo_look_L2 (fun x1 u2 h => ?_) q_fu _ _ _ h
  refine q_aloadn 64 d_Mo_look_63 rfl 0 rfl ?_
  refine q_xget 67 d_Mo_look_64 rfl fl_Mo_52 (by decide) rfl rfl ?_
  refine q_iloadn 68 d_Mo_look_67 rfl 1 rfl ?_
  refine q_aloadn 69 d_Mo_look_68 rfl 0 rfl ?_
  refine q_xget 72 d_Mo_look_69 rfl fl_Mo_62 (by decide) rfl rfl ?_
  refine q_aloadn 73 d_Mo_look_72 rfl 0 rfl ?_
  refine q_xget 76 d_Mo_look_73 rfl fl_Mo_150 (by decide) rfl rfl ?_
  refine q_iconst (v := 1) 77 d_Mo_look_76 rfl (by decide) ?_
  refine q_isub 78 d_Mo_look_77 rfl ?_
  refine q_xzald 79 d_Mo_look_78 rfl (by decide) (fun _ => rfl) h (fun w3 ew3 h => ?_)
  refine q_xzast 80 d_Mo_look_79 rfl (by decide) (fun _ => rfl) h (fun x4 ex4 h => ?_)
  refine q_iconst (v := 0) 81 d_Mo_look_80 rfl (by decide) ?_
  refine q_istoren (lv' := [(2, .int 0), (0, .ref 32), (1, .int u2)]) 82 d_Mo_look_81 rfl (by decide) rfl ?_
  refine q_iconst (v := 0) 83 d_Mo_look_82 rfl (by decide) ?_
  refine q_istoren (lv' := [(3, .int 0), (2, .int 0), (0, .ref 32), (1, .int u2)]) 84 d_Mo_look_83 rfl (by decide) rfl ?_
  refine q_sub (lv' := [(0, .ref 32), (1, .int u2), (2, .int 0), (3, .int 0)]) [2, 3, 1, 0] rfl ?_
  refine t_Mo_look_L84 (fun x5 u6 u7 h => ?_) q_fu _ _ _ _ h
  refine q_aloadn 158 d_Mo_look_157 rfl 0 rfl ?_
  refine q_xget 161 d_Mo_look_158 rfl fl_Mo_49 (by decide) rfl rfl ?_
  refine q_iloadn 162 d_Mo_look_161 rfl 1 rfl ?_
  refine q_iloadn 163 d_Mo_look_162 rfl 2 rfl ?_
  refine q_xiast 164 d_Mo_look_163 rfl (by decide) (fun _ => rfl) h (fun x8 ex8 h => ?_)
  refine q_iconst (v := 0) 165 d_Mo_look_164 rfl (by decide) ?_
  refine q_istoren (lv' := [(3, .int 0), (0, .ref 32), (1, .int u6), (2, .int u7)]) 166 d_Mo_look_165 rfl (by decide) rfl ?_
  refine q_iconst (v := 0) 167 d_Mo_look_166 rfl (by decide) ?_
  refine q_istore (lv' := [(4, .int 0), (3, .int 0), (0, .ref 32), (1, .int u6), (2, .int u7)]) 169 d_Mo_look_167 rfl (by decide) rfl ?_
  refine q_iconst (v := 0) 170 d_Mo_look_169 rfl (by decide) ?_
  refine q_istore (lv' := [(5, .int 0), (4, .int 0), (3, .int 0), (0, .ref 32), (1, .int u6), (2, .int u7)]) 172 d_Mo_look_170 rfl (by decide) rfl ?_
  refine q_sub (lv' := [(0, .ref 32), (1, .int u6), (3, .int 0), (4, .int 0), (5, .int 0)]) [3, 4, 2, 1, 0] rfl ?_
  refine t_Mo_look_L172 (fun x9 u10 u11 u12 h => ?_) q_fu _ _ _ _ _ h
  refine q_aloadn 282 d_Mo_look_281 rfl 0 rfl ?_
  refine q_xget 285 d_Mo_look_282 rfl fl_Mo_56 (by decide) rfl rfl ?_
  refine q_iloadn 286 d_Mo_look_285 rfl 1 rfl ?_
  refine q_iloadn 287 d_Mo_look_286 rfl 2 rfl ?_
  refine q_xiast 288 d_Mo_look_287 rfl (by decide) (fun _ => rfl) h (fun x13 ex13 h => ?_)
  refine q_aloadn 289 d_Mo_look_288 rfl 0 rfl ?_
  refine q_xget 292 d_Mo_look_289 rfl fl_Mo_59 (by decide) rfl rfl ?_
  refine q_iloadn 293 d_Mo_look_292 rfl 1 rfl ?_
  refine q_iload 295 d_Mo_look_293 rfl 3 rfl ?_
  refine q_xiast 296 d_Mo_look_295 rfl (by decide) (fun _ => rfl) h (fun x14 ex14 h => ?_)
  cases h
  exact q_vret d_Mo_look_296 rfl (Nat.zero_le _) (Nat.zero_le _)
