set_option maxHeartbeats 4000000 in
set_option maxRecDepth 100000 in
theorem t_Fo_openIn_L4 {E : q_E} {c d : Nat} {f : Nat} (hf : f = 16 ∨ f = 24) {ρ : Int32} : ∀ (n : Nat) (x : q_W) (v1 : Int32) (v2 : Int32) (v3 : Int32), f_Fo_openIn_L4 f n x v1 v2 v3 = some ρ → AW E (q_rm 1) m_Fo_openIn (q_cells E c d x) 0 0 4 [(0, .ref f), (1, .int v1), (2, .int v2), (3, .int v3)] [] (q_rP E c d x ρ) := by
  rcases hf with rfl | rfl
  · intro n
    induction n with
    | zero =>
      intro x v1 v2 v3 h
      have h : (none : Option Int32) = some ρ := h
      cases h
    | succ n ih =>
      intro x v1 v2 v3 h
      unfold f_Fo_openIn_L4 at h
      refine q_iloadn 5 d_Fo_openIn_4 rfl 3 rfl ?_
      refine q_aloadn 6 d_Fo_openIn_5 rfl 0 rfl ?_
      refine q_xget 9 d_Fo_openIn_6 rfl fl_Fo_40 (by decide) rfl rfl ?_
      refine q_ite h (fun c6 h => ?_) (fun c6 h => ?_)
      · refine q_icmp_ge_t 47 d_Fo_openIn_9 (by decide) c6 ?_
        refine q_iloadn 48 d_Fo_openIn_47 rfl 2 rfl ?_
        cases h
        exact q_iret d_Fo_openIn_48 rfl (Nat.zero_le _) (Nat.zero_le _)
      · refine q_icmp_ge_f 12 d_Fo_openIn_9 rfl 47 (by decide) c6 ?_
        refine q_aloadn 13 d_Fo_openIn_12 rfl 0 rfl ?_
        refine q_xget 16 d_Fo_openIn_13 rfl fl_Fo_27 (by decide) rfl rfl ?_
        refine q_iloadn 17 d_Fo_openIn_16 rfl 3 rfl ?_
        refine q_xiald 18 d_Fo_openIn_17 rfl (by decide) (fun _ => rfl) h (fun w1 ew1 h => ?_)
        refine q_istore (lv' := [(4, .int w1), (0, .ref 16), (1, .int v1), (2, .int v2), (3, .int v3)]) 20 d_Fo_openIn_18 rfl (by decide) rfl ?_
        refine q_iloadn 21 d_Fo_openIn_20 rfl 2 rfl ?_
        refine q_iload 23 d_Fo_openIn_21 rfl 0 rfl ?_
        refine q_xcallP (as := [.int v1, .int w1]) (rest := []) 26 h (fun z e => t_D_hasBit e) (q_invSN (Y := m_D_hasBit) d_Fo_openIn_23 ml_Fo_47 ms_D_hasBit k_D_hasBit.2 k_D_hasBit.1 (by decide) n_D_hasBit) k_D_hasBit (q_ro (by decide) (by decide)) (Nat.le_of_ble_eq_true rfl) d_Fo_openIn_23 rfl rfl rfl (fun w2 ew2 h => ?_)
        refine q_aloadn 27 d_Fo_openIn_26 rfl 1 rfl ?_
        refine q_iload 29 d_Fo_openIn_27 rfl 0 rfl ?_
        refine q_xcallP (as := [.ref 16, .int w1]) (rest := [.int w2]) 32 h (fun z e => t_Fo_isForOnce (by decide) e) (q_xinvV (Y := m_Fo_isForOnce) d_Fo_openIn_29 ml_Fo_55 ms_Fo_isForOnce.1 ms_Fo_isForOnce.2 k_Fo_isForOnce.1 (by decide) n_Fo_isForOnce (by decide) rfl rfl) k_Fo_isForOnce (q_ro (by decide) (by decide)) (Nat.le_of_ble_eq_true rfl) d_Fo_openIn_29 rfl rfl rfl (fun w3 ew3 h => ?_)
        refine q_ite h (fun c5 h => ?_) (fun c5 h => ?_)
        · refine q_icmp_ne_t 41 d_Fo_openIn_32 (by decide) c5 ?_
          refine q_iinc (v := (v3 + 1)) (lv' := [(3, .int (v3 + 1)), (4, .int w1), (0, .ref 16), (1, .int v1), (2, .int v2)]) 44 d_Fo_openIn_41 rfl 4 rfl (q_ai (by decide)) (by decide) rfl ?_
          refine q_goto 4 d_Fo_openIn_44 (by decide) ?_
          refine q_sub (lv' := [(0, .ref 16), (1, .int v1), (2, .int v2), (3, .int (v3 + 1))]) [2, 3, 4, 0] rfl ?_
          exact ih _ _ _ _ h
        · refine q_icmp_ne_f 35 d_Fo_openIn_32 rfl 41 (by decide) (Classical.not_not.mp c5) ?_
          refine q_iloadn 36 d_Fo_openIn_35 rfl 3 rfl ?_
          refine q_iconst (v := 1) 37 d_Fo_openIn_36 rfl (by decide) ?_
          refine q_iloadn 38 d_Fo_openIn_37 rfl 4 rfl ?_
          refine q_ishl 39 d_Fo_openIn_38 rfl ?_
          refine q_ior 40 d_Fo_openIn_39 rfl ?_
          refine q_xtop h (fun z4 ez4 h => ?_)
          refine q_istoren (lv' := [(2, .int z4), (4, .int w1), (0, .ref 16), (1, .int v1), (3, .int v3)]) 41 d_Fo_openIn_40 rfl (by decide) rfl ?_
          refine q_iinc (v := (v3 + 1)) (lv' := [(3, .int (v3 + 1)), (2, .int z4), (4, .int w1), (0, .ref 16), (1, .int v1)]) 44 d_Fo_openIn_41 rfl 4 rfl (q_ai (by decide)) (by decide) rfl ?_
          refine q_goto 4 d_Fo_openIn_44 (by decide) ?_
          refine q_sub (lv' := [(0, .ref 16), (1, .int v1), (2, .int z4), (3, .int (v3 + 1))]) [3, 4, 1, 0] rfl ?_
          exact ih _ _ _ _ h
  · intro n
    induction n with
    | zero =>
      intro x v1 v2 v3 h
      have h : (none : Option Int32) = some ρ := h
      cases h
    | succ n ih =>
      intro x v1 v2 v3 h
      unfold f_Fo_openIn_L4 at h
      refine q_iloadn 5 d_Fo_openIn_4 rfl 3 rfl ?_
      refine q_aloadn 6 d_Fo_openIn_5 rfl 0 rfl ?_
      refine q_xget 9 d_Fo_openIn_6 rfl fl_Fo_40 (by decide) rfl rfl ?_
      refine q_ite h (fun c6 h => ?_) (fun c6 h => ?_)
      · refine q_icmp_ge_t 47 d_Fo_openIn_9 (by decide) c6 ?_
        refine q_iloadn 48 d_Fo_openIn_47 rfl 2 rfl ?_
        cases h
        exact q_iret d_Fo_openIn_48 rfl (Nat.zero_le _) (Nat.zero_le _)
      · refine q_icmp_ge_f 12 d_Fo_openIn_9 rfl 47 (by decide) c6 ?_
        refine q_aloadn 13 d_Fo_openIn_12 rfl 0 rfl ?_
        refine q_xget 16 d_Fo_openIn_13 rfl fl_Fo_27 (by decide) rfl rfl ?_
        refine q_iloadn 17 d_Fo_openIn_16 rfl 3 rfl ?_
        refine q_xiald 18 d_Fo_openIn_17 rfl (by decide) (fun _ => rfl) h (fun w1 ew1 h => ?_)
        refine q_istore (lv' := [(4, .int w1), (0, .ref 24), (1, .int v1), (2, .int v2), (3, .int v3)]) 20 d_Fo_openIn_18 rfl (by decide) rfl ?_
        refine q_iloadn 21 d_Fo_openIn_20 rfl 2 rfl ?_
        refine q_iload 23 d_Fo_openIn_21 rfl 0 rfl ?_
        refine q_xcallP (as := [.int v1, .int w1]) (rest := []) 26 h (fun z e => t_D_hasBit e) (q_invSN (Y := m_D_hasBit) d_Fo_openIn_23 ml_Fo_47 ms_D_hasBit k_D_hasBit.2 k_D_hasBit.1 (by decide) n_D_hasBit) k_D_hasBit (q_ro (by decide) (by decide)) (Nat.le_of_ble_eq_true rfl) d_Fo_openIn_23 rfl rfl rfl (fun w2 ew2 h => ?_)
        refine q_aloadn 27 d_Fo_openIn_26 rfl 1 rfl ?_
        refine q_iload 29 d_Fo_openIn_27 rfl 0 rfl ?_
        refine q_xcallP (as := [.ref 24, .int w1]) (rest := [.int w2]) 32 h (fun z e => t_Fo_isForOnce (by decide) e) (q_xinvV (Y := m_Fo_isForOnce) d_Fo_openIn_29 ml_Fo_55 ms_Fo_isForOnce.1 ms_Fo_isForOnce.2 k_Fo_isForOnce.1 (by decide) n_Fo_isForOnce (by decide) rfl rfl) k_Fo_isForOnce (q_ro (by decide) (by decide)) (Nat.le_of_ble_eq_true rfl) d_Fo_openIn_29 rfl rfl rfl (fun w3 ew3 h => ?_)
        refine q_ite h (fun c5 h => ?_) (fun c5 h => ?_)
        · refine q_icmp_ne_t 41 d_Fo_openIn_32 (by decide) c5 ?_
          refine q_iinc (v := (v3 + 1)) (lv' := [(3, .int (v3 + 1)), (4, .int w1), (0, .ref 24), (1, .int v1), (2, .int v2)]) 44 d_Fo_openIn_41 rfl 4 rfl (q_ai (by decide)) (by decide) rfl ?_
          refine q_goto 4 d_Fo_openIn_44 (by decide) ?_
          refine q_sub (lv' := [(0, .ref 24), (1, .int v1), (2, .int v2), (3, .int (v3 + 1))]) [2, 3, 4, 0] rfl ?_
          exact ih _ _ _ _ h
        · refine q_icmp_ne_f 35 d_Fo_openIn_32 rfl 41 (by decide) (Classical.not_not.mp c5) ?_
          refine q_iloadn 36 d_Fo_openIn_35 rfl 3 rfl ?_
          refine q_iconst (v := 1) 37 d_Fo_openIn_36 rfl (by decide) ?_
          refine q_iloadn 38 d_Fo_openIn_37 rfl 4 rfl ?_
          refine q_ishl 39 d_Fo_openIn_38 rfl ?_
          refine q_ior 40 d_Fo_openIn_39 rfl ?_
          refine q_xtop h (fun z4 ez4 h => ?_)
          refine q_istoren (lv' := [(2, .int z4), (4, .int w1), (0, .ref 24), (1, .int v1), (3, .int v3)]) 41 d_Fo_openIn_40 rfl (by decide) rfl ?_
          refine q_iinc (v := (v3 + 1)) (lv' := [(3, .int (v3 + 1)), (2, .int z4), (4, .int w1), (0, .ref 24), (1, .int v1)]) 44 d_Fo_openIn_41 rfl 4 rfl (q_ai (by decide)) (by decide) rfl ?_
          refine q_goto 4 d_Fo_openIn_44 (by decide) ?_
          refine q_sub (lv' := [(0, .ref 24), (1, .int v1), (2, .int z4), (3, .int (v3 + 1))]) [3, 4, 1, 0] rfl ?_
          exact ih _ _ _ _ h
set_option maxHeartbeats 4000000 in
set_option maxRecDepth 100000 in
theorem t_Fo_openIn {E : q_E} {c d : Nat} {f : Nat} (hf : f = 16 ∨ f = 24) {x : q_W} {a1 : Int32} {ρ : Int32} (h : f_Fo_openIn f x a1 = some ρ) : q_Ct E y_Fo_openIn m_Fo_openIn (q_rm 1) (q_cells E c d x) [.ref f, .int a1] (q_rP E c d x ρ) := by
  rcases hf with rfl | rfl
  · unfold f_Fo_openIn at h
    refine q_Ct.of (lv := [(0, .ref 16), (1, .int a1)]) (by decide) ⟨rfl, rfl⟩ rfl (Nat.le_of_ble_eq_true rfl) ?_
    refine q_iconst (v := 0) 1 d_Fo_openIn_0 rfl (by decide) ?_
    refine q_istoren (lv' := [(2, .int 0), (0, .ref 16), (1, .int a1)]) 2 d_Fo_openIn_1 rfl (by decide) rfl ?_
    refine q_iconst (v := 0) 3 d_Fo_openIn_2 rfl (by decide) ?_
    refine q_istoren (lv' := [(3, .int 0), (2, .int 0), (0, .ref 16), (1, .int a1)]) 4 d_Fo_openIn_3 rfl (by decide) rfl ?_
    refine q_sub (lv' := [(0, .ref 16), (1, .int a1), (2, .int 0), (3, .int 0)]) [2, 3, 1, 0] rfl ?_
    exact t_Fo_openIn_L4 (Or.inl rfl) q_fu _ _ _ _ h
  · unfold f_Fo_openIn at h
    refine q_Ct.of (lv := [(0, .ref 24), (1, .int a1)]) (by decide) ⟨rfl, rfl⟩ rfl (Nat.le_of_ble_eq_true rfl) ?_
    refine q_iconst (v := 0) 1 d_Fo_openIn_0 rfl (by decide) ?_
    refine q_istoren (lv' := [(2, .int 0), (0, .ref 24), (1, .int a1)]) 2 d_Fo_openIn_1 rfl (by decide) rfl ?_
    refine q_iconst (v := 0) 3 d_Fo_openIn_2 rfl (by decide) ?_
    refine q_istoren (lv' := [(3, .int 0), (2, .int 0), (0, .ref 24), (1, .int a1)]) 4 d_Fo_openIn_3 rfl (by decide) rfl ?_
    refine q_sub (lv' := [(0, .ref 24), (1, .int a1), (2, .int 0), (3, .int 0)]) [2, 3, 1, 0] rfl ?_
    exact t_Fo_openIn_L4 (Or.inr rfl) q_fu _ _ _ _ h
set_option maxHeartbeats 4000000 in
set_option maxRecDepth 100000 in
theorem t_Fo_promiseCount {E : q_E} {c d : Nat} {f : Nat} (hf : f = 16 ∨ f = 24) {x : q_W} {ρ : Int32} (h : f_Fo_promiseCount f x = some ρ) : q_Ct E y_Fo_promiseCount m_Fo_promiseCount (q_rm 0) (q_cells E c d x) [.ref f] (q_rP E c d x ρ) := by
  rcases hf with rfl | rfl
  · unfold f_Fo_promiseCount at h
    refine q_Ct.of (lv := [(0, .ref 16)]) (by decide) ⟨rfl, rfl⟩ rfl (Nat.le_of_ble_eq_true rfl) ?_
    refine q_aloadn 1 d_Fo_promiseCount_0 rfl 0 rfl ?_
    refine q_xget 4 d_Fo_promiseCount_1 rfl fl_Fo_40 (by decide) rfl rfl ?_
    cases h
    exact q_iret d_Fo_promiseCount_4 rfl (Nat.zero_le _) (Nat.zero_le _)
  · unfold f_Fo_promiseCount at h
    refine q_Ct.of (lv := [(0, .ref 24)]) (by decide) ⟨rfl, rfl⟩ rfl (Nat.le_of_ble_eq_true rfl) ?_
    refine q_aloadn 1 d_Fo_promiseCount_0 rfl 0 rfl ?_
    refine q_xget 4 d_Fo_promiseCount_1 rfl fl_Fo_40 (by decide) rfl rfl ?_
    cases h
    exact q_iret d_Fo_promiseCount_4 rfl (Nat.zero_le _) (Nat.zero_le _)
set_option maxHeartbeats 4000000 in
set_option maxRecDepth 100000 in
theorem t_La_lookAtStates_L26 {E : q_E} {c d : Nat} {f : Nat} (hf : f = 16 ∨ f = 24) {ρ : q_W} : ∀ (n : Nat) (x : q_W) (v2 : Int32), f_La_lookAtStates_L26 f n x v2 = some ρ → AW E (q_rm 3) m_La_lookAtStates (q_cells E c d x) 0 0 26 [(0, .ref 3), (1, .ref f), (2, .int v2)] [] (q_rV E c d ρ) := by
  rcases hf with rfl | rfl
  · intro n
    induction n with
    | zero =>
      intro x v2 h
      have h : (none : Option q_W) = some ρ := h
      cases h
    | succ n ih =>
      intro x v2 h
      unfold f_La_lookAtStates_L26 at h
      refine q_iloadn 27 d_La_lookAtStates_26 rfl 2 rfl ?_
      refine q_aloadn 28 d_La_lookAtStates_27 rfl 0 rfl ?_
      refine q_xget 31 d_La_lookAtStates_28 rfl fl_La_34 (by decide) rfl rfl ?_
      refine q_ite h (fun c17 h => ?_) (fun c17 h => ?_)
      · refine q_icmp_ge_t 106 d_La_lookAtStates_31 (by decide) c17 ?_
        cases h
        exact q_vret d_La_lookAtStates_106 rfl (Nat.zero_le _) (Nat.zero_le _)
      · refine q_icmp_ge_f 34 d_La_lookAtStates_31 rfl 106 (by decide) c17 ?_
        refine q_aloadn 35 d_La_lookAtStates_34 rfl 1 rfl ?_
        refine q_iloadn 36 d_La_lookAtStates_35 rfl 2 rfl ?_
        refine q_xcallP (as := [.ref 16, .int v2]) (rest := []) 39 h (fun z e => t_Fo_partsAt (by decide) e) (q_xinvV (Y := m_Fo_partsAt) d_La_lookAtStates_36 ml_La_67 ms_Fo_partsAt.1 ms_Fo_partsAt.2 k_Fo_partsAt.1 (by decide) n_Fo_partsAt (by decide) rfl rfl) k_Fo_partsAt (q_ro (by decide) (by decide)) (Nat.le_of_ble_eq_true rfl) d_La_lookAtStates_36 rfl rfl rfl (fun w6 ew6 h => ?_)
        refine q_istoren (lv' := [(3, .int w6), (0, .ref 3), (1, .ref 16), (2, .int v2)]) 40 d_La_lookAtStates_39 rfl (by decide) rfl ?_
        refine q_aloadn 41 d_La_lookAtStates_40 rfl 1 rfl ?_
        refine q_xget 44 d_La_lookAtStates_41 rfl fl_La_9 (by decide) rfl rfl ?_
        refine q_iloadn 45 d_La_lookAtStates_44 rfl 3 rfl ?_
        refine q_aloadn 46 d_La_lookAtStates_45 rfl 2 rfl ?_
        refine q_iloadn 47 d_La_lookAtStates_46 rfl 0 rfl ?_
        refine q_xcallP (as := [.ref 16, .int w6]) (rest := [.int v2, .ref 4]) 50 h (fun z e => t_Fo_expectedBefore (by decide) e) (q_xinvV (Y := m_Fo_expectedBefore) d_La_lookAtStates_47 ml_La_71 ms_Fo_expectedBefore.1 ms_Fo_expectedBefore.2 k_Fo_expectedBefore.1 (by decide) n_Fo_expectedBefore (by decide) rfl rfl) k_Fo_expectedBefore (q_ro (by decide) (by decide)) (Nat.le_of_ble_eq_true rfl) d_La_lookAtStates_47 rfl rfl rfl (fun w7 ew7 h => ?_)
        refine q_xiast 51 d_La_lookAtStates_50 rfl (by decide) (fun _ => rfl) h (fun x8 ex8 h => ?_)
        refine q_aloadn 52 d_La_lookAtStates_51 rfl 1 rfl ?_
        refine q_xget 55 d_La_lookAtStates_52 rfl fl_La_15 (by decide) rfl rfl ?_
        refine q_iloadn 56 d_La_lookAtStates_55 rfl 3 rfl ?_
        refine q_aloadn 57 d_La_lookAtStates_56 rfl 2 rfl ?_
        refine q_iloadn 58 d_La_lookAtStates_57 rfl 0 rfl ?_
        refine q_xcallP (as := [.ref 16, .int w6]) (rest := [.int v2, .ref 5]) 61 h (fun z e => t_Fo_keptIn (by decide) e) (q_xinvV (Y := m_Fo_keptIn) d_La_lookAtStates_58 ml_La_74 ms_Fo_keptIn.1 ms_Fo_keptIn.2 k_Fo_keptIn.1 (by decide) n_Fo_keptIn (by decide) rfl rfl) k_Fo_keptIn (q_ro (by decide) (by decide)) (Nat.le_of_ble_eq_true rfl) d_La_lookAtStates_58 rfl rfl rfl (fun w9 ew9 h => ?_)
        refine q_xiast 62 d_La_lookAtStates_61 rfl (by decide) (fun _ => rfl) h (fun x10 ex10 h => ?_)
        refine q_aloadn 63 d_La_lookAtStates_62 rfl 1 rfl ?_
        refine q_xget 66 d_La_lookAtStates_63 rfl fl_La_18 (by decide) rfl rfl ?_
        refine q_iloadn 67 d_La_lookAtStates_66 rfl 3 rfl ?_
        refine q_aloadn 68 d_La_lookAtStates_67 rfl 2 rfl ?_
        refine q_iloadn 69 d_La_lookAtStates_68 rfl 0 rfl ?_
        refine q_xcallP (as := [.ref 16, .int w6]) (rest := [.int v2, .ref 6]) 72 h (fun z e => t_Fo_openIn (by decide) e) (q_xinvV (Y := m_Fo_openIn) d_La_lookAtStates_69 ml_La_77 ms_Fo_openIn.1 ms_Fo_openIn.2 k_Fo_openIn.1 (by decide) n_Fo_openIn (by decide) rfl rfl) k_Fo_openIn (q_ro (by decide) (by decide)) (Nat.le_of_ble_eq_true rfl) d_La_lookAtStates_69 rfl rfl rfl (fun w11 ew11 h => ?_)
        refine q_aloadn 73 d_La_lookAtStates_72 rfl 1 rfl ?_
        refine q_xget 76 d_La_lookAtStates_73 rfl fl_La_15 (by decide) rfl rfl ?_
        refine q_iloadn 77 d_La_lookAtStates_76 rfl 3 rfl ?_
        refine q_xiald 78 d_La_lookAtStates_77 rfl (by decide) (fun _ => rfl) h (fun w12 ew12 h => ?_)
        refine q_iconst (v := (-1)) 79 d_La_lookAtStates_78 rfl (by decide) ?_
        refine q_ixor 80 d_La_lookAtStates_79 rfl ?_
        refine q_iand 81 d_La_lookAtStates_80 rfl ?_
        refine q_xiast 82 d_La_lookAtStates_81 rfl (by decide) (fun _ => rfl) h (fun x13 ex13 h => ?_)
        refine q_aloadn 83 d_La_lookAtStates_82 rfl 1 rfl ?_
        refine q_xget 86 d_La_lookAtStates_83 rfl fl_La_21 (by decide) rfl rfl ?_
        refine q_iloadn 87 d_La_lookAtStates_86 rfl 3 rfl ?_
        refine q_aloadn 88 d_La_lookAtStates_87 rfl 2 rfl ?_
        refine q_iloadn 89 d_La_lookAtStates_88 rfl 0 rfl ?_
        refine q_xcallP (as := [.ref 16, .int w6]) (rest := [.int v2, .ref 7]) 92 h (fun z e => t_Fo_isWholeIn (by decide) e) (q_xinvV (Y := m_Fo_isWholeIn) d_La_lookAtStates_89 ml_La_80 ms_Fo_isWholeIn.1 ms_Fo_isWholeIn.2 k_Fo_isWholeIn.1 (by decide) n_Fo_isWholeIn (by decide) rfl rfl) k_Fo_isWholeIn (q_ro (by decide) (by decide)) (Nat.le_of_ble_eq_true rfl) d_La_lookAtStates_89 rfl rfl rfl (fun w14 ew14 h => ?_)
        refine q_xzast 93 d_La_lookAtStates_92 rfl (by decide) (fun _ => rfl) h (fun x15 ex15 h => ?_)
        refine q_aloadn 94 d_La_lookAtStates_93 rfl 1 rfl ?_
        refine q_xget 97 d_La_lookAtStates_94 rfl fl_La_25 (by decide) rfl rfl ?_
        refine q_iloadn 98 d_La_lookAtStates_97 rfl 3 rfl ?_
        refine q_iconst (v := 1) 99 d_La_lookAtStates_98 rfl (by decide) ?_
        refine q_xzast 100 d_La_lookAtStates_99 rfl (by decide) (fun _ => rfl) h (fun x16 ex16 h => ?_)
        refine q_iinc (v := (v2 + 1)) (lv' := [(2, .int (v2 + 1)), (3, .int w6), (0, .ref 3), (1, .ref 16)]) 103 d_La_lookAtStates_100 rfl 3 rfl (q_ai (by decide)) (by decide) rfl ?_
        refine q_goto 26 d_La_lookAtStates_103 (by decide) ?_
        refine q_sub (lv' := [(0, .ref 3), (1, .ref 16), (2, .int (v2 + 1))]) [2, 3, 0] rfl ?_
        exact ih _ _ h
  · intro n
    induction n with
    | zero =>
      intro x v2 h
      have h : (none : Option q_W) = some ρ := h
      cases h
    | succ n ih =>
      intro x v2 h
      unfold f_La_lookAtStates_L26 at h
      refine q_iloadn 27 d_La_lookAtStates_26 rfl 2 rfl ?_
      refine q_aloadn 28 d_La_lookAtStates_27 rfl 0 rfl ?_
      refine q_xget 31 d_La_lookAtStates_28 rfl fl_La_34 (by decide) rfl rfl ?_
      refine q_ite h (fun c17 h => ?_) (fun c17 h => ?_)
      · refine q_icmp_ge_t 106 d_La_lookAtStates_31 (by decide) c17 ?_
        cases h
        exact q_vret d_La_lookAtStates_106 rfl (Nat.zero_le _) (Nat.zero_le _)
      · refine q_icmp_ge_f 34 d_La_lookAtStates_31 rfl 106 (by decide) c17 ?_
        refine q_aloadn 35 d_La_lookAtStates_34 rfl 1 rfl ?_
        refine q_iloadn 36 d_La_lookAtStates_35 rfl 2 rfl ?_
        refine q_xcallP (as := [.ref 24, .int v2]) (rest := []) 39 h (fun z e => t_Fo_partsAt (by decide) e) (q_xinvV (Y := m_Fo_partsAt) d_La_lookAtStates_36 ml_La_67 ms_Fo_partsAt.1 ms_Fo_partsAt.2 k_Fo_partsAt.1 (by decide) n_Fo_partsAt (by decide) rfl rfl) k_Fo_partsAt (q_ro (by decide) (by decide)) (Nat.le_of_ble_eq_true rfl) d_La_lookAtStates_36 rfl rfl rfl (fun w6 ew6 h => ?_)
        refine q_istoren (lv' := [(3, .int w6), (0, .ref 3), (1, .ref 24), (2, .int v2)]) 40 d_La_lookAtStates_39 rfl (by decide) rfl ?_
        refine q_aloadn 41 d_La_lookAtStates_40 rfl 1 rfl ?_
        refine q_xget 44 d_La_lookAtStates_41 rfl fl_La_9 (by decide) rfl rfl ?_
        refine q_iloadn 45 d_La_lookAtStates_44 rfl 3 rfl ?_
        refine q_aloadn 46 d_La_lookAtStates_45 rfl 2 rfl ?_
        refine q_iloadn 47 d_La_lookAtStates_46 rfl 0 rfl ?_
        refine q_xcallP (as := [.ref 24, .int w6]) (rest := [.int v2, .ref 4]) 50 h (fun z e => t_Fo_expectedBefore (by decide) e) (q_xinvV (Y := m_Fo_expectedBefore) d_La_lookAtStates_47 ml_La_71 ms_Fo_expectedBefore.1 ms_Fo_expectedBefore.2 k_Fo_expectedBefore.1 (by decide) n_Fo_expectedBefore (by decide) rfl rfl) k_Fo_expectedBefore (q_ro (by decide) (by decide)) (Nat.le_of_ble_eq_true rfl) d_La_lookAtStates_47 rfl rfl rfl (fun w7 ew7 h => ?_)
        refine q_xiast 51 d_La_lookAtStates_50 rfl (by decide) (fun _ => rfl) h (fun x8 ex8 h => ?_)
        refine q_aloadn 52 d_La_lookAtStates_51 rfl 1 rfl ?_
        refine q_xget 55 d_La_lookAtStates_52 rfl fl_La_15 (by decide) rfl rfl ?_
        refine q_iloadn 56 d_La_lookAtStates_55 rfl 3 rfl ?_
        refine q_aloadn 57 d_La_lookAtStates_56 rfl 2 rfl ?_
        refine q_iloadn 58 d_La_lookAtStates_57 rfl 0 rfl ?_
        refine q_xcallP (as := [.ref 24, .int w6]) (rest := [.int v2, .ref 5]) 61 h (fun z e => t_Fo_keptIn (by decide) e) (q_xinvV (Y := m_Fo_keptIn) d_La_lookAtStates_58 ml_La_74 ms_Fo_keptIn.1 ms_Fo_keptIn.2 k_Fo_keptIn.1 (by decide) n_Fo_keptIn (by decide) rfl rfl) k_Fo_keptIn (q_ro (by decide) (by decide)) (Nat.le_of_ble_eq_true rfl) d_La_lookAtStates_58 rfl rfl rfl (fun w9 ew9 h => ?_)
        refine q_xiast 62 d_La_lookAtStates_61 rfl (by decide) (fun _ => rfl) h (fun x10 ex10 h => ?_)
        refine q_aloadn 63 d_La_lookAtStates_62 rfl 1 rfl ?_
        refine q_xget 66 d_La_lookAtStates_63 rfl fl_La_18 (by decide) rfl rfl ?_
        refine q_iloadn 67 d_La_lookAtStates_66 rfl 3 rfl ?_
        refine q_aloadn 68 d_La_lookAtStates_67 rfl 2 rfl ?_
        refine q_iloadn 69 d_La_lookAtStates_68 rfl 0 rfl ?_
        refine q_xcallP (as := [.ref 24, .int w6]) (rest := [.int v2, .ref 6]) 72 h (fun z e => t_Fo_openIn (by decide) e) (q_xinvV (Y := m_Fo_openIn) d_La_lookAtStates_69 ml_La_77 ms_Fo_openIn.1 ms_Fo_openIn.2 k_Fo_openIn.1 (by decide) n_Fo_openIn (by decide) rfl rfl) k_Fo_openIn (q_ro (by decide) (by decide)) (Nat.le_of_ble_eq_true rfl) d_La_lookAtStates_69 rfl rfl rfl (fun w11 ew11 h => ?_)
        refine q_aloadn 73 d_La_lookAtStates_72 rfl 1 rfl ?_
        refine q_xget 76 d_La_lookAtStates_73 rfl fl_La_15 (by decide) rfl rfl ?_
        refine q_iloadn 77 d_La_lookAtStates_76 rfl 3 rfl ?_
        refine q_xiald 78 d_La_lookAtStates_77 rfl (by decide) (fun _ => rfl) h (fun w12 ew12 h => ?_)
        refine q_iconst (v := (-1)) 79 d_La_lookAtStates_78 rfl (by decide) ?_
        refine q_ixor 80 d_La_lookAtStates_79 rfl ?_
        refine q_iand 81 d_La_lookAtStates_80 rfl ?_
        refine q_xiast 82 d_La_lookAtStates_81 rfl (by decide) (fun _ => rfl) h (fun x13 ex13 h => ?_)
        refine q_aloadn 83 d_La_lookAtStates_82 rfl 1 rfl ?_
        refine q_xget 86 d_La_lookAtStates_83 rfl fl_La_21 (by decide) rfl rfl ?_
        refine q_iloadn 87 d_La_lookAtStates_86 rfl 3 rfl ?_
        refine q_aloadn 88 d_La_lookAtStates_87 rfl 2 rfl ?_
        refine q_iloadn 89 d_La_lookAtStates_88 rfl 0 rfl ?_
        refine q_xcallP (as := [.ref 24, .int w6]) (rest := [.int v2, .ref 7]) 92 h (fun z e => t_Fo_isWholeIn (by decide) e) (q_xinvV (Y := m_Fo_isWholeIn) d_La_lookAtStates_89 ml_La_80 ms_Fo_isWholeIn.1 ms_Fo_isWholeIn.2 k_Fo_isWholeIn.1 (by decide) n_Fo_isWholeIn (by decide) rfl rfl) k_Fo_isWholeIn (q_ro (by decide) (by decide)) (Nat.le_of_ble_eq_true rfl) d_La_lookAtStates_89 rfl rfl rfl (fun w14 ew14 h => ?_)
        refine q_xzast 93 d_La_lookAtStates_92 rfl (by decide) (fun _ => rfl) h (fun x15 ex15 h => ?_)
        refine q_aloadn 94 d_La_lookAtStates_93 rfl 1 rfl ?_
        refine q_xget 97 d_La_lookAtStates_94 rfl fl_La_25 (by decide) rfl rfl ?_
        refine q_iloadn 98 d_La_lookAtStates_97 rfl 3 rfl ?_
        refine q_iconst (v := 1) 99 d_La_lookAtStates_98 rfl (by decide) ?_
        refine q_xzast 100 d_La_lookAtStates_99 rfl (by decide) (fun _ => rfl) h (fun x16 ex16 h => ?_)
        refine q_iinc (v := (v2 + 1)) (lv' := [(2, .int (v2 + 1)), (3, .int w6), (0, .ref 3), (1, .ref 24)]) 103 d_La_lookAtStates_100 rfl 3 rfl (q_ai (by decide)) (by decide) rfl ?_
        refine q_goto 26 d_La_lookAtStates_103 (by decide) ?_
        refine q_sub (lv' := [(0, .ref 3), (1, .ref 24), (2, .int (v2 + 1))]) [2, 3, 0] rfl ?_
        exact ih _ _ h
set_option maxHeartbeats 4000000 in
set_option maxRecDepth 100000 in
theorem t_La_lookAtStates {E : q_E} {c d : Nat} {f : Nat} (hf : f = 16 ∨ f = 24) {x : q_W} {ρ : q_W} (h : f_La_lookAtStates f x = some ρ) : q_Ct E y_La_lookAtStates m_La_lookAtStates (q_rm 3) (q_cells E c d x) [.ref 3, .ref f] (q_rV E c d ρ) := by
  rcases hf with rfl | rfl
  · unfold f_La_lookAtStates at h
    refine q_Ct.of (lv := [(0, .ref 3), (1, .ref 16)]) (by decide) ⟨rfl, rfl⟩ rfl (Nat.le_of_ble_eq_true rfl) ?_
    refine q_aloadn 1 d_La_lookAtStates_0 rfl 0 rfl ?_
    refine q_aloadn 2 d_La_lookAtStates_1 rfl 1 rfl ?_
    refine q_xcallP (as := [.ref 16]) (rest := [.ref 3]) 5 h (fun z e => t_Fo_stateCount (by decide) e) (q_xinvV (Y := m_Fo_stateCount) d_La_lookAtStates_2 ml_La_58 ms_Fo_stateCount.1 ms_Fo_stateCount.2 k_Fo_stateCount.1 (by decide) n_Fo_stateCount (by decide) rfl rfl) k_Fo_stateCount (q_ro (by decide) (by decide)) (Nat.le_of_ble_eq_true rfl) d_La_lookAtStates_2 rfl rfl rfl (fun w1 ew1 h => ?_)
    refine q_xput 8 d_La_lookAtStates_5 rfl fl_La_34 (by decide) rfl rfl rfl rfl (Nat.le_of_ble_eq_true rfl) (fun _ => rfl) h (fun x2 ex2 h => ?_)
    refine q_aloadn 9 d_La_lookAtStates_8 rfl 0 rfl ?_
    refine q_aloadn 10 d_La_lookAtStates_9 rfl 1 rfl ?_
    refine q_xcallP (as := [.ref 16]) (rest := [.ref 3]) 13 h (fun z e => t_Fo_promiseCount (by decide) e) (q_xinvV (Y := m_Fo_promiseCount) d_La_lookAtStates_10 ml_La_64 ms_Fo_promiseCount.1 ms_Fo_promiseCount.2 k_Fo_promiseCount.1 (by decide) n_Fo_promiseCount (by decide) rfl rfl) k_Fo_promiseCount (q_ro (by decide) (by decide)) (Nat.le_of_ble_eq_true rfl) d_La_lookAtStates_10 rfl rfl rfl (fun w3 ew3 h => ?_)
    refine q_xput 16 d_La_lookAtStates_13 rfl fl_La_38 (by decide) rfl rfl rfl rfl (Nat.le_of_ble_eq_true rfl) (fun _ => rfl) h (fun x4 ex4 h => ?_)
    refine q_aloadn 17 d_La_lookAtStates_16 rfl 0 rfl ?_
    refine q_aloadn 18 d_La_lookAtStates_17 rfl 0 rfl ?_
    refine q_xget 21 d_La_lookAtStates_18 rfl fl_La_34 (by decide) rfl rfl ?_
    refine q_xput 24 d_La_lookAtStates_21 rfl fl_La_41 (by decide) rfl rfl rfl rfl (Nat.le_of_ble_eq_true rfl) (fun _ => rfl) h (fun x5 ex5 h => ?_)
    refine q_iconst (v := 0) 25 d_La_lookAtStates_24 rfl (by decide) ?_
    refine q_istoren (lv' := [(2, .int 0), (0, .ref 3), (1, .ref 16)]) 26 d_La_lookAtStates_25 rfl (by decide) rfl ?_
    refine q_sub (lv' := [(0, .ref 3), (1, .ref 16), (2, .int 0)]) [1, 2, 0] rfl ?_
    exact t_La_lookAtStates_L26 (Or.inl rfl) q_fu _ _ h
  · unfold f_La_lookAtStates at h
    refine q_Ct.of (lv := [(0, .ref 3), (1, .ref 24)]) (by decide) ⟨rfl, rfl⟩ rfl (Nat.le_of_ble_eq_true rfl) ?_
    refine q_aloadn 1 d_La_lookAtStates_0 rfl 0 rfl ?_
    refine q_aloadn 2 d_La_lookAtStates_1 rfl 1 rfl ?_
    refine q_xcallP (as := [.ref 24]) (rest := [.ref 3]) 5 h (fun z e => t_Fo_stateCount (by decide) e) (q_xinvV (Y := m_Fo_stateCount) d_La_lookAtStates_2 ml_La_58 ms_Fo_stateCount.1 ms_Fo_stateCount.2 k_Fo_stateCount.1 (by decide) n_Fo_stateCount (by decide) rfl rfl) k_Fo_stateCount (q_ro (by decide) (by decide)) (Nat.le_of_ble_eq_true rfl) d_La_lookAtStates_2 rfl rfl rfl (fun w1 ew1 h => ?_)
    refine q_xput 8 d_La_lookAtStates_5 rfl fl_La_34 (by decide) rfl rfl rfl rfl (Nat.le_of_ble_eq_true rfl) (fun _ => rfl) h (fun x2 ex2 h => ?_)
    refine q_aloadn 9 d_La_lookAtStates_8 rfl 0 rfl ?_
    refine q_aloadn 10 d_La_lookAtStates_9 rfl 1 rfl ?_
    refine q_xcallP (as := [.ref 24]) (rest := [.ref 3]) 13 h (fun z e => t_Fo_promiseCount (by decide) e) (q_xinvV (Y := m_Fo_promiseCount) d_La_lookAtStates_10 ml_La_64 ms_Fo_promiseCount.1 ms_Fo_promiseCount.2 k_Fo_promiseCount.1 (by decide) n_Fo_promiseCount (by decide) rfl rfl) k_Fo_promiseCount (q_ro (by decide) (by decide)) (Nat.le_of_ble_eq_true rfl) d_La_lookAtStates_10 rfl rfl rfl (fun w3 ew3 h => ?_)
    refine q_xput 16 d_La_lookAtStates_13 rfl fl_La_38 (by decide) rfl rfl rfl rfl (Nat.le_of_ble_eq_true rfl) (fun _ => rfl) h (fun x4 ex4 h => ?_)
    refine q_aloadn 17 d_La_lookAtStates_16 rfl 0 rfl ?_
    refine q_aloadn 18 d_La_lookAtStates_17 rfl 0 rfl ?_
    refine q_xget 21 d_La_lookAtStates_18 rfl fl_La_34 (by decide) rfl rfl ?_
    refine q_xput 24 d_La_lookAtStates_21 rfl fl_La_41 (by decide) rfl rfl rfl rfl (Nat.le_of_ble_eq_true rfl) (fun _ => rfl) h (fun x5 ex5 h => ?_)
    refine q_iconst (v := 0) 25 d_La_lookAtStates_24 rfl (by decide) ?_
    refine q_istoren (lv' := [(2, .int 0), (0, .ref 3), (1, .ref 24)]) 26 d_La_lookAtStates_25 rfl (by decide) rfl ?_
    refine q_sub (lv' := [(0, .ref 3), (1, .ref 24), (2, .int 0)]) [1, 2, 0] rfl ?_
    exact t_La_lookAtStates_L26 (Or.inr rfl) q_fu _ _ h
set_option maxHeartbeats 4000000 in
set_option maxRecDepth 100000 in
theorem t_La_takeAway {E : q_E} {c d : Nat} {x : q_W} {a1 : Int32} {ρ : q_W} (h : f_La_takeAway x a1 = some ρ) : q_Ct E y_La_takeAway m_La_takeAway (q_rm 0) (q_cells E c d x) [.ref 3, .int a1] (q_rV E c d ρ) := by
  unfold f_La_takeAway at h
  refine q_Ct.of (lv := [(0, .ref 3), (1, .int a1)]) (by decide) ⟨rfl, rfl⟩ rfl (Nat.le_of_ble_eq_true rfl) ?_
  refine q_aloadn 1 d_La_takeAway_0 rfl 0 rfl ?_
  refine q_xget 4 d_La_takeAway_1 rfl fl_La_25 (by decide) rfl rfl ?_
  refine q_iloadn 5 d_La_takeAway_4 rfl 1 rfl ?_
  refine q_iconst (v := 0) 6 d_La_takeAway_5 rfl (by decide) ?_
  refine q_xzast 7 d_La_takeAway_6 rfl (by decide) (fun _ => rfl) h (fun x1 ex1 h => ?_)
  refine q_aloadn 8 d_La_takeAway_7 rfl 0 rfl ?_
  refine q_dup 9 d_La_takeAway_8 rfl rfl ?_
  refine q_xget 12 d_La_takeAway_9 rfl fl_La_41 (by decide) rfl rfl ?_
  refine q_iconst (v := 1) 13 d_La_takeAway_12 rfl (by decide) ?_
  refine q_isub 14 d_La_takeAway_13 rfl ?_
  refine q_xput 17 d_La_takeAway_14 rfl fl_La_41 (by decide) rfl rfl rfl rfl (Nat.le_of_ble_eq_true rfl) (fun _ => rfl) h (fun x2 ex2 h => ?_)
  cases h
  exact q_vret d_La_takeAway_17 rfl (Nat.zero_le _) (Nat.zero_le _)
set_option maxHeartbeats 4000000 in
set_option maxRecDepth 100000 in
theorem t_La_sweepDeadEnds_L40 {E : q_E} {c d : Nat} {ρ : q_W} : ∀ (n : Nat) (x : q_W) (v1 : Int32) (v2 : Int32), f_La_sweepDeadEnds_L40  n x v1 v2 = some ρ → AW E (q_rm 1) m_La_sweepDeadEnds (q_cells E c d x) 0 0 40 [(0, .ref 3), (1, .int v1), (2, .int v2)] [] (q_rV E c d ρ) := by
  intro n
  induction n with
  | zero =>
    intro x v1 v2 h
    have h : (none : Option q_W) = some ρ := h
    cases h
  | succ n ih =>
    intro x v1 v2 h
    unfold f_La_sweepDeadEnds_L40 at h
    refine q_iloadn 41 d_La_sweepDeadEnds_40 rfl 2 rfl ?_
    refine q_aloadn 42 d_La_sweepDeadEnds_41 rfl 0 rfl ?_
    refine q_xget 45 d_La_sweepDeadEnds_42 rfl fl_La_34 (by decide) rfl rfl ?_
    refine q_ite h (fun c11 h => ?_) (fun c11 h => ?_)
    · refine q_icmp_ge_t 78 d_La_sweepDeadEnds_45 (by decide) c11 ?_
      cases h
      exact q_vret d_La_sweepDeadEnds_78 rfl (Nat.zero_le _) (Nat.zero_le _)
    · refine q_icmp_ge_f 48 d_La_sweepDeadEnds_45 rfl 78 (by decide) c11 ?_
      refine q_aloadn 49 d_La_sweepDeadEnds_48 rfl 0 rfl ?_
      refine q_xget 52 d_La_sweepDeadEnds_49 rfl fl_La_25 (by decide) rfl rfl ?_
      refine q_iloadn 53 d_La_sweepDeadEnds_52 rfl 2 rfl ?_
      refine q_xzald 54 d_La_sweepDeadEnds_53 rfl (by decide) (fun _ => rfl) h (fun w6 ew6 h => ?_)
      refine q_ite h (fun c10 h => ?_) (fun c10 h => ?_)
      · refine q_if_eq_t 72 d_La_sweepDeadEnds_54 (by decide) c10 ?_
        refine q_iinc (v := (v2 + 1)) (lv' := [(2, .int (v2 + 1)), (0, .ref 3), (1, .int v1)]) 75 d_La_sweepDeadEnds_72 rfl 2 rfl (q_ai (by decide)) (by decide) rfl ?_
        refine q_goto 40 d_La_sweepDeadEnds_75 (by decide) ?_
        refine q_sub (lv' := [(0, .ref 3), (1, .int v1), (2, .int (v2 + 1))]) [1, 2, 0] rfl ?_
        exact ih _ _ _ h
      · refine q_if_eq_f 57 d_La_sweepDeadEnds_54 rfl 72 (by decide) c10 ?_
        refine q_iloadn 58 d_La_sweepDeadEnds_57 rfl 1 rfl ?_
        refine q_iloadn 59 d_La_sweepDeadEnds_58 rfl 2 rfl ?_
        refine q_iconst (v := 3) 60 d_La_sweepDeadEnds_59 rfl (by decide) ?_
        refine q_ishr 61 d_La_sweepDeadEnds_60 rfl ?_
        refine q_xcallP (as := [.int v1, .int (v2 >>> (3 &&& 31))]) (rest := []) 64 h (fun z e => t_D_hasBit e) (q_invSN (Y := m_D_hasBit) d_La_sweepDeadEnds_61 ml_La_84 ms_D_hasBit k_D_hasBit.2 k_D_hasBit.1 (by decide) n_D_hasBit) k_D_hasBit (q_ro (by decide) (by decide)) (Nat.le_of_ble_eq_true rfl) d_La_sweepDeadEnds_61 rfl rfl rfl (fun w7 ew7 h => ?_)
        refine q_ite h (fun c9 h => ?_) (fun c9 h => ?_)
        · refine q_if_ne_t 72 d_La_sweepDeadEnds_64 (by decide) c9 ?_
          refine q_iinc (v := (v2 + 1)) (lv' := [(2, .int (v2 + 1)), (0, .ref 3), (1, .int v1)]) 75 d_La_sweepDeadEnds_72 rfl 2 rfl (q_ai (by decide)) (by decide) rfl ?_
          refine q_goto 40 d_La_sweepDeadEnds_75 (by decide) ?_
          refine q_sub (lv' := [(0, .ref 3), (1, .int v1), (2, .int (v2 + 1))]) [1, 2, 0] rfl ?_
          exact ih _ _ _ h
        · refine q_if_ne_f 67 d_La_sweepDeadEnds_64 rfl 72 (by decide) (Classical.not_not.mp c9) ?_
          refine q_aloadn 68 d_La_sweepDeadEnds_67 rfl 0 rfl ?_
          refine q_iloadn 69 d_La_sweepDeadEnds_68 rfl 2 rfl ?_
          refine q_xcallV (as := [.ref 3, .int v2]) (rest := []) 72 h (fun z e => t_La_takeAway e) (q_xinvV (Y := m_La_takeAway) d_La_sweepDeadEnds_69 ml_La_88 ms_La_takeAway.1 ms_La_takeAway.2 k_La_takeAway.1 (by decide) n_La_takeAway (by decide) rfl rfl) k_La_takeAway (q_ro (by decide) (by decide)) (Nat.le_of_ble_eq_true rfl) d_La_sweepDeadEnds_69 rfl rfl rfl (fun x8 ex8 h => ?_)
          refine q_iinc (v := (v2 + 1)) (lv' := [(2, .int (v2 + 1)), (0, .ref 3), (1, .int v1)]) 75 d_La_sweepDeadEnds_72 rfl 2 rfl (q_ai (by decide)) (by decide) rfl ?_
          refine q_goto 40 d_La_sweepDeadEnds_75 (by decide) ?_
          refine q_sub (lv' := [(0, .ref 3), (1, .int v1), (2, .int (v2 + 1))]) [1, 2, 0] rfl ?_
          exact ih _ _ _ h
set_option maxHeartbeats 4000000 in
set_option maxRecDepth 100000 in
theorem t_La_sweepDeadEnds_L4 {E : q_E} {c d : Nat} {ρ : q_W} : ∀ (n : Nat) (x : q_W) (v1 : Int32) (v2 : Int32), f_La_sweepDeadEnds_L4  n x v1 v2 = some ρ → AW E (q_rm 1) m_La_sweepDeadEnds (q_cells E c d x) 0 0 4 [(0, .ref 3), (1, .int v1), (2, .int v2)] [] (q_rV E c d ρ) := by
  intro n
  induction n with
  | zero =>
    intro x v1 v2 h
    have h : (none : Option q_W) = some ρ := h
    cases h
  | succ n ih =>
    intro x v1 v2 h
    unfold f_La_sweepDeadEnds_L4 at h
    refine q_iloadn 5 d_La_sweepDeadEnds_4 rfl 2 rfl ?_
    refine q_aloadn 6 d_La_sweepDeadEnds_5 rfl 0 rfl ?_
    refine q_xget 9 d_La_sweepDeadEnds_6 rfl fl_La_34 (by decide) rfl rfl ?_
    refine q_ite h (fun c5 h => ?_) (fun c5 h => ?_)
    · refine q_icmp_ge_t 38 d_La_sweepDeadEnds_9 (by decide) c5 ?_
      refine q_iconst (v := 0) 39 d_La_sweepDeadEnds_38 rfl (by decide) ?_
      refine q_istoren (lv' := [(2, .int 0), (0, .ref 3), (1, .int v1)]) 40 d_La_sweepDeadEnds_39 rfl (by decide) rfl ?_
      refine q_sub (lv' := [(0, .ref 3), (1, .int v1), (2, .int 0)]) [1, 2, 0] rfl ?_
      exact t_La_sweepDeadEnds_L40  q_fu _ _ _ h
    · refine q_icmp_ge_f 12 d_La_sweepDeadEnds_9 rfl 38 (by decide) c5 ?_
      refine q_aloadn 13 d_La_sweepDeadEnds_12 rfl 0 rfl ?_
      refine q_xget 16 d_La_sweepDeadEnds_13 rfl fl_La_25 (by decide) rfl rfl ?_
      refine q_iloadn 17 d_La_sweepDeadEnds_16 rfl 2 rfl ?_
      refine q_xzald 18 d_La_sweepDeadEnds_17 rfl (by decide) (fun _ => rfl) h (fun w1 ew1 h => ?_)
      refine q_ite h (fun c4 h => ?_) (fun c4 h => ?_)
      · refine q_if_eq_t 32 d_La_sweepDeadEnds_18 (by decide) c4 ?_
        refine q_iinc (v := (v2 + 1)) (lv' := [(2, .int (v2 + 1)), (0, .ref 3), (1, .int v1)]) 35 d_La_sweepDeadEnds_32 rfl 2 rfl (q_ai (by decide)) (by decide) rfl ?_
        refine q_goto 4 d_La_sweepDeadEnds_35 (by decide) ?_
        refine q_sub (lv' := [(0, .ref 3), (1, .int v1), (2, .int (v2 + 1))]) [1, 2, 0] rfl ?_
        exact ih _ _ _ h
      · refine q_if_eq_f 21 d_La_sweepDeadEnds_18 rfl 32 (by decide) c4 ?_
        refine q_iloadn 22 d_La_sweepDeadEnds_21 rfl 1 rfl ?_
        refine q_iconst (v := 1) 23 d_La_sweepDeadEnds_22 rfl (by decide) ?_
        refine q_aloadn 24 d_La_sweepDeadEnds_23 rfl 0 rfl ?_
        refine q_xget 27 d_La_sweepDeadEnds_24 rfl fl_La_9 (by decide) rfl rfl ?_
        refine q_iloadn 28 d_La_sweepDeadEnds_27 rfl 2 rfl ?_
        refine q_xiald 29 d_La_sweepDeadEnds_28 rfl (by decide) (fun _ => rfl) h (fun w2 ew2 h => ?_)
        refine q_ishl 30 d_La_sweepDeadEnds_29 rfl ?_
        refine q_ior 31 d_La_sweepDeadEnds_30 rfl ?_
        refine q_xtop h (fun z3 ez3 h => ?_)
        refine q_istoren (lv' := [(1, .int z3), (0, .ref 3), (2, .int v2)]) 32 d_La_sweepDeadEnds_31 rfl (by decide) rfl ?_
        refine q_iinc (v := (v2 + 1)) (lv' := [(2, .int (v2 + 1)), (1, .int z3), (0, .ref 3)]) 35 d_La_sweepDeadEnds_32 rfl 2 rfl (q_ai (by decide)) (by decide) rfl ?_
        refine q_goto 4 d_La_sweepDeadEnds_35 (by decide) ?_
        refine q_sub (lv' := [(0, .ref 3), (1, .int z3), (2, .int (v2 + 1))]) [2, 1, 0] rfl ?_
        exact ih _ _ _ h
set_option maxHeartbeats 4000000 in
set_option maxRecDepth 100000 in
theorem t_La_sweepDeadEnds {E : q_E} {c d : Nat} {x : q_W} {ρ : q_W} (h : f_La_sweepDeadEnds x = some ρ) : q_Ct E y_La_sweepDeadEnds m_La_sweepDeadEnds (q_rm 1) (q_cells E c d x) [.ref 3] (q_rV E c d ρ) := by
  unfold f_La_sweepDeadEnds at h
  refine q_Ct.of (lv := [(0, .ref 3)]) (by decide) ⟨rfl, rfl⟩ rfl (Nat.le_of_ble_eq_true rfl) ?_
  refine q_iconst (v := 0) 1 d_La_sweepDeadEnds_0 rfl (by decide) ?_
  refine q_istoren (lv' := [(1, .int 0), (0, .ref 3)]) 2 d_La_sweepDeadEnds_1 rfl (by decide) rfl ?_
  refine q_iconst (v := 0) 3 d_La_sweepDeadEnds_2 rfl (by decide) ?_
  refine q_istoren (lv' := [(2, .int 0), (1, .int 0), (0, .ref 3)]) 4 d_La_sweepDeadEnds_3 rfl (by decide) rfl ?_
  refine q_sub (lv' := [(0, .ref 3), (1, .int 0), (2, .int 0)]) [2, 1, 0] rfl ?_
  exact t_La_sweepDeadEnds_L4  q_fu _ _ _ h
set_option maxHeartbeats 4000000 in
set_option maxRecDepth 100000 in
theorem t_La_stepsFrom {E : q_E} {c d : Nat} {x : q_W} {a1 : Int32} {a2 : Int32} {ρ : Int32} (h : f_La_stepsFrom x a1 a2 = some ρ) : q_Ct E y_La_stepsFrom m_La_stepsFrom (q_rm 0) (q_cells E c d x) [.ref 3, .int a1, .int a2] (q_rP E c d x ρ) := by
  unfold f_La_stepsFrom at h
  refine q_Ct.of (lv := [(0, .ref 3), (1, .int a1), (2, .int a2)]) (by decide) ⟨rfl, rfl⟩ rfl (Nat.le_of_ble_eq_true rfl) ?_
  refine q_aloadn 1 d_La_stepsFrom_0 rfl 0 rfl ?_
  refine q_xget 4 d_La_stepsFrom_1 rfl fl_La_28 (by decide) rfl rfl ?_
  refine q_iloadn 5 d_La_stepsFrom_4 rfl 2 rfl ?_
  refine q_sipush (v := 256) 8 d_La_stepsFrom_5 rfl (by decide) ?_
  refine q_imul 9 d_La_stepsFrom_8 rfl ?_
  refine q_iloadn 10 d_La_stepsFrom_9 rfl 1 rfl ?_
  refine q_iadd 11 d_La_stepsFrom_10 rfl ?_
  refine q_xiald 12 d_La_stepsFrom_11 rfl (by decide) (fun _ => rfl) h (fun w1 ew1 h => ?_)
  cases h
  exact q_iret d_La_stepsFrom_12 rfl (Nat.zero_le _) (Nat.zero_le _)
set_option maxHeartbeats 4000000 in
set_option maxRecDepth 100000 in
theorem t_La_sweepUnkept_L2 {E : q_E} {c d : Nat} {ρ : q_W} : ∀ (n : Nat) (x : q_W) (v1 : Int32) (v2 : Int32), f_La_sweepUnkept_L2  n x v1 v2 = some ρ → AW E (q_rm 1) m_La_sweepUnkept (q_cells E c d x) 0 0 2 [(0, .ref 3), (1, .int v1), (2, .int v2)] [] (q_rV E c d ρ) := by
  intro n
  induction n with
  | zero =>
    intro x v1 v2 h
    have h : (none : Option q_W) = some ρ := h
    cases h
  | succ n ih =>
    intro x v1 v2 h
    unfold f_La_sweepUnkept_L2 at h
    refine q_iloadn 3 d_La_sweepUnkept_2 rfl 2 rfl ?_
    refine q_aloadn 4 d_La_sweepUnkept_3 rfl 0 rfl ?_
    refine q_xget 7 d_La_sweepUnkept_4 rfl fl_La_34 (by decide) rfl rfl ?_
    refine q_ite h (fun c9 h => ?_) (fun c9 h => ?_)
    · refine q_icmp_ge_t 53 d_La_sweepUnkept_7 (by decide) c9 ?_
      cases h
      exact q_vret d_La_sweepUnkept_53 rfl (Nat.zero_le _) (Nat.zero_le _)
    · refine q_icmp_ge_f 10 d_La_sweepUnkept_7 rfl 53 (by decide) c9 ?_
      refine q_aloadn 11 d_La_sweepUnkept_10 rfl 0 rfl ?_
      refine q_xget 14 d_La_sweepUnkept_11 rfl fl_La_25 (by decide) rfl rfl ?_
      refine q_iloadn 15 d_La_sweepUnkept_14 rfl 2 rfl ?_
      refine q_xzald 16 d_La_sweepUnkept_15 rfl (by decide) (fun _ => rfl) h (fun w1 ew1 h => ?_)
      refine q_ite h (fun c8 h => ?_) (fun c8 h => ?_)
      · refine q_if_eq_t 47 d_La_sweepUnkept_16 (by decide) c8 ?_
        refine q_iinc (v := (v2 + 1)) (lv' := [(2, .int (v2 + 1)), (0, .ref 3), (1, .int v1)]) 50 d_La_sweepUnkept_47 rfl 2 rfl (q_ai (by decide)) (by decide) rfl ?_
        refine q_goto 2 d_La_sweepUnkept_50 (by decide) ?_
        refine q_sub (lv' := [(0, .ref 3), (1, .int v1), (2, .int (v2 + 1))]) [1, 2, 0] rfl ?_
        exact ih _ _ _ h
      · refine q_if_eq_f 19 d_La_sweepUnkept_16 rfl 47 (by decide) c8 ?_
        refine q_aloadn 20 d_La_sweepUnkept_19 rfl 0 rfl ?_
        refine q_xget 23 d_La_sweepUnkept_20 rfl fl_La_18 (by decide) rfl rfl ?_
        refine q_iloadn 24 d_La_sweepUnkept_23 rfl 2 rfl ?_
        refine q_xiald 25 d_La_sweepUnkept_24 rfl (by decide) (fun _ => rfl) h (fun w2 ew2 h => ?_)
        refine q_iloadn 26 d_La_sweepUnkept_25 rfl 1 rfl ?_
        refine q_xcallP (as := [.int w2, .int v1]) (rest := []) 29 h (fun z e => t_D_hasBit e) (q_invSN (Y := m_D_hasBit) d_La_sweepUnkept_26 ml_La_84 ms_D_hasBit k_D_hasBit.2 k_D_hasBit.1 (by decide) n_D_hasBit) k_D_hasBit (q_ro (by decide) (by decide)) (Nat.le_of_ble_eq_true rfl) d_La_sweepUnkept_26 rfl rfl rfl (fun w3 ew3 h => ?_)
        refine q_ite h (fun c7 h => ?_) (fun c7 h => ?_)
        · refine q_if_eq_t 47 d_La_sweepUnkept_29 (by decide) c7 ?_
          refine q_iinc (v := (v2 + 1)) (lv' := [(2, .int (v2 + 1)), (0, .ref 3), (1, .int v1)]) 50 d_La_sweepUnkept_47 rfl 2 rfl (q_ai (by decide)) (by decide) rfl ?_
          refine q_goto 2 d_La_sweepUnkept_50 (by decide) ?_
          refine q_sub (lv' := [(0, .ref 3), (1, .int v1), (2, .int (v2 + 1))]) [1, 2, 0] rfl ?_
          exact ih _ _ _ h
        · refine q_if_eq_f 32 d_La_sweepUnkept_29 rfl 47 (by decide) c7 ?_
          refine q_aloadn 33 d_La_sweepUnkept_32 rfl 0 rfl ?_
          refine q_iloadn 34 d_La_sweepUnkept_33 rfl 2 rfl ?_
          refine q_iloadn 35 d_La_sweepUnkept_34 rfl 1 rfl ?_
          refine q_xcallP (as := [.ref 3, .int v2, .int v1]) (rest := []) 38 h (fun z e => t_La_stepsFrom e) (q_xinvV (Y := m_La_stepsFrom) d_La_sweepUnkept_35 ml_La_91 ms_La_stepsFrom.1 ms_La_stepsFrom.2 k_La_stepsFrom.1 (by decide) n_La_stepsFrom (by decide) rfl rfl) k_La_stepsFrom (q_ro (by decide) (by decide)) (Nat.le_of_ble_eq_true rfl) d_La_sweepUnkept_35 rfl rfl rfl (fun w4 ew4 h => ?_)
          refine q_iconst (v := (-1)) 39 d_La_sweepUnkept_38 rfl (by decide) ?_
          refine q_ite h (fun c6 h => ?_) (fun c6 h => ?_)
          · refine q_icmp_ne_t 47 d_La_sweepUnkept_39 (by decide) c6 ?_
            refine q_iinc (v := (v2 + 1)) (lv' := [(2, .int (v2 + 1)), (0, .ref 3), (1, .int v1)]) 50 d_La_sweepUnkept_47 rfl 2 rfl (q_ai (by decide)) (by decide) rfl ?_
            refine q_goto 2 d_La_sweepUnkept_50 (by decide) ?_
            refine q_sub (lv' := [(0, .ref 3), (1, .int v1), (2, .int (v2 + 1))]) [1, 2, 0] rfl ?_
            exact ih _ _ _ h
          · refine q_icmp_ne_f 42 d_La_sweepUnkept_39 rfl 47 (by decide) (Classical.not_not.mp c6) ?_
            refine q_aloadn 43 d_La_sweepUnkept_42 rfl 0 rfl ?_
            refine q_iloadn 44 d_La_sweepUnkept_43 rfl 2 rfl ?_
            refine q_xcallV (as := [.ref 3, .int v2]) (rest := []) 47 h (fun z e => t_La_takeAway e) (q_xinvV (Y := m_La_takeAway) d_La_sweepUnkept_44 ml_La_88 ms_La_takeAway.1 ms_La_takeAway.2 k_La_takeAway.1 (by decide) n_La_takeAway (by decide) rfl rfl) k_La_takeAway (q_ro (by decide) (by decide)) (Nat.le_of_ble_eq_true rfl) d_La_sweepUnkept_44 rfl rfl rfl (fun x5 ex5 h => ?_)
            refine q_iinc (v := (v2 + 1)) (lv' := [(2, .int (v2 + 1)), (0, .ref 3), (1, .int v1)]) 50 d_La_sweepUnkept_47 rfl 2 rfl (q_ai (by decide)) (by decide) rfl ?_
            refine q_goto 2 d_La_sweepUnkept_50 (by decide) ?_
            refine q_sub (lv' := [(0, .ref 3), (1, .int v1), (2, .int (v2 + 1))]) [1, 2, 0] rfl ?_
            exact ih _ _ _ h
set_option maxHeartbeats 4000000 in
set_option maxRecDepth 100000 in
theorem t_La_sweepUnkept {E : q_E} {c d : Nat} {x : q_W} {a1 : Int32} {ρ : q_W} (h : f_La_sweepUnkept x a1 = some ρ) : q_Ct E y_La_sweepUnkept m_La_sweepUnkept (q_rm 1) (q_cells E c d x) [.ref 3, .int a1] (q_rV E c d ρ) := by
  unfold f_La_sweepUnkept at h
  refine q_Ct.of (lv := [(0, .ref 3), (1, .int a1)]) (by decide) ⟨rfl, rfl⟩ rfl (Nat.le_of_ble_eq_true rfl) ?_
  refine q_iconst (v := 0) 1 d_La_sweepUnkept_0 rfl (by decide) ?_
  refine q_istoren (lv' := [(2, .int 0), (0, .ref 3), (1, .int a1)]) 2 d_La_sweepUnkept_1 rfl (by decide) rfl ?_
  refine q_sub (lv' := [(0, .ref 3), (1, .int a1), (2, .int 0)]) [1, 2, 0] rfl ?_
  exact t_La_sweepUnkept_L2  q_fu _ _ _ h
set_option maxHeartbeats 4000000 in
set_option maxRecDepth 100000 in
theorem t_La_find_L33 {E : q_E} {c d : Nat} {f : Nat} (hf : f = 16 ∨ f = 24) {ρ : q_W} {K9 : q_W → Int32 → Int32 → Option q_W} {E33 : q_W → Int32 → Int32 → Option q_W} (hK9 : ∀ x v2 v3, K9 x v2 v3 = some ρ → AW E (q_rm 4) m_La_find (q_cells E c d x) 0 0 9 [(0, .ref 3), (2, .int v2), (3, .int v3)] [] (q_rV E c d ρ)) (hE33 : ∀ x u3 u4, E33 x u3 u4 = some ρ → AW E (q_rm 4) m_La_find (q_cells E c d x) 0 0 60 [(0, .ref 3), (3, .int u3), (4, .int u4)] [] (q_rV E c d ρ)) : ∀ (n : Nat) (x : q_W) (v3 : Int32) (v4 : Int32) (v5 : Int32), f_La_find_L33 f K9 E33 n x v3 v4 v5 = some ρ → AW E (q_rm 4) m_La_find (q_cells E c d x) 0 0 33 [(0, .ref 3), (3, .int v3), (4, .int v4), (5, .int v5)] [] (q_rV E c d ρ) := by
  rcases hf with rfl | rfl
  · intro n
    induction n with
    | zero =>
      intro x v3 v4 v5 h
      have h : (none : Option q_W) = some ρ := h
      cases h
    | succ n ih =>
      intro x v3 v4 v5 h
      unfold f_La_find_L33 at h
      refine q_iload 35 d_La_find_33 rfl 3 rfl ?_
      refine q_aloadn 36 d_La_find_35 rfl 0 rfl ?_
      refine q_xget 39 d_La_find_36 rfl fl_La_38 (by decide) rfl rfl ?_
      refine q_ite h (fun c12 h => ?_) (fun c12 h => ?_)
      · refine q_icmp_ge_t 60 d_La_find_39 (by decide) c12 ?_
        refine q_sub (lv' := [(0, .ref 3), (3, .int v3), (4, .int v4)]) [0, 1, 2] rfl ?_
        exact hE33 _ _ _ h
      · refine q_icmp_ge_f 42 d_La_find_39 rfl 60 (by decide) c12 ?_
        refine q_aloadn 43 d_La_find_42 rfl 0 rfl ?_
        refine q_iload 45 d_La_find_43 rfl 3 rfl ?_
        refine q_xcallV (as := [.ref 3, .int v5]) (rest := []) 48 h (fun z e => t_La_countSteps e) (q_xinvV (Y := m_La_countSteps) d_La_find_45 ml_La_51 ms_La_countSteps.1 ms_La_countSteps.2 k_La_countSteps.1 (by decide) n_La_countSteps (by decide) rfl rfl) k_La_countSteps (q_ro (by decide) (by decide)) (Nat.le_of_ble_eq_true rfl) d_La_find_45 rfl rfl rfl (fun x10 ex10 h => ?_)
        refine q_aloadn 49 d_La_find_48 rfl 0 rfl ?_
        refine q_iload 51 d_La_find_49 rfl 3 rfl ?_
        refine q_xcallV (as := [.ref 3, .int v5]) (rest := []) 54 h (fun z e => t_La_sweepUnkept e) (q_xinvV (Y := m_La_sweepUnkept) d_La_find_51 ml_La_55 ms_La_sweepUnkept.1 ms_La_sweepUnkept.2 k_La_sweepUnkept.1 (by decide) n_La_sweepUnkept (by decide) rfl rfl) k_La_sweepUnkept (q_ro (by decide) (by decide)) (Nat.le_of_ble_eq_true rfl) d_La_find_51 rfl rfl rfl (fun x11 ex11 h => ?_)
        refine q_iinc (v := (v5 + 1)) (lv' := [(5, .int (v5 + 1)), (0, .ref 3), (3, .int v3), (4, .int v4)]) 57 d_La_find_54 rfl 3 rfl (q_ai (by decide)) (by decide) rfl ?_
        refine q_goto 33 d_La_find_57 (by decide) ?_
        refine q_sub (lv' := [(0, .ref 3), (3, .int v3), (4, .int v4), (5, .int (v5 + 1))]) [1, 2, 3, 0] rfl ?_
        exact ih _ _ _ _ h
  · intro n
    induction n with
    | zero =>
      intro x v3 v4 v5 h
      have h : (none : Option q_W) = some ρ := h
      cases h
    | succ n ih =>
      intro x v3 v4 v5 h
      unfold f_La_find_L33 at h
      refine q_iload 35 d_La_find_33 rfl 3 rfl ?_
      refine q_aloadn 36 d_La_find_35 rfl 0 rfl ?_
      refine q_xget 39 d_La_find_36 rfl fl_La_38 (by decide) rfl rfl ?_
      refine q_ite h (fun c12 h => ?_) (fun c12 h => ?_)
      · refine q_icmp_ge_t 60 d_La_find_39 (by decide) c12 ?_
        refine q_sub (lv' := [(0, .ref 3), (3, .int v3), (4, .int v4)]) [0, 1, 2] rfl ?_
        exact hE33 _ _ _ h
      · refine q_icmp_ge_f 42 d_La_find_39 rfl 60 (by decide) c12 ?_
        refine q_aloadn 43 d_La_find_42 rfl 0 rfl ?_
        refine q_iload 45 d_La_find_43 rfl 3 rfl ?_
        refine q_xcallV (as := [.ref 3, .int v5]) (rest := []) 48 h (fun z e => t_La_countSteps e) (q_xinvV (Y := m_La_countSteps) d_La_find_45 ml_La_51 ms_La_countSteps.1 ms_La_countSteps.2 k_La_countSteps.1 (by decide) n_La_countSteps (by decide) rfl rfl) k_La_countSteps (q_ro (by decide) (by decide)) (Nat.le_of_ble_eq_true rfl) d_La_find_45 rfl rfl rfl (fun x10 ex10 h => ?_)
        refine q_aloadn 49 d_La_find_48 rfl 0 rfl ?_
        refine q_iload 51 d_La_find_49 rfl 3 rfl ?_
        refine q_xcallV (as := [.ref 3, .int v5]) (rest := []) 54 h (fun z e => t_La_sweepUnkept e) (q_xinvV (Y := m_La_sweepUnkept) d_La_find_51 ml_La_55 ms_La_sweepUnkept.1 ms_La_sweepUnkept.2 k_La_sweepUnkept.1 (by decide) n_La_sweepUnkept (by decide) rfl rfl) k_La_sweepUnkept (q_ro (by decide) (by decide)) (Nat.le_of_ble_eq_true rfl) d_La_find_51 rfl rfl rfl (fun x11 ex11 h => ?_)
        refine q_iinc (v := (v5 + 1)) (lv' := [(5, .int (v5 + 1)), (0, .ref 3), (3, .int v3), (4, .int v4)]) 57 d_La_find_54 rfl 3 rfl (q_ai (by decide)) (by decide) rfl ?_
        refine q_goto 33 d_La_find_57 (by decide) ?_
        refine q_sub (lv' := [(0, .ref 3), (3, .int v3), (4, .int v4), (5, .int (v5 + 1))]) [1, 2, 3, 0] rfl ?_
        exact ih _ _ _ _ h
set_option maxHeartbeats 4000000 in
set_option maxRecDepth 100000 in
theorem t_La_find_L9 {E : q_E} {c d : Nat} {f : Nat} (hf : f = 16 ∨ f = 24) {ρ : q_W} : ∀ (n : Nat) (x : q_W) (v2 : Int32) (v3 : Int32), f_La_find_L9 f n x v2 v3 = some ρ → AW E (q_rm 4) m_La_find (q_cells E c d x) 0 0 9 [(0, .ref 3), (2, .int v2), (3, .int v3)] [] (q_rV E c d ρ) := by
  rcases hf with rfl | rfl
  · intro n
    induction n with
    | zero =>
      intro x v2 v3 h
      have h : (none : Option q_W) = some ρ := h
      cases h
    | succ n ih =>
      intro x v2 v3 h
      unfold f_La_find_L9 at h
      refine q_iloadn 10 d_La_find_9 rfl 1 rfl ?_
      refine q_ite h (fun c9 h => ?_) (fun c9 h => ?_)
      · refine q_if_eq_t 81 d_La_find_10 (by decide) c9 ?_
        cases h
        exact q_vret d_La_find_81 rfl (Nat.zero_le _) (Nat.zero_le _)
      · refine q_if_eq_f 13 d_La_find_10 rfl 81 (by decide) c9 ?_
        refine q_iloadn 14 d_La_find_13 rfl 2 rfl ?_
        refine q_sipush (v := 256) 17 d_La_find_14 rfl (by decide) ?_
        refine q_ite h (fun c8 h => ?_) (fun c8 h => ?_)
        · refine q_icmp_gt_t 81 d_La_find_17 (by decide) c8 ?_
          cases h
          exact q_vret d_La_find_81 rfl (Nat.zero_le _) (Nat.zero_le _)
        · refine q_icmp_gt_f 20 d_La_find_17 rfl 81 (by decide) c8 ?_
          refine q_aloadn 21 d_La_find_20 rfl 0 rfl ?_
          refine q_xget 24 d_La_find_21 rfl fl_La_41 (by decide) rfl rfl ?_
          refine q_xtop h (fun z2 ez2 h => ?_)
          refine q_istore (lv' := [(4, .int z2), (0, .ref 3), (2, .int v2), (3, .int v3)]) 26 d_La_find_24 rfl (by decide) rfl ?_
          refine q_aloadn 27 d_La_find_26 rfl 1 rfl ?_
          refine q_xcallV (as := [.ref 3]) (rest := []) 30 h (fun z e => t_La_sweepDeadEnds e) (q_xinvV (Y := m_La_sweepDeadEnds) d_La_find_27 ml_La_48 ms_La_sweepDeadEnds.1 ms_La_sweepDeadEnds.2 k_La_sweepDeadEnds.1 (by decide) n_La_sweepDeadEnds (by decide) rfl rfl) k_La_sweepDeadEnds (q_ro (by decide) (by decide)) (Nat.le_of_ble_eq_true rfl) d_La_find_27 rfl rfl rfl (fun x3 ex3 h => ?_)
          refine q_iconst (v := 0) 31 d_La_find_30 rfl (by decide) ?_
          refine q_istore (lv' := [(5, .int 0), (4, .int z2), (0, .ref 3), (2, .int v2), (3, .int v3)]) 33 d_La_find_31 rfl (by decide) rfl ?_
          refine q_sub (lv' := [(0, .ref 3), (3, .int v3), (4, .int z2), (5, .int 0)]) [2, 4, 1, 0] rfl ?_
          refine t_La_find_L33 (Or.inl rfl) ih (fun x4 u5 u6 h => ?_) q_fu _ _ _ _ h
          refine q_aloadn 61 d_La_find_60 rfl 0 rfl ?_
          refine q_xget 64 d_La_find_61 rfl fl_La_41 (by decide) rfl rfl ?_
          refine q_iload 66 d_La_find_64 rfl 2 rfl ?_
          refine q_ite h (fun c7 h => ?_) (fun c7 h => ?_)
          · refine q_icmp_ge_t 73 d_La_find_66 (by decide) c7 ?_
            refine q_iconst (v := 0) 74 d_La_find_73 rfl (by decide) ?_
            refine q_istoren (lv' := [(2, .int 0), (0, .ref 3), (3, .int u5), (4, .int u6)]) 75 d_La_find_74 rfl (by decide) rfl ?_
            refine q_iinc (v := (u5 + 1)) (lv' := [(3, .int (u5 + 1)), (2, .int 0), (0, .ref 3), (4, .int u6)]) 78 d_La_find_75 rfl 2 rfl (q_ai (by decide)) (by decide) rfl ?_
            refine q_goto 9 d_La_find_78 (by decide) ?_
            refine q_sub (lv' := [(0, .ref 3), (2, .int 0), (3, .int (u5 + 1))]) [2, 1, 0] rfl ?_
            exact ih _ _ _ h
          · refine q_icmp_ge_f 69 d_La_find_66 rfl 73 (by decide) c7 ?_
            refine q_iconst (v := 1) 70 d_La_find_69 rfl (by decide) ?_
            refine q_goto 74 d_La_find_70 (by decide) ?_
            refine q_istoren (lv' := [(2, .int 1), (0, .ref 3), (3, .int u5), (4, .int u6)]) 75 d_La_find_74 rfl (by decide) rfl ?_
            refine q_iinc (v := (u5 + 1)) (lv' := [(3, .int (u5 + 1)), (2, .int 1), (0, .ref 3), (4, .int u6)]) 78 d_La_find_75 rfl 2 rfl (q_ai (by decide)) (by decide) rfl ?_
            refine q_goto 9 d_La_find_78 (by decide) ?_
            refine q_sub (lv' := [(0, .ref 3), (2, .int 1), (3, .int (u5 + 1))]) [2, 1, 0] rfl ?_
            exact ih _ _ _ h
  · intro n
    induction n with
    | zero =>
      intro x v2 v3 h
      have h : (none : Option q_W) = some ρ := h
      cases h
    | succ n ih =>
      intro x v2 v3 h
      unfold f_La_find_L9 at h
      refine q_iloadn 10 d_La_find_9 rfl 1 rfl ?_
      refine q_ite h (fun c9 h => ?_) (fun c9 h => ?_)
      · refine q_if_eq_t 81 d_La_find_10 (by decide) c9 ?_
        cases h
        exact q_vret d_La_find_81 rfl (Nat.zero_le _) (Nat.zero_le _)
      · refine q_if_eq_f 13 d_La_find_10 rfl 81 (by decide) c9 ?_
        refine q_iloadn 14 d_La_find_13 rfl 2 rfl ?_
        refine q_sipush (v := 256) 17 d_La_find_14 rfl (by decide) ?_
        refine q_ite h (fun c8 h => ?_) (fun c8 h => ?_)
        · refine q_icmp_gt_t 81 d_La_find_17 (by decide) c8 ?_
          cases h
          exact q_vret d_La_find_81 rfl (Nat.zero_le _) (Nat.zero_le _)
        · refine q_icmp_gt_f 20 d_La_find_17 rfl 81 (by decide) c8 ?_
          refine q_aloadn 21 d_La_find_20 rfl 0 rfl ?_
          refine q_xget 24 d_La_find_21 rfl fl_La_41 (by decide) rfl rfl ?_
          refine q_xtop h (fun z2 ez2 h => ?_)
          refine q_istore (lv' := [(4, .int z2), (0, .ref 3), (2, .int v2), (3, .int v3)]) 26 d_La_find_24 rfl (by decide) rfl ?_
          refine q_aloadn 27 d_La_find_26 rfl 1 rfl ?_
          refine q_xcallV (as := [.ref 3]) (rest := []) 30 h (fun z e => t_La_sweepDeadEnds e) (q_xinvV (Y := m_La_sweepDeadEnds) d_La_find_27 ml_La_48 ms_La_sweepDeadEnds.1 ms_La_sweepDeadEnds.2 k_La_sweepDeadEnds.1 (by decide) n_La_sweepDeadEnds (by decide) rfl rfl) k_La_sweepDeadEnds (q_ro (by decide) (by decide)) (Nat.le_of_ble_eq_true rfl) d_La_find_27 rfl rfl rfl (fun x3 ex3 h => ?_)
          refine q_iconst (v := 0) 31 d_La_find_30 rfl (by decide) ?_
          refine q_istore (lv' := [(5, .int 0), (4, .int z2), (0, .ref 3), (2, .int v2), (3, .int v3)]) 33 d_La_find_31 rfl (by decide) rfl ?_
          refine q_sub (lv' := [(0, .ref 3), (3, .int v3), (4, .int z2), (5, .int 0)]) [2, 4, 1, 0] rfl ?_
          refine t_La_find_L33 (Or.inr rfl) ih (fun x4 u5 u6 h => ?_) q_fu _ _ _ _ h
          refine q_aloadn 61 d_La_find_60 rfl 0 rfl ?_
          refine q_xget 64 d_La_find_61 rfl fl_La_41 (by decide) rfl rfl ?_
          refine q_iload 66 d_La_find_64 rfl 2 rfl ?_
          refine q_ite h (fun c7 h => ?_) (fun c7 h => ?_)
          · refine q_icmp_ge_t 73 d_La_find_66 (by decide) c7 ?_
            refine q_iconst (v := 0) 74 d_La_find_73 rfl (by decide) ?_
            refine q_istoren (lv' := [(2, .int 0), (0, .ref 3), (3, .int u5), (4, .int u6)]) 75 d_La_find_74 rfl (by decide) rfl ?_
            refine q_iinc (v := (u5 + 1)) (lv' := [(3, .int (u5 + 1)), (2, .int 0), (0, .ref 3), (4, .int u6)]) 78 d_La_find_75 rfl 2 rfl (q_ai (by decide)) (by decide) rfl ?_
            refine q_goto 9 d_La_find_78 (by decide) ?_
            refine q_sub (lv' := [(0, .ref 3), (2, .int 0), (3, .int (u5 + 1))]) [2, 1, 0] rfl ?_
            exact ih _ _ _ h
          · refine q_icmp_ge_f 69 d_La_find_66 rfl 73 (by decide) c7 ?_
            refine q_iconst (v := 1) 70 d_La_find_69 rfl (by decide) ?_
            refine q_goto 74 d_La_find_70 (by decide) ?_
            refine q_istoren (lv' := [(2, .int 1), (0, .ref 3), (3, .int u5), (4, .int u6)]) 75 d_La_find_74 rfl (by decide) rfl ?_
            refine q_iinc (v := (u5 + 1)) (lv' := [(3, .int (u5 + 1)), (2, .int 1), (0, .ref 3), (4, .int u6)]) 78 d_La_find_75 rfl 2 rfl (q_ai (by decide)) (by decide) rfl ?_
            refine q_goto 9 d_La_find_78 (by decide) ?_
            refine q_sub (lv' := [(0, .ref 3), (2, .int 1), (3, .int (u5 + 1))]) [2, 1, 0] rfl ?_
            exact ih _ _ _ h
set_option maxHeartbeats 4000000 in
set_option maxRecDepth 100000 in
theorem t_La_find {E : q_E} {c d : Nat} {f : Nat} (hf : f = 16 ∨ f = 24) {x : q_W} {ρ : q_W} (h : f_La_find f x = some ρ) : q_Ct E y_La_find m_La_find (q_rm 4) (q_cells E c d x) [.ref 3, .ref f] (q_rV E c d ρ) := by
  rcases hf with rfl | rfl
  · unfold f_La_find at h
    refine q_Ct.of (lv := [(0, .ref 3), (1, .ref 16)]) (by decide) ⟨rfl, rfl⟩ rfl (Nat.le_of_ble_eq_true rfl) ?_
    refine q_aloadn 1 d_La_find_0 rfl 0 rfl ?_
    refine q_aloadn 2 d_La_find_1 rfl 1 rfl ?_
    refine q_xcallV (as := [.ref 3, .ref 16]) (rest := []) 5 h (fun z e => t_La_lookAtStates (by decide) e) (q_xinvV (Y := m_La_lookAtStates) d_La_find_2 ml_La_44 ms_La_lookAtStates.1 ms_La_lookAtStates.2 k_La_lookAtStates.1 (by decide) n_La_lookAtStates (by decide) rfl rfl) k_La_lookAtStates (q_ro (by decide) (by decide)) (Nat.le_of_ble_eq_true rfl) d_La_find_2 rfl rfl rfl (fun x1 ex1 h => ?_)
    refine q_iconst (v := 1) 6 d_La_find_5 rfl (by decide) ?_
    refine q_istoren (lv' := [(2, .int 1), (0, .ref 3), (1, .ref 16)]) 7 d_La_find_6 rfl (by decide) rfl ?_
    refine q_iconst (v := 0) 8 d_La_find_7 rfl (by decide) ?_
    refine q_istoren (lv' := [(3, .int 0), (2, .int 1), (0, .ref 3), (1, .ref 16)]) 9 d_La_find_8 rfl (by decide) rfl ?_
    refine q_sub (lv' := [(0, .ref 3), (2, .int 1), (3, .int 0)]) [2, 1, 0] rfl ?_
    exact t_La_find_L9 (Or.inl rfl) q_fu _ _ _ h
  · unfold f_La_find at h
    refine q_Ct.of (lv := [(0, .ref 3), (1, .ref 24)]) (by decide) ⟨rfl, rfl⟩ rfl (Nat.le_of_ble_eq_true rfl) ?_
    refine q_aloadn 1 d_La_find_0 rfl 0 rfl ?_
    refine q_aloadn 2 d_La_find_1 rfl 1 rfl ?_
    refine q_xcallV (as := [.ref 3, .ref 24]) (rest := []) 5 h (fun z e => t_La_lookAtStates (by decide) e) (q_xinvV (Y := m_La_lookAtStates) d_La_find_2 ml_La_44 ms_La_lookAtStates.1 ms_La_lookAtStates.2 k_La_lookAtStates.1 (by decide) n_La_lookAtStates (by decide) rfl rfl) k_La_lookAtStates (q_ro (by decide) (by decide)) (Nat.le_of_ble_eq_true rfl) d_La_find_2 rfl rfl rfl (fun x1 ex1 h => ?_)
    refine q_iconst (v := 1) 6 d_La_find_5 rfl (by decide) ?_
    refine q_istoren (lv' := [(2, .int 1), (0, .ref 3), (1, .ref 24)]) 7 d_La_find_6 rfl (by decide) rfl ?_
    refine q_iconst (v := 0) 8 d_La_find_7 rfl (by decide) ?_
    refine q_istoren (lv' := [(3, .int 0), (2, .int 1), (0, .ref 3), (1, .ref 24)]) 9 d_La_find_8 rfl (by decide) rfl ?_
    refine q_sub (lv' := [(0, .ref 3), (2, .int 1), (3, .int 0)]) [2, 1, 0] rfl ?_
    exact t_La_find_L9 (Or.inr rfl) q_fu _ _ _ h
set_option maxHeartbeats 4000000 in
set_option maxRecDepth 100000 in
theorem t_La_dutyFrom_L5 {E : q_E} {c d : Nat} {ρ : Int32} : ∀ (n : Nat) (x : q_W) (v1 : Int32) (v2 : Int32) (v3 : Int32) (v4 : Int32), f_La_dutyFrom_L5  n x v1 v2 v3 v4 = some ρ → AW E (q_rm 1) m_La_dutyFrom (q_cells E c d x) 0 0 5 [(0, .ref 3), (1, .int v1), (2, .int v2), (3, .int v3), (4, .int v4)] [] (q_rP E c d x ρ) := by
  intro n
  induction n with
  | zero =>
    intro x v1 v2 v3 v4 h
    have h : (none : Option Int32) = some ρ := h
    cases h
  | succ n ih =>
    intro x v1 v2 v3 v4 h
    unfold f_La_dutyFrom_L5 at h
    refine q_iload 7 d_La_dutyFrom_5 rfl 4 rfl ?_
    refine q_aloadn 8 d_La_dutyFrom_7 rfl 0 rfl ?_
    refine q_xget 11 d_La_dutyFrom_8 rfl fl_La_38 (by decide) rfl rfl ?_
    refine q_ite h (fun c6 h => ?_) (fun c6 h => ?_)
    · refine q_icmp_ge_t 53 d_La_dutyFrom_11 (by decide) c6 ?_
      refine q_iloadn 54 d_La_dutyFrom_53 rfl 2 rfl ?_
      cases h
      exact q_iret d_La_dutyFrom_54 rfl (Nat.zero_le _) (Nat.zero_le _)
    · refine q_icmp_ge_f 14 d_La_dutyFrom_11 rfl 53 (by decide) c6 ?_
      refine q_aloadn 15 d_La_dutyFrom_14 rfl 0 rfl ?_
      refine q_xget 18 d_La_dutyFrom_15 rfl fl_La_18 (by decide) rfl rfl ?_
      refine q_iloadn 19 d_La_dutyFrom_18 rfl 1 rfl ?_
      refine q_xiald 20 d_La_dutyFrom_19 rfl (by decide) (fun _ => rfl) h (fun w1 ew1 h => ?_)
      refine q_iloadn 21 d_La_dutyFrom_20 rfl 3 rfl ?_
      refine q_xcallP (as := [.int w1, .int v3]) (rest := []) 24 h (fun z e => t_D_hasBit e) (q_invSN (Y := m_D_hasBit) d_La_dutyFrom_21 ml_La_84 ms_D_hasBit k_D_hasBit.2 k_D_hasBit.1 (by decide) n_D_hasBit) k_D_hasBit (q_ro (by decide) (by decide)) (Nat.le_of_ble_eq_true rfl) d_La_dutyFrom_21 rfl rfl rfl (fun w2 ew2 h => ?_)
      refine q_ite h (fun c5 h => ?_) (fun c5 h => ?_)
      · refine q_if_eq_t 29 d_La_dutyFrom_24 (by decide) c5 ?_
        refine q_iloadn 30 d_La_dutyFrom_29 rfl 3 rfl ?_
        refine q_iconst (v := 1) 31 d_La_dutyFrom_30 rfl (by decide) ?_
        refine q_iadd 32 d_La_dutyFrom_31 rfl ?_
        refine q_aloadn 33 d_La_dutyFrom_32 rfl 0 rfl ?_
        refine q_xget 36 d_La_dutyFrom_33 rfl fl_La_38 (by decide) rfl rfl ?_
        refine q_ite h (fun c4 h => ?_) (fun c4 h => ?_)
        · refine q_icmp_ge_t 45 d_La_dutyFrom_36 (by decide) c4 ?_
          refine q_iconst (v := 0) 46 d_La_dutyFrom_45 rfl (by decide) ?_
          refine q_istoren (lv' := [(3, .int 0), (0, .ref 3), (1, .int v1), (2, .int v2), (4, .int v4)]) 47 d_La_dutyFrom_46 rfl (by decide) rfl ?_
          refine q_iinc (v := (v4 + 1)) (lv' := [(4, .int (v4 + 1)), (3, .int 0), (0, .ref 3), (1, .int v1), (2, .int v2)]) 50 d_La_dutyFrom_47 rfl 4 rfl (q_ai (by decide)) (by decide) rfl ?_
          refine q_goto 5 d_La_dutyFrom_50 (by decide) ?_
          refine q_sub (lv' := [(0, .ref 3), (1, .int v1), (2, .int v2), (3, .int 0), (4, .int (v4 + 1))]) [2, 3, 4, 1, 0] rfl ?_
          exact ih _ _ _ _ _ h
        · refine q_icmp_ge_f 39 d_La_dutyFrom_36 rfl 45 (by decide) c4 ?_
          refine q_iloadn 40 d_La_dutyFrom_39 rfl 3 rfl ?_
          refine q_iconst (v := 1) 41 d_La_dutyFrom_40 rfl (by decide) ?_
          refine q_iadd 42 d_La_dutyFrom_41 rfl ?_
          refine q_goto 46 d_La_dutyFrom_42 (by decide) ?_
          refine q_xtop h (fun z3 ez3 h => ?_)
          refine q_istoren (lv' := [(3, .int z3), (0, .ref 3), (1, .int v1), (2, .int v2), (4, .int v4)]) 47 d_La_dutyFrom_46 rfl (by decide) rfl ?_
          refine q_iinc (v := (v4 + 1)) (lv' := [(4, .int (v4 + 1)), (3, .int z3), (0, .ref 3), (1, .int v1), (2, .int v2)]) 50 d_La_dutyFrom_47 rfl 4 rfl (q_ai (by decide)) (by decide) rfl ?_
          refine q_goto 5 d_La_dutyFrom_50 (by decide) ?_
          refine q_sub (lv' := [(0, .ref 3), (1, .int v1), (2, .int v2), (3, .int z3), (4, .int (v4 + 1))]) [2, 3, 4, 1, 0] rfl ?_
          exact ih _ _ _ _ _ h
      · refine q_if_eq_f 27 d_La_dutyFrom_24 rfl 29 (by decide) c5 ?_
        refine q_iloadn 28 d_La_dutyFrom_27 rfl 3 rfl ?_
        cases h
        exact q_iret d_La_dutyFrom_28 rfl (Nat.zero_le _) (Nat.zero_le _)
set_option maxHeartbeats 4000000 in
set_option maxRecDepth 100000 in
theorem t_La_dutyFrom {E : q_E} {c d : Nat} {x : q_W} {a1 : Int32} {a2 : Int32} {ρ : Int32} (h : f_La_dutyFrom x a1 a2 = some ρ) : q_Ct E y_La_dutyFrom m_La_dutyFrom (q_rm 1) (q_cells E c d x) [.ref 3, .int a1, .int a2] (q_rP E c d x ρ) := by
  unfold f_La_dutyFrom at h
  refine q_Ct.of (lv := [(0, .ref 3), (1, .int a1), (2, .int a2)]) (by decide) ⟨rfl, rfl⟩ rfl (Nat.le_of_ble_eq_true rfl) ?_
  refine q_iloadn 1 d_La_dutyFrom_0 rfl 2 rfl ?_
  refine q_istoren (lv' := [(3, .int a2), (0, .ref 3), (1, .int a1), (2, .int a2)]) 2 d_La_dutyFrom_1 rfl (by decide) rfl ?_
  refine q_iconst (v := 0) 3 d_La_dutyFrom_2 rfl (by decide) ?_
  refine q_istore (lv' := [(4, .int 0), (3, .int a2), (0, .ref 3), (1, .int a1), (2, .int a2)]) 5 d_La_dutyFrom_3 rfl (by decide) rfl ?_
  refine q_sub (lv' := [(0, .ref 3), (1, .int a1), (2, .int a2), (3, .int a2), (4, .int 0)]) [2, 3, 4, 1, 0] rfl ?_
  exact t_La_dutyFrom_L5  q_fu _ _ _ _ _ h
