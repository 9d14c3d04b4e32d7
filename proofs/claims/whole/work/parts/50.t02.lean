set_option maxHeartbeats 4000000 in
set_option maxRecDepth 100000 in
theorem t_Fo_partsAt_L4 {E : q_E} {c d : Nat} {f : Nat} (hf : f = 16 ∨ f = 24) {ρ : Int32} : ∀ (n : Nat) (x : q_W) (v1 : Int32) (v2 : Int32) (v3 : Int32), f_Fo_partsAt_L4 f n x v1 v2 v3 = some ρ → AW E (q_rm 2) m_Fo_partsAt (q_cells E c d x) 0 0 4 [(0, .ref f), (1, .int v1), (2, .int v2), (3, .int v3)] [] (q_rP E c d x ρ) := by
  rcases hf with rfl | rfl
  · intro n
    induction n with
    | zero =>
      intro x v1 v2 v3 h
      have h : (none : Option Int32) = some ρ := h
      cases h
    | succ n ih =>
      intro x v1 v2 v3 h
      unfold f_Fo_partsAt_L4 at h
      refine q_iloadn 5 d_Fo_partsAt_4 rfl 3 rfl ?_
      refine q_aloadn 6 d_Fo_partsAt_5 rfl 0 rfl ?_
      refine q_xget 9 d_Fo_partsAt_6 rfl fl_Fo_33 (by decide) rfl rfl ?_
      refine q_ite h (fun c4 h => ?_) (fun c4 h => ?_)
      · refine q_icmp_ge_t 34 d_Fo_partsAt_9 (by decide) c4 ?_
        refine q_iloadn 35 d_Fo_partsAt_34 rfl 2 rfl ?_
        cases h
        exact q_iret d_Fo_partsAt_35 rfl (Nat.zero_le _) (Nat.zero_le _)
      · refine q_icmp_ge_f 12 d_Fo_partsAt_9 rfl 34 (by decide) c4 ?_
        refine q_aloadn 13 d_Fo_partsAt_12 rfl 0 rfl ?_
        refine q_iloadn 14 d_Fo_partsAt_13 rfl 3 rfl ?_
        refine q_iloadn 15 d_Fo_partsAt_14 rfl 1 rfl ?_
        refine q_iloadn 16 d_Fo_partsAt_15 rfl 2 rfl ?_
        refine q_xcallP (as := [.ref 16, .int v3, .int v1, .int v2]) (rest := []) 19 h (fun z e => t_Fo_isPartAt (by decide) e) (q_xinvV (Y := m_Fo_isPartAt) d_Fo_partsAt_16 ml_Fo_51 ms_Fo_isPartAt.1 ms_Fo_isPartAt.2 k_Fo_isPartAt.1 (by decide) n_Fo_isPartAt (by decide) rfl rfl) k_Fo_isPartAt (q_ro (by decide) (by decide)) (Nat.le_of_ble_eq_true rfl) d_Fo_partsAt_16 rfl rfl rfl (fun w1 ew1 h => ?_)
        refine q_ite h (fun c3 h => ?_) (fun c3 h => ?_)
        · refine q_if_eq_t 28 d_Fo_partsAt_19 (by decide) c3 ?_
          refine q_iinc (v := (v3 + 1)) (lv' := [(3, .int (v3 + 1)), (0, .ref 16), (1, .int v1), (2, .int v2)]) 31 d_Fo_partsAt_28 rfl 3 rfl (q_ai (by decide)) (by decide) rfl ?_
          refine q_goto 4 d_Fo_partsAt_31 (by decide) ?_
          refine q_sub (lv' := [(0, .ref 16), (1, .int v1), (2, .int v2), (3, .int (v3 + 1))]) [1, 2, 3, 0] rfl ?_
          exact ih _ _ _ _ h
        · refine q_if_eq_f 22 d_Fo_partsAt_19 rfl 28 (by decide) c3 ?_
          refine q_iloadn 23 d_Fo_partsAt_22 rfl 2 rfl ?_
          refine q_iconst (v := 1) 24 d_Fo_partsAt_23 rfl (by decide) ?_
          refine q_iloadn 25 d_Fo_partsAt_24 rfl 3 rfl ?_
          refine q_ishl 26 d_Fo_partsAt_25 rfl ?_
          refine q_ior 27 d_Fo_partsAt_26 rfl ?_
          refine q_xtop h (fun z2 ez2 h => ?_)
          refine q_istoren (lv' := [(2, .int z2), (0, .ref 16), (1, .int v1), (3, .int v3)]) 28 d_Fo_partsAt_27 rfl (by decide) rfl ?_
          refine q_iinc (v := (v3 + 1)) (lv' := [(3, .int (v3 + 1)), (2, .int z2), (0, .ref 16), (1, .int v1)]) 31 d_Fo_partsAt_28 rfl 3 rfl (q_ai (by decide)) (by decide) rfl ?_
          refine q_goto 4 d_Fo_partsAt_31 (by decide) ?_
          refine q_sub (lv' := [(0, .ref 16), (1, .int v1), (2, .int z2), (3, .int (v3 + 1))]) [2, 3, 1, 0] rfl ?_
          exact ih _ _ _ _ h
  · intro n
    induction n with
    | zero =>
      intro x v1 v2 v3 h
      have h : (none : Option Int32) = some ρ := h
      cases h
    | succ n ih =>
      intro x v1 v2 v3 h
      unfold f_Fo_partsAt_L4 at h
      refine q_iloadn 5 d_Fo_partsAt_4 rfl 3 rfl ?_
      refine q_aloadn 6 d_Fo_partsAt_5 rfl 0 rfl ?_
      refine q_xget 9 d_Fo_partsAt_6 rfl fl_Fo_33 (by decide) rfl rfl ?_
      refine q_ite h (fun c4 h => ?_) (fun c4 h => ?_)
      · refine q_icmp_ge_t 34 d_Fo_partsAt_9 (by decide) c4 ?_
        refine q_iloadn 35 d_Fo_partsAt_34 rfl 2 rfl ?_
        cases h
        exact q_iret d_Fo_partsAt_35 rfl (Nat.zero_le _) (Nat.zero_le _)
      · refine q_icmp_ge_f 12 d_Fo_partsAt_9 rfl 34 (by decide) c4 ?_
        refine q_aloadn 13 d_Fo_partsAt_12 rfl 0 rfl ?_
        refine q_iloadn 14 d_Fo_partsAt_13 rfl 3 rfl ?_
        refine q_iloadn 15 d_Fo_partsAt_14 rfl 1 rfl ?_
        refine q_iloadn 16 d_Fo_partsAt_15 rfl 2 rfl ?_
        refine q_xcallP (as := [.ref 24, .int v3, .int v1, .int v2]) (rest := []) 19 h (fun z e => t_Fo_isPartAt (by decide) e) (q_xinvV (Y := m_Fo_isPartAt) d_Fo_partsAt_16 ml_Fo_51 ms_Fo_isPartAt.1 ms_Fo_isPartAt.2 k_Fo_isPartAt.1 (by decide) n_Fo_isPartAt (by decide) rfl rfl) k_Fo_isPartAt (q_ro (by decide) (by decide)) (Nat.le_of_ble_eq_true rfl) d_Fo_partsAt_16 rfl rfl rfl (fun w1 ew1 h => ?_)
        refine q_ite h (fun c3 h => ?_) (fun c3 h => ?_)
        · refine q_if_eq_t 28 d_Fo_partsAt_19 (by decide) c3 ?_
          refine q_iinc (v := (v3 + 1)) (lv' := [(3, .int (v3 + 1)), (0, .ref 24), (1, .int v1), (2, .int v2)]) 31 d_Fo_partsAt_28 rfl 3 rfl (q_ai (by decide)) (by decide) rfl ?_
          refine q_goto 4 d_Fo_partsAt_31 (by decide) ?_
          refine q_sub (lv' := [(0, .ref 24), (1, .int v1), (2, .int v2), (3, .int (v3 + 1))]) [1, 2, 3, 0] rfl ?_
          exact ih _ _ _ _ h
        · refine q_if_eq_f 22 d_Fo_partsAt_19 rfl 28 (by decide) c3 ?_
          refine q_iloadn 23 d_Fo_partsAt_22 rfl 2 rfl ?_
          refine q_iconst (v := 1) 24 d_Fo_partsAt_23 rfl (by decide) ?_
          refine q_iloadn 25 d_Fo_partsAt_24 rfl 3 rfl ?_
          refine q_ishl 26 d_Fo_partsAt_25 rfl ?_
          refine q_ior 27 d_Fo_partsAt_26 rfl ?_
          refine q_xtop h (fun z2 ez2 h => ?_)
          refine q_istoren (lv' := [(2, .int z2), (0, .ref 24), (1, .int v1), (3, .int v3)]) 28 d_Fo_partsAt_27 rfl (by decide) rfl ?_
          refine q_iinc (v := (v3 + 1)) (lv' := [(3, .int (v3 + 1)), (2, .int z2), (0, .ref 24), (1, .int v1)]) 31 d_Fo_partsAt_28 rfl 3 rfl (q_ai (by decide)) (by decide) rfl ?_
          refine q_goto 4 d_Fo_partsAt_31 (by decide) ?_
          refine q_sub (lv' := [(0, .ref 24), (1, .int v1), (2, .int z2), (3, .int (v3 + 1))]) [2, 3, 1, 0] rfl ?_
          exact ih _ _ _ _ h
set_option maxHeartbeats 4000000 in
set_option maxRecDepth 100000 in
theorem t_Fo_partsAt {E : q_E} {c d : Nat} {f : Nat} (hf : f = 16 ∨ f = 24) {x : q_W} {a1 : Int32} {ρ : Int32} (h : f_Fo_partsAt f x a1 = some ρ) : q_Ct E y_Fo_partsAt m_Fo_partsAt (q_rm 2) (q_cells E c d x) [.ref f, .int a1] (q_rP E c d x ρ) := by
  rcases hf with rfl | rfl
  · unfold f_Fo_partsAt at h
    refine q_Ct.of (lv := [(0, .ref 16), (1, .int a1)]) (by decide) ⟨rfl, rfl⟩ rfl (Nat.le_of_ble_eq_true rfl) ?_
    refine q_iconst (v := 0) 1 d_Fo_partsAt_0 rfl (by decide) ?_
    refine q_istoren (lv' := [(2, .int 0), (0, .ref 16), (1, .int a1)]) 2 d_Fo_partsAt_1 rfl (by decide) rfl ?_
    refine q_iconst (v := 0) 3 d_Fo_partsAt_2 rfl (by decide) ?_
    refine q_istoren (lv' := [(3, .int 0), (2, .int 0), (0, .ref 16), (1, .int a1)]) 4 d_Fo_partsAt_3 rfl (by decide) rfl ?_
    refine q_sub (lv' := [(0, .ref 16), (1, .int a1), (2, .int 0), (3, .int 0)]) [2, 3, 1, 0] rfl ?_
    exact t_Fo_partsAt_L4 (Or.inl rfl) q_fu _ _ _ _ h
  · unfold f_Fo_partsAt at h
    refine q_Ct.of (lv := [(0, .ref 24), (1, .int a1)]) (by decide) ⟨rfl, rfl⟩ rfl (Nat.le_of_ble_eq_true rfl) ?_
    refine q_iconst (v := 0) 1 d_Fo_partsAt_0 rfl (by decide) ?_
    refine q_istoren (lv' := [(2, .int 0), (0, .ref 24), (1, .int a1)]) 2 d_Fo_partsAt_1 rfl (by decide) rfl ?_
    refine q_iconst (v := 0) 3 d_Fo_partsAt_2 rfl (by decide) ?_
    refine q_istoren (lv' := [(3, .int 0), (2, .int 0), (0, .ref 24), (1, .int a1)]) 4 d_Fo_partsAt_3 rfl (by decide) rfl ?_
    refine q_sub (lv' := [(0, .ref 24), (1, .int a1), (2, .int 0), (3, .int 0)]) [2, 3, 1, 0] rfl ?_
    exact t_Fo_partsAt_L4 (Or.inr rfl) q_fu _ _ _ _ h
set_option maxHeartbeats 4000000 in
set_option maxRecDepth 100000 in
theorem t_D_isAt {E : q_E} {c d : Nat} (hcd : q_cd c d) {x : q_W} {a1 : Int32} {ρ : Int32 ⊕ Nat} (h : f_D_isAt c d x a1 = some ρ) : q_Ct E y_D_isAt m_D_isAt (q_rm 7) (q_cells E c d x) [.ref 0, .int a1] (q_rPT E c d false x ρ) := by
  rcases hcd with ⟨rfl, rfl⟩ | ⟨rfl, rfl⟩
  · unfold f_D_isAt at h
    refine q_Ct.of (lv := [(0, .ref 0), (1, .int a1)]) (by decide) ⟨rfl, rfl⟩ rfl (Nat.le_of_ble_eq_true rfl) ?_
    refine q_aloadn 1 d_D_isAt_0 rfl 0 rfl ?_
    refine q_xcallPP (as := [.ref 0]) (rest := []) 4 h (fun z e => t_D_requireFormula (Or.inl ⟨rfl, rfl⟩) e) (q_xinvV (Y := m_D_requireFormula) d_D_isAt_1 ml_D_85 ms_D_requireFormula.1 ms_D_requireFormula.2 k_D_requireFormula.1 (by decide) n_D_requireFormula (by decide) rfl rfl) k_D_requireFormula (q_ro (by decide) (by decide)) (Nat.le_of_ble_eq_true rfl) d_D_isAt_1 rfl rfl rfl rfl (fun w1 ew1 h => ?_)
    refine q_aloadn 5 d_D_isAt_4 rfl 0 rfl ?_
    refine q_iloadn 6 d_D_isAt_5 rfl 1 rfl ?_
    refine q_xcallPP (as := [.ref 0, .int a1]) (rest := []) 9 h (fun z e => t_D_requireState (Or.inl ⟨rfl, rfl⟩) e) (q_xinvV (Y := m_D_requireState) d_D_isAt_6 ml_D_91 ms_D_requireState.1 ms_D_requireState.2 k_D_requireState.1 (by decide) n_D_requireState (by decide) rfl rfl) k_D_requireState (q_ro (by decide) (by decide)) (Nat.le_of_ble_eq_true rfl) d_D_isAt_6 rfl rfl rfl rfl (fun w3 ew3 h => ?_)
    refine q_aloadn 10 d_D_isAt_9 rfl 0 rfl ?_
    refine q_xget 13 d_D_isAt_10 rfl fl_D_40 (by decide) rfl rfl ?_
    refine q_aloadn 14 d_D_isAt_13 rfl 0 rfl ?_
    refine q_xget 17 d_D_isAt_14 rfl fl_D_40 (by decide) rfl rfl ?_
    refine q_iloadn 18 d_D_isAt_17 rfl 1 rfl ?_
    refine q_xcallP (as := [.ref 16, .int a1]) (rest := [.ref 16]) 21 h (fun z e => t_Fo_partsAt (by decide) e) (q_xinvV (Y := m_Fo_partsAt) d_D_isAt_18 ml_D_95 ms_Fo_partsAt.1 ms_Fo_partsAt.2 k_Fo_partsAt.1 (by decide) n_Fo_partsAt (by decide) rfl rfl) k_Fo_partsAt (q_ro (by decide) (by decide)) (Nat.le_of_ble_eq_true rfl) d_D_isAt_18 rfl rfl rfl (fun w5 ew5 h => ?_)
    refine q_xcallP (as := [.ref 16, .int w5]) (rest := []) 24 h (fun z e => t_Fo_isWholeIn (by decide) e) (q_xinvV (Y := m_Fo_isWholeIn) d_D_isAt_21 ml_D_98 ms_Fo_isWholeIn.1 ms_Fo_isWholeIn.2 k_Fo_isWholeIn.1 (by decide) n_Fo_isWholeIn (by decide) rfl rfl) k_Fo_isWholeIn (q_ro (by decide) (by decide)) (Nat.le_of_ble_eq_true rfl) d_D_isAt_21 rfl rfl rfl (fun w6 ew6 h => ?_)
    cases h
    exact q_zret d_D_isAt_24 rfl (Nat.zero_le _) (Nat.zero_le _)
  · unfold f_D_isAt at h
    refine q_Ct.of (lv := [(0, .ref 0), (1, .int a1)]) (by decide) ⟨rfl, rfl⟩ rfl (Nat.le_of_ble_eq_true rfl) ?_
    refine q_aloadn 1 d_D_isAt_0 rfl 0 rfl ?_
    refine q_xcallPP (as := [.ref 0]) (rest := []) 4 h (fun z e => t_D_requireFormula (Or.inr ⟨rfl, rfl⟩) e) (q_xinvV (Y := m_D_requireFormula) d_D_isAt_1 ml_D_85 ms_D_requireFormula.1 ms_D_requireFormula.2 k_D_requireFormula.1 (by decide) n_D_requireFormula (by decide) rfl rfl) k_D_requireFormula (q_ro (by decide) (by decide)) (Nat.le_of_ble_eq_true rfl) d_D_isAt_1 rfl rfl rfl rfl (fun w1 ew1 h => ?_)
    refine q_aloadn 5 d_D_isAt_4 rfl 0 rfl ?_
    refine q_iloadn 6 d_D_isAt_5 rfl 1 rfl ?_
    refine q_xcallPP (as := [.ref 0, .int a1]) (rest := []) 9 h (fun z e => t_D_requireState (Or.inr ⟨rfl, rfl⟩) e) (q_xinvV (Y := m_D_requireState) d_D_isAt_6 ml_D_91 ms_D_requireState.1 ms_D_requireState.2 k_D_requireState.1 (by decide) n_D_requireState (by decide) rfl rfl) k_D_requireState (q_ro (by decide) (by decide)) (Nat.le_of_ble_eq_true rfl) d_D_isAt_6 rfl rfl rfl rfl (fun w3 ew3 h => ?_)
    refine q_aloadn 10 d_D_isAt_9 rfl 0 rfl ?_
    refine q_xget 13 d_D_isAt_10 rfl fl_D_40 (by decide) rfl rfl ?_
    refine q_aloadn 14 d_D_isAt_13 rfl 0 rfl ?_
    refine q_xget 17 d_D_isAt_14 rfl fl_D_40 (by decide) rfl rfl ?_
    refine q_iloadn 18 d_D_isAt_17 rfl 1 rfl ?_
    refine q_xcallP (as := [.ref 24, .int a1]) (rest := [.ref 24]) 21 h (fun z e => t_Fo_partsAt (by decide) e) (q_xinvV (Y := m_Fo_partsAt) d_D_isAt_18 ml_D_95 ms_Fo_partsAt.1 ms_Fo_partsAt.2 k_Fo_partsAt.1 (by decide) n_Fo_partsAt (by decide) rfl rfl) k_Fo_partsAt (q_ro (by decide) (by decide)) (Nat.le_of_ble_eq_true rfl) d_D_isAt_18 rfl rfl rfl (fun w5 ew5 h => ?_)
    refine q_xcallP (as := [.ref 24, .int w5]) (rest := []) 24 h (fun z e => t_Fo_isWholeIn (by decide) e) (q_xinvV (Y := m_Fo_isWholeIn) d_D_isAt_21 ml_D_98 ms_Fo_isWholeIn.1 ms_Fo_isWholeIn.2 k_Fo_isWholeIn.1 (by decide) n_Fo_isWholeIn (by decide) rfl rfl) k_Fo_isWholeIn (q_ro (by decide) (by decide)) (Nat.le_of_ble_eq_true rfl) d_D_isAt_21 rfl rfl rfl (fun w6 ew6 h => ?_)
    cases h
    exact q_zret d_D_isAt_24 rfl (Nat.zero_le _) (Nat.zero_le _)
set_option maxHeartbeats 4000000 in
set_option maxRecDepth 100000 in
theorem t_Fo_expectedBefore_J45 {E : q_E} {c d : Nat} {f : Nat} (hf : f = 16 ∨ f = 24) {ρ : Int32} {K4 : q_W → Int32 → Int32 → Int32 → Option Int32} (hK4 : ∀ x v1 v2 v3, K4 x v1 v2 v3 = some ρ → AW E (q_rm 1) m_Fo_expectedBefore (q_cells E c d x) 0 0 4 [(0, .ref f), (1, .int v1), (2, .int v2), (3, .int v3)] [] (q_rP E c d x ρ)) : ∀ (x : q_W) (v1 : Int32) (v2 : Int32) (v3 : Int32) (s0 : Int32) (s1 : Int32), f_Fo_expectedBefore_J45 f K4 x v1 v2 v3 s0 s1 = some ρ → AW E (q_rm 1) m_Fo_expectedBefore (q_cells E c d x) 0 0 45 [(0, .ref f), (1, .int v1), (2, .int v2), (3, .int v3)] [.int s0, .int s1] (q_rP E c d x ρ) := by
  rcases hf with rfl | rfl
  · intro x v1 v2 v3 s0 s1 h
    unfold f_Fo_expectedBefore_J45 at h
    refine q_xcallP (as := [.int s1, .int s0]) (rest := []) 48 h (fun z e => t_D_hasBit e) (q_invSN (Y := m_D_hasBit) d_Fo_expectedBefore_45 ml_Fo_47 ms_D_hasBit k_D_hasBit.2 k_D_hasBit.1 (by decide) n_D_hasBit) k_D_hasBit (q_ro (by decide) (by decide)) (Nat.le_of_ble_eq_true rfl) d_Fo_expectedBefore_45 rfl rfl rfl (fun w6 ew6 h => ?_)
    refine q_ite h (fun c8 h => ?_) (fun c8 h => ?_)
    · refine q_if_eq_t 57 d_Fo_expectedBefore_48 (by decide) c8 ?_
      refine q_iinc (v := (v3 + 1)) (lv' := [(3, .int (v3 + 1)), (0, .ref 16), (1, .int v1), (2, .int v2)]) 60 d_Fo_expectedBefore_57 rfl 3 rfl (q_ai (by decide)) (by decide) rfl ?_
      refine q_goto 4 d_Fo_expectedBefore_60 (by decide) ?_
      refine q_sub (lv' := [(0, .ref 16), (1, .int v1), (2, .int v2), (3, .int (v3 + 1))]) [1, 2, 3, 0] rfl ?_
      exact hK4 _ _ _ _ h
    · refine q_if_eq_f 51 d_Fo_expectedBefore_48 rfl 57 (by decide) c8 ?_
      refine q_iloadn 52 d_Fo_expectedBefore_51 rfl 2 rfl ?_
      refine q_iconst (v := 1) 53 d_Fo_expectedBefore_52 rfl (by decide) ?_
      refine q_iloadn 54 d_Fo_expectedBefore_53 rfl 3 rfl ?_
      refine q_ishl 55 d_Fo_expectedBefore_54 rfl ?_
      refine q_ior 56 d_Fo_expectedBefore_55 rfl ?_
      refine q_xtop h (fun z7 ez7 h => ?_)
      refine q_istoren (lv' := [(2, .int z7), (0, .ref 16), (1, .int v1), (3, .int v3)]) 57 d_Fo_expectedBefore_56 rfl (by decide) rfl ?_
      refine q_iinc (v := (v3 + 1)) (lv' := [(3, .int (v3 + 1)), (2, .int z7), (0, .ref 16), (1, .int v1)]) 60 d_Fo_expectedBefore_57 rfl 3 rfl (q_ai (by decide)) (by decide) rfl ?_
      refine q_goto 4 d_Fo_expectedBefore_60 (by decide) ?_
      refine q_sub (lv' := [(0, .ref 16), (1, .int v1), (2, .int z7), (3, .int (v3 + 1))]) [2, 3, 1, 0] rfl ?_
      exact hK4 _ _ _ _ h
  · intro x v1 v2 v3 s0 s1 h
    unfold f_Fo_expectedBefore_J45 at h
    refine q_xcallP (as := [.int s1, .int s0]) (rest := []) 48 h (fun z e => t_D_hasBit e) (q_invSN (Y := m_D_hasBit) d_Fo_expectedBefore_45 ml_Fo_47 ms_D_hasBit k_D_hasBit.2 k_D_hasBit.1 (by decide) n_D_hasBit) k_D_hasBit (q_ro (by decide) (by decide)) (Nat.le_of_ble_eq_true rfl) d_Fo_expectedBefore_45 rfl rfl rfl (fun w6 ew6 h => ?_)
    refine q_ite h (fun c8 h => ?_) (fun c8 h => ?_)
    · refine q_if_eq_t 57 d_Fo_expectedBefore_48 (by decide) c8 ?_
      refine q_iinc (v := (v3 + 1)) (lv' := [(3, .int (v3 + 1)), (0, .ref 24), (1, .int v1), (2, .int v2)]) 60 d_Fo_expectedBefore_57 rfl 3 rfl (q_ai (by decide)) (by decide) rfl ?_
      refine q_goto 4 d_Fo_expectedBefore_60 (by decide) ?_
      refine q_sub (lv' := [(0, .ref 24), (1, .int v1), (2, .int v2), (3, .int (v3 + 1))]) [1, 2, 3, 0] rfl ?_
      exact hK4 _ _ _ _ h
    · refine q_if_eq_f 51 d_Fo_expectedBefore_48 rfl 57 (by decide) c8 ?_
      refine q_iloadn 52 d_Fo_expectedBefore_51 rfl 2 rfl ?_
      refine q_iconst (v := 1) 53 d_Fo_expectedBefore_52 rfl (by decide) ?_
      refine q_iloadn 54 d_Fo_expectedBefore_53 rfl 3 rfl ?_
      refine q_ishl 55 d_Fo_expectedBefore_54 rfl ?_
      refine q_ior 56 d_Fo_expectedBefore_55 rfl ?_
      refine q_xtop h (fun z7 ez7 h => ?_)
      refine q_istoren (lv' := [(2, .int z7), (0, .ref 24), (1, .int v1), (3, .int v3)]) 57 d_Fo_expectedBefore_56 rfl (by decide) rfl ?_
      refine q_iinc (v := (v3 + 1)) (lv' := [(3, .int (v3 + 1)), (2, .int z7), (0, .ref 24), (1, .int v1)]) 60 d_Fo_expectedBefore_57 rfl 3 rfl (q_ai (by decide)) (by decide) rfl ?_
      refine q_goto 4 d_Fo_expectedBefore_60 (by decide) ?_
      refine q_sub (lv' := [(0, .ref 24), (1, .int v1), (2, .int z7), (3, .int (v3 + 1))]) [2, 3, 1, 0] rfl ?_
      exact hK4 _ _ _ _ h
set_option maxHeartbeats 4000000 in
set_option maxRecDepth 100000 in
theorem t_Fo_expectedBefore_L4 {E : q_E} {c d : Nat} {f : Nat} (hf : f = 16 ∨ f = 24) {ρ : Int32} : ∀ (n : Nat) (x : q_W) (v1 : Int32) (v2 : Int32) (v3 : Int32), f_Fo_expectedBefore_L4 f n x v1 v2 v3 = some ρ → AW E (q_rm 1) m_Fo_expectedBefore (q_cells E c d x) 0 0 4 [(0, .ref f), (1, .int v1), (2, .int v2), (3, .int v3)] [] (q_rP E c d x ρ) := by
  rcases hf with rfl | rfl
  · intro n
    induction n with
    | zero =>
      intro x v1 v2 v3 h
      have h : (none : Option Int32) = some ρ := h
      cases h
    | succ n ih =>
      intro x v1 v2 v3 h
      unfold f_Fo_expectedBefore_L4 at h
      refine q_iloadn 5 d_Fo_expectedBefore_4 rfl 3 rfl ?_
      refine q_aloadn 6 d_Fo_expectedBefore_5 rfl 0 rfl ?_
      refine q_xget 9 d_Fo_expectedBefore_6 rfl fl_Fo_37 (by decide) rfl rfl ?_
      refine q_ite h (fun c5 h => ?_) (fun c5 h => ?_)
      · refine q_icmp_ge_t 63 d_Fo_expectedBefore_9 (by decide) c5 ?_
        refine q_iloadn 64 d_Fo_expectedBefore_63 rfl 2 rfl ?_
        cases h
        exact q_iret d_Fo_expectedBefore_64 rfl (Nat.zero_le _) (Nat.zero_le _)
      · refine q_icmp_ge_f 12 d_Fo_expectedBefore_9 rfl 63 (by decide) c5 ?_
        refine q_aloadn 13 d_Fo_expectedBefore_12 rfl 0 rfl ?_
        refine q_xget 16 d_Fo_expectedBefore_13 rfl fl_Fo_24 (by decide) rfl rfl ?_
        refine q_iloadn 17 d_Fo_expectedBefore_16 rfl 3 rfl ?_
        refine q_xiald 18 d_Fo_expectedBefore_17 rfl (by decide) (fun _ => rfl) h (fun w1 ew1 h => ?_)
        refine q_istore (lv' := [(4, .int w1), (0, .ref 16), (1, .int v1), (2, .int v2), (3, .int v3)]) 20 d_Fo_expectedBefore_18 rfl (by decide) rfl ?_
        refine q_iloadn 21 d_Fo_expectedBefore_20 rfl 2 rfl ?_
        refine q_aloadn 22 d_Fo_expectedBefore_21 rfl 1 rfl ?_
        refine q_xget 25 d_Fo_expectedBefore_22 rfl fl_Fo_9 (by decide) rfl rfl ?_
        refine q_iload 27 d_Fo_expectedBefore_25 rfl 0 rfl ?_
        refine q_xiald 28 d_Fo_expectedBefore_27 rfl (by decide) (fun _ => rfl) h (fun w2 ew2 h => ?_)
        refine q_bipush (v := 88) 30 d_Fo_expectedBefore_28 rfl (by decide) ?_
        refine q_ite h (fun c4 h => ?_) (fun c4 h => ?_)
        · refine q_icmp_ne_t 43 d_Fo_expectedBefore_30 (by decide) c4 ?_
          refine q_iload 45 d_Fo_expectedBefore_43 rfl 0 rfl ?_
          refine q_sub (lv' := [(0, .ref 16), (1, .int v1), (2, .int v2), (3, .int v3)]) [1, 2, 3, 4] rfl ?_
          exact t_Fo_expectedBefore_J45 (Or.inl rfl) ih _ _ _ _ _ _ h
        · refine q_icmp_ne_f 33 d_Fo_expectedBefore_30 rfl 43 (by decide) (Classical.not_not.mp c4) ?_
          refine q_aloadn 34 d_Fo_expectedBefore_33 rfl 1 rfl ?_
          refine q_xget 37 d_Fo_expectedBefore_34 rfl fl_Fo_18 (by decide) rfl rfl ?_
          refine q_iload 39 d_Fo_expectedBefore_37 rfl 0 rfl ?_
          refine q_xiald 40 d_Fo_expectedBefore_39 rfl (by decide) (fun _ => rfl) h (fun w3 ew3 h => ?_)
          refine q_goto 45 d_Fo_expectedBefore_40 (by decide) ?_
          refine q_sub (lv' := [(0, .ref 16), (1, .int v1), (2, .int v2), (3, .int v3)]) [1, 2, 3, 4] rfl ?_
          exact t_Fo_expectedBefore_J45 (Or.inl rfl) ih _ _ _ _ _ _ h
  · intro n
    induction n with
    | zero =>
      intro x v1 v2 v3 h
      have h : (none : Option Int32) = some ρ := h
      cases h
    | succ n ih =>
      intro x v1 v2 v3 h
      unfold f_Fo_expectedBefore_L4 at h
      refine q_iloadn 5 d_Fo_expectedBefore_4 rfl 3 rfl ?_
      refine q_aloadn 6 d_Fo_expectedBefore_5 rfl 0 rfl ?_
      refine q_xget 9 d_Fo_expectedBefore_6 rfl fl_Fo_37 (by decide) rfl rfl ?_
      refine q_ite h (fun c5 h => ?_) (fun c5 h => ?_)
      · refine q_icmp_ge_t 63 d_Fo_expectedBefore_9 (by decide) c5 ?_
        refine q_iloadn 64 d_Fo_expectedBefore_63 rfl 2 rfl ?_
        cases h
        exact q_iret d_Fo_expectedBefore_64 rfl (Nat.zero_le _) (Nat.zero_le _)
      · refine q_icmp_ge_f 12 d_Fo_expectedBefore_9 rfl 63 (by decide) c5 ?_
        refine q_aloadn 13 d_Fo_expectedBefore_12 rfl 0 rfl ?_
        refine q_xget 16 d_Fo_expectedBefore_13 rfl fl_Fo_24 (by decide) rfl rfl ?_
        refine q_iloadn 17 d_Fo_expectedBefore_16 rfl 3 rfl ?_
        refine q_xiald 18 d_Fo_expectedBefore_17 rfl (by decide) (fun _ => rfl) h (fun w1 ew1 h => ?_)
        refine q_istore (lv' := [(4, .int w1), (0, .ref 24), (1, .int v1), (2, .int v2), (3, .int v3)]) 20 d_Fo_expectedBefore_18 rfl (by decide) rfl ?_
        refine q_iloadn 21 d_Fo_expectedBefore_20 rfl 2 rfl ?_
        refine q_aloadn 22 d_Fo_expectedBefore_21 rfl 1 rfl ?_
        refine q_xget 25 d_Fo_expectedBefore_22 rfl fl_Fo_9 (by decide) rfl rfl ?_
        refine q_iload 27 d_Fo_expectedBefore_25 rfl 0 rfl ?_
        refine q_xiald 28 d_Fo_expectedBefore_27 rfl (by decide) (fun _ => rfl) h (fun w2 ew2 h => ?_)
        refine q_bipush (v := 88) 30 d_Fo_expectedBefore_28 rfl (by decide) ?_
        refine q_ite h (fun c4 h => ?_) (fun c4 h => ?_)
        · refine q_icmp_ne_t 43 d_Fo_expectedBefore_30 (by decide) c4 ?_
          refine q_iload 45 d_Fo_expectedBefore_43 rfl 0 rfl ?_
          refine q_sub (lv' := [(0, .ref 24), (1, .int v1), (2, .int v2), (3, .int v3)]) [1, 2, 3, 4] rfl ?_
          exact t_Fo_expectedBefore_J45 (Or.inr rfl) ih _ _ _ _ _ _ h
        · refine q_icmp_ne_f 33 d_Fo_expectedBefore_30 rfl 43 (by decide) (Classical.not_not.mp c4) ?_
          refine q_aloadn 34 d_Fo_expectedBefore_33 rfl 1 rfl ?_
          refine q_xget 37 d_Fo_expectedBefore_34 rfl fl_Fo_18 (by decide) rfl rfl ?_
          refine q_iload 39 d_Fo_expectedBefore_37 rfl 0 rfl ?_
          refine q_xiald 40 d_Fo_expectedBefore_39 rfl (by decide) (fun _ => rfl) h (fun w3 ew3 h => ?_)
          refine q_goto 45 d_Fo_expectedBefore_40 (by decide) ?_
          refine q_sub (lv' := [(0, .ref 24), (1, .int v1), (2, .int v2), (3, .int v3)]) [1, 2, 3, 4] rfl ?_
          exact t_Fo_expectedBefore_J45 (Or.inr rfl) ih _ _ _ _ _ _ h
set_option maxHeartbeats 4000000 in
set_option maxRecDepth 100000 in
theorem t_Fo_expectedBefore {E : q_E} {c d : Nat} {f : Nat} (hf : f = 16 ∨ f = 24) {x : q_W} {a1 : Int32} {ρ : Int32} (h : f_Fo_expectedBefore f x a1 = some ρ) : q_Ct E y_Fo_expectedBefore m_Fo_expectedBefore (q_rm 1) (q_cells E c d x) [.ref f, .int a1] (q_rP E c d x ρ) := by
  rcases hf with rfl | rfl
  · unfold f_Fo_expectedBefore at h
    refine q_Ct.of (lv := [(0, .ref 16), (1, .int a1)]) (by decide) ⟨rfl, rfl⟩ rfl (Nat.le_of_ble_eq_true rfl) ?_
    refine q_iconst (v := 0) 1 d_Fo_expectedBefore_0 rfl (by decide) ?_
    refine q_istoren (lv' := [(2, .int 0), (0, .ref 16), (1, .int a1)]) 2 d_Fo_expectedBefore_1 rfl (by decide) rfl ?_
    refine q_iconst (v := 0) 3 d_Fo_expectedBefore_2 rfl (by decide) ?_
    refine q_istoren (lv' := [(3, .int 0), (2, .int 0), (0, .ref 16), (1, .int a1)]) 4 d_Fo_expectedBefore_3 rfl (by decide) rfl ?_
    refine q_sub (lv' := [(0, .ref 16), (1, .int a1), (2, .int 0), (3, .int 0)]) [2, 3, 1, 0] rfl ?_
    exact t_Fo_expectedBefore_L4 (Or.inl rfl) q_fu _ _ _ _ h
  · unfold f_Fo_expectedBefore at h
    refine q_Ct.of (lv := [(0, .ref 24), (1, .int a1)]) (by decide) ⟨rfl, rfl⟩ rfl (Nat.le_of_ble_eq_true rfl) ?_
    refine q_iconst (v := 0) 1 d_Fo_expectedBefore_0 rfl (by decide) ?_
    refine q_istoren (lv' := [(2, .int 0), (0, .ref 24), (1, .int a1)]) 2 d_Fo_expectedBefore_1 rfl (by decide) rfl ?_
    refine q_iconst (v := 0) 3 d_Fo_expectedBefore_2 rfl (by decide) ?_
    refine q_istoren (lv' := [(3, .int 0), (2, .int 0), (0, .ref 24), (1, .int a1)]) 4 d_Fo_expectedBefore_3 rfl (by decide) rfl ?_
    refine q_sub (lv' := [(0, .ref 24), (1, .int a1), (2, .int 0), (3, .int 0)]) [2, 3, 1, 0] rfl ?_
    exact t_Fo_expectedBefore_L4 (Or.inr rfl) q_fu _ _ _ _ h
set_option maxHeartbeats 4000000 in
set_option maxRecDepth 100000 in
theorem t_D_leads {E : q_E} {c d : Nat} (hcd : q_cd c d) {x : q_W} {a1 : Int32} {a2 : Int32} {ρ : Int32 ⊕ Nat} (h : f_D_leads c d x a1 a2 = some ρ) : q_Ct E y_D_leads m_D_leads (q_rm 7) (q_cells E c d x) [.ref 0, .int a1, .int a2] (q_rPT E c d false x ρ) := by
  rcases hcd with ⟨rfl, rfl⟩ | ⟨rfl, rfl⟩
  · unfold f_D_leads at h
    refine q_Ct.of (lv := [(0, .ref 0), (1, .int a1), (2, .int a2)]) (by decide) ⟨rfl, rfl⟩ rfl (Nat.le_of_ble_eq_true rfl) ?_
    refine q_aloadn 1 d_D_leads_0 rfl 0 rfl ?_
    refine q_xcallPP (as := [.ref 0]) (rest := []) 4 h (fun z e => t_D_requireFormula (Or.inl ⟨rfl, rfl⟩) e) (q_xinvV (Y := m_D_requireFormula) d_D_leads_1 ml_D_85 ms_D_requireFormula.1 ms_D_requireFormula.2 k_D_requireFormula.1 (by decide) n_D_requireFormula (by decide) rfl rfl) k_D_requireFormula (q_ro (by decide) (by decide)) (Nat.le_of_ble_eq_true rfl) d_D_leads_1 rfl rfl rfl rfl (fun w1 ew1 h => ?_)
    refine q_aloadn 5 d_D_leads_4 rfl 0 rfl ?_
    refine q_iloadn 6 d_D_leads_5 rfl 1 rfl ?_
    refine q_xcallPP (as := [.ref 0, .int a1]) (rest := []) 9 h (fun z e => t_D_requireState (Or.inl ⟨rfl, rfl⟩) e) (q_xinvV (Y := m_D_requireState) d_D_leads_6 ml_D_91 ms_D_requireState.1 ms_D_requireState.2 k_D_requireState.1 (by decide) n_D_requireState (by decide) rfl rfl) k_D_requireState (q_ro (by decide) (by decide)) (Nat.le_of_ble_eq_true rfl) d_D_leads_6 rfl rfl rfl rfl (fun w3 ew3 h => ?_)
    refine q_aloadn 10 d_D_leads_9 rfl 0 rfl ?_
    refine q_iloadn 11 d_D_leads_10 rfl 2 rfl ?_
    refine q_xcallPP (as := [.ref 0, .int a2]) (rest := []) 14 h (fun z e => t_D_requireState (Or.inl ⟨rfl, rfl⟩) e) (q_xinvV (Y := m_D_requireState) d_D_leads_11 ml_D_91 ms_D_requireState.1 ms_D_requireState.2 k_D_requireState.1 (by decide) n_D_requireState (by decide) rfl rfl) k_D_requireState (q_ro (by decide) (by decide)) (Nat.le_of_ble_eq_true rfl) d_D_leads_11 rfl rfl rfl rfl (fun w5 ew5 h => ?_)
    refine q_iloadn 15 d_D_leads_14 rfl 1 rfl ?_
    refine q_iconst (v := 3) 16 d_D_leads_15 rfl (by decide) ?_
    refine q_ishr 17 d_D_leads_16 rfl ?_
    refine q_aloadn 18 d_D_leads_17 rfl 0 rfl ?_
    refine q_xget 21 d_D_leads_18 rfl fl_D_40 (by decide) rfl rfl ?_
    refine q_aloadn 22 d_D_leads_21 rfl 0 rfl ?_
    refine q_xget 25 d_D_leads_22 rfl fl_D_40 (by decide) rfl rfl ?_
    refine q_iloadn 26 d_D_leads_25 rfl 2 rfl ?_
    refine q_xcallP (as := [.ref 16, .int a2]) (rest := [.ref 16, .int (a1 >>> (3 &&& 31))]) 29 h (fun z e => t_Fo_partsAt (by decide) e) (q_xinvV (Y := m_Fo_partsAt) d_D_leads_26 ml_D_95 ms_Fo_partsAt.1 ms_Fo_partsAt.2 k_Fo_partsAt.1 (by decide) n_Fo_partsAt (by decide) rfl rfl) k_Fo_partsAt (q_ro (by decide) (by decide)) (Nat.le_of_ble_eq_true rfl) d_D_leads_26 rfl rfl rfl (fun w7 ew7 h => ?_)
    refine q_xcallP (as := [.ref 16, .int w7]) (rest := [.int (a1 >>> (3 &&& 31))]) 32 h (fun z e => t_Fo_expectedBefore (by decide) e) (q_xinvV (Y := m_Fo_expectedBefore) d_D_leads_29 ml_D_102 ms_Fo_expectedBefore.1 ms_Fo_expectedBefore.2 k_Fo_expectedBefore.1 (by decide) n_Fo_expectedBefore (by decide) rfl rfl) k_Fo_expectedBefore (q_ro (by decide) (by decide)) (Nat.le_of_ble_eq_true rfl) d_D_leads_29 rfl rfl rfl (fun w8 ew8 h => ?_)
    refine q_ite h (fun c9 h => ?_) (fun c9 h => ?_)
    · refine q_icmp_ne_t 39 d_D_leads_32 (by decide) c9 ?_
      refine q_iconst (v := 0) 40 d_D_leads_39 rfl (by decide) ?_
      cases h
      exact q_zret d_D_leads_40 rfl (Nat.zero_le _) (Nat.zero_le _)
    · refine q_icmp_ne_f 35 d_D_leads_32 rfl 39 (by decide) (Classical.not_not.mp c9) ?_
      refine q_iconst (v := 1) 36 d_D_leads_35 rfl (by decide) ?_
      refine q_goto 40 d_D_leads_36 (by decide) ?_
      cases h
      exact q_zret d_D_leads_40 rfl (Nat.zero_le _) (Nat.zero_le _)
  · unfold f_D_leads at h
    refine q_Ct.of (lv := [(0, .ref 0), (1, .int a1), (2, .int a2)]) (by decide) ⟨rfl, rfl⟩ rfl (Nat.le_of_ble_eq_true rfl) ?_
    refine q_aloadn 1 d_D_leads_0 rfl 0 rfl ?_
    refine q_xcallPP (as := [.ref 0]) (rest := []) 4 h (fun z e => t_D_requireFormula (Or.inr ⟨rfl, rfl⟩) e) (q_xinvV (Y := m_D_requireFormula) d_D_leads_1 ml_D_85 ms_D_requireFormula.1 ms_D_requireFormula.2 k_D_requireFormula.1 (by decide) n_D_requireFormula (by decide) rfl rfl) k_D_requireFormula (q_ro (by decide) (by decide)) (Nat.le_of_ble_eq_true rfl) d_D_leads_1 rfl rfl rfl rfl (fun w1 ew1 h => ?_)
    refine q_aloadn 5 d_D_leads_4 rfl 0 rfl ?_
    refine q_iloadn 6 d_D_leads_5 rfl 1 rfl ?_
    refine q_xcallPP (as := [.ref 0, .int a1]) (rest := []) 9 h (fun z e => t_D_requireState (Or.inr ⟨rfl, rfl⟩) e) (q_xinvV (Y := m_D_requireState) d_D_leads_6 ml_D_91 ms_D_requireState.1 ms_D_requireState.2 k_D_requireState.1 (by decide) n_D_requireState (by decide) rfl rfl) k_D_requireState (q_ro (by decide) (by decide)) (Nat.le_of_ble_eq_true rfl) d_D_leads_6 rfl rfl rfl rfl (fun w3 ew3 h => ?_)
    refine q_aloadn 10 d_D_leads_9 rfl 0 rfl ?_
    refine q_iloadn 11 d_D_leads_10 rfl 2 rfl ?_
    refine q_xcallPP (as := [.ref 0, .int a2]) (rest := []) 14 h (fun z e => t_D_requireState (Or.inr ⟨rfl, rfl⟩) e) (q_xinvV (Y := m_D_requireState) d_D_leads_11 ml_D_91 ms_D_requireState.1 ms_D_requireState.2 k_D_requireState.1 (by decide) n_D_requireState (by decide) rfl rfl) k_D_requireState (q_ro (by decide) (by decide)) (Nat.le_of_ble_eq_true rfl) d_D_leads_11 rfl rfl rfl rfl (fun w5 ew5 h => ?_)
    refine q_iloadn 15 d_D_leads_14 rfl 1 rfl ?_
    refine q_iconst (v := 3) 16 d_D_leads_15 rfl (by decide) ?_
    refine q_ishr 17 d_D_leads_16 rfl ?_
    refine q_aloadn 18 d_D_leads_17 rfl 0 rfl ?_
    refine q_xget 21 d_D_leads_18 rfl fl_D_40 (by decide) rfl rfl ?_
    refine q_aloadn 22 d_D_leads_21 rfl 0 rfl ?_
    refine q_xget 25 d_D_leads_22 rfl fl_D_40 (by decide) rfl rfl ?_
    refine q_iloadn 26 d_D_leads_25 rfl 2 rfl ?_
    refine q_xcallP (as := [.ref 24, .int a2]) (rest := [.ref 24, .int (a1 >>> (3 &&& 31))]) 29 h (fun z e => t_Fo_partsAt (by decide) e) (q_xinvV (Y := m_Fo_partsAt) d_D_leads_26 ml_D_95 ms_Fo_partsAt.1 ms_Fo_partsAt.2 k_Fo_partsAt.1 (by decide) n_Fo_partsAt (by decide) rfl rfl) k_Fo_partsAt (q_ro (by decide) (by decide)) (Nat.le_of_ble_eq_true rfl) d_D_leads_26 rfl rfl rfl (fun w7 ew7 h => ?_)
    refine q_xcallP (as := [.ref 24, .int w7]) (rest := [.int (a1 >>> (3 &&& 31))]) 32 h (fun z e => t_Fo_expectedBefore (by decide) e) (q_xinvV (Y := m_Fo_expectedBefore) d_D_leads_29 ml_D_102 ms_Fo_expectedBefore.1 ms_Fo_expectedBefore.2 k_Fo_expectedBefore.1 (by decide) n_Fo_expectedBefore (by decide) rfl rfl) k_Fo_expectedBefore (q_ro (by decide) (by decide)) (Nat.le_of_ble_eq_true rfl) d_D_leads_29 rfl rfl rfl (fun w8 ew8 h => ?_)
    refine q_ite h (fun c9 h => ?_) (fun c9 h => ?_)
    · refine q_icmp_ne_t 39 d_D_leads_32 (by decide) c9 ?_
      refine q_iconst (v := 0) 40 d_D_leads_39 rfl (by decide) ?_
      cases h
      exact q_zret d_D_leads_40 rfl (Nat.zero_le _) (Nat.zero_le _)
    · refine q_icmp_ne_f 35 d_D_leads_32 rfl 39 (by decide) (Classical.not_not.mp c9) ?_
      refine q_iconst (v := 1) 36 d_D_leads_35 rfl (by decide) ?_
      refine q_goto 40 d_D_leads_36 (by decide) ?_
      cases h
      exact q_zret d_D_leads_40 rfl (Nat.zero_le _) (Nat.zero_le _)
set_option maxHeartbeats 4000000 in
set_option maxRecDepth 100000 in
theorem t_La_reachBefore_L17 {E : q_E} {c d : Nat} {ρ : Int32 × q_W} : ∀ (n : Nat) (x : q_W) (v1 : Int32) (v2 : Int32) (v4 : Int32) (v5 : Int32) (v6 : Int32), f_La_reachBefore_L17  n x v1 v2 v4 v5 v6 = some ρ → AW E (q_rm 0) m_La_reachBefore (q_cells E c d x) 0 0 17 [(0, .ref 3), (1, .int v1), (2, .int v2), (4, .int v4), (5, .int v5), (6, .int v6)] [] (q_rS E c d ρ) := by
  intro n
  induction n with
  | zero =>
    intro x v1 v2 v4 v5 v6 h
    have h : (none : Option (Int32 × q_W)) = some ρ := h
    cases h
  | succ n ih =>
    intro x v1 v2 v4 v5 v6 h
    unfold f_La_reachBefore_L17 at h
    refine q_iload 19 d_La_reachBefore_17 rfl 5 rfl ?_
    refine q_iload 21 d_La_reachBefore_19 rfl 4 rfl ?_
    refine q_bipush (v := 8) 23 d_La_reachBefore_21 rfl (by decide) ?_
    refine q_iadd 24 d_La_reachBefore_23 rfl ?_
    refine q_ite h (fun c10 h => ?_) (fun c10 h => ?_)
    · refine q_icmp_ge_t 87 d_La_reachBefore_24 (by decide) c10 ?_
      refine q_iload 89 d_La_reachBefore_87 rfl 3 rfl ?_
      cases h
      exact q_iret d_La_reachBefore_89 rfl (Nat.zero_le _) (Nat.zero_le _)
    · refine q_icmp_ge_f 27 d_La_reachBefore_24 rfl 87 (by decide) c10 ?_
      refine q_aloadn 28 d_La_reachBefore_27 rfl 0 rfl ?_
      refine q_xget 31 d_La_reachBefore_28 rfl fl_La_25 (by decide) rfl rfl ?_
      refine q_iload 33 d_La_reachBefore_31 rfl 5 rfl ?_
      refine q_xzald 34 d_La_reachBefore_33 rfl (by decide) (fun _ => rfl) h (fun w3 ew3 h => ?_)
      refine q_ite h (fun c9 h => ?_) (fun c9 h => ?_)
      · refine q_if_eq_t 81 d_La_reachBefore_34 (by decide) c9 ?_
        refine q_iinc (v := (v6 + 1)) (lv' := [(6, .int (v6 + 1)), (0, .ref 3), (1, .int v1), (2, .int v2), (4, .int v4), (5, .int v5)]) 84 d_La_reachBefore_81 rfl 5 rfl (q_ai (by decide)) (by decide) rfl ?_
        refine q_goto 17 d_La_reachBefore_84 (by decide) ?_
        refine q_sub (lv' := [(0, .ref 3), (1, .int v1), (2, .int v2), (4, .int v4), (5, .int v5), (6, .int (v6 + 1))]) [1, 2, 3, 4, 5, 0] rfl ?_
        exact ih _ _ _ _ _ _ h
      · refine q_if_eq_f 37 d_La_reachBefore_34 rfl 81 (by decide) c9 ?_
        refine q_aloadn 38 d_La_reachBefore_37 rfl 0 rfl ?_
        refine q_xget 41 d_La_reachBefore_38 rfl fl_La_28 (by decide) rfl rfl ?_
        refine q_iloadn 42 d_La_reachBefore_41 rfl 2 rfl ?_
        refine q_iload 44 d_La_reachBefore_42 rfl 5 rfl ?_
        refine q_iadd 45 d_La_reachBefore_44 rfl ?_
        refine q_xiald 46 d_La_reachBefore_45 rfl (by decide) (fun _ => rfl) h (fun w4 ew4 h => ?_)
        refine q_iconst (v := (-1)) 47 d_La_reachBefore_46 rfl (by decide) ?_
        refine q_ite h (fun c8 h => ?_) (fun c8 h => ?_)
        · refine q_icmp_ne_t 81 d_La_reachBefore_47 (by decide) c8 ?_
          refine q_iinc (v := (v6 + 1)) (lv' := [(6, .int (v6 + 1)), (0, .ref 3), (1, .int v1), (2, .int v2), (4, .int v4), (5, .int v5)]) 84 d_La_reachBefore_81 rfl 5 rfl (q_ai (by decide)) (by decide) rfl ?_
          refine q_goto 17 d_La_reachBefore_84 (by decide) ?_
          refine q_sub (lv' := [(0, .ref 3), (1, .int v1), (2, .int v2), (4, .int v4), (5, .int v5), (6, .int (v6 + 1))]) [1, 2, 3, 4, 5, 0] rfl ?_
          exact ih _ _ _ _ _ _ h
        · refine q_icmp_ne_f 50 d_La_reachBefore_47 rfl 81 (by decide) (Classical.not_not.mp c8) ?_
          refine q_aloadn 51 d_La_reachBefore_50 rfl 0 rfl ?_
          refine q_xget 54 d_La_reachBefore_51 rfl fl_La_28 (by decide) rfl rfl ?_
          refine q_iloadn 55 d_La_reachBefore_54 rfl 2 rfl ?_
          refine q_iload 57 d_La_reachBefore_55 rfl 5 rfl ?_
          refine q_iadd 58 d_La_reachBefore_57 rfl ?_
          refine q_aloadn 59 d_La_reachBefore_58 rfl 0 rfl ?_
          refine q_xget 62 d_La_reachBefore_59 rfl fl_La_28 (by decide) rfl rfl ?_
          refine q_iloadn 63 d_La_reachBefore_62 rfl 2 rfl ?_
          refine q_iloadn 64 d_La_reachBefore_63 rfl 1 rfl ?_
          refine q_iadd 65 d_La_reachBefore_64 rfl ?_
          refine q_xiald 66 d_La_reachBefore_65 rfl (by decide) (fun _ => rfl) h (fun w5 ew5 h => ?_)
          refine q_iconst (v := 1) 67 d_La_reachBefore_66 rfl (by decide) ?_
          refine q_iadd 68 d_La_reachBefore_67 rfl ?_
          refine q_xiast 69 d_La_reachBefore_68 rfl (by decide) (fun _ => rfl) h (fun x6 ex6 h => ?_)
          refine q_aloadn 70 d_La_reachBefore_69 rfl 0 rfl ?_
          refine q_xget 73 d_La_reachBefore_70 rfl fl_La_31 (by decide) rfl rfl ?_
          refine q_iload 75 d_La_reachBefore_73 rfl 3 rfl ?_
          refine q_iload 77 d_La_reachBefore_75 rfl 5 rfl ?_
          refine q_xiast 78 d_La_reachBefore_77 rfl (by decide) (fun _ => rfl) h (fun x7 ex7 h => ?_)
          refine q_iinc (v := (v4 + 1)) (lv' := [(4, .int (v4 + 1)), (0, .ref 3), (1, .int v1), (2, .int v2), (5, .int v5), (6, .int v6)]) 81 d_La_reachBefore_78 rfl 3 rfl (q_ai (by decide)) (by decide) rfl ?_
          refine q_iinc (v := (v6 + 1)) (lv' := [(6, .int (v6 + 1)), (4, .int (v4 + 1)), (0, .ref 3), (1, .int v1), (2, .int v2), (5, .int v5)]) 84 d_La_reachBefore_81 rfl 5 rfl (q_ai (by decide)) (by decide) rfl ?_
          refine q_goto 17 d_La_reachBefore_84 (by decide) ?_
          refine q_sub (lv' := [(0, .ref 3), (1, .int v1), (2, .int v2), (4, .int (v4 + 1)), (5, .int v5), (6, .int (v6 + 1))]) [2, 3, 4, 1, 5, 0] rfl ?_
          exact ih _ _ _ _ _ _ h
set_option maxHeartbeats 4000000 in
set_option maxRecDepth 100000 in
theorem t_La_reachBefore {E : q_E} {c d : Nat} {x : q_W} {a1 : Int32} {a2 : Int32} {a3 : Int32} {ρ : Int32 × q_W} (h : f_La_reachBefore x a1 a2 a3 = some ρ) : q_Ct E y_La_reachBefore m_La_reachBefore (q_rm 0) (q_cells E c d x) [.ref 3, .int a1, .int a2, .int a3] (q_rS E c d ρ) := by
  unfold f_La_reachBefore at h
  refine q_Ct.of (lv := [(0, .ref 3), (1, .int a1), (2, .int a2), (3, .int a3)]) (by decide) ⟨rfl, rfl⟩ rfl (Nat.le_of_ble_eq_true rfl) ?_
  refine q_iloadn 1 d_La_reachBefore_0 rfl 3 rfl ?_
  refine q_istore (lv' := [(4, .int a3), (0, .ref 3), (1, .int a1), (2, .int a2), (3, .int a3)]) 3 d_La_reachBefore_1 rfl (by decide) rfl ?_
  refine q_aloadn 4 d_La_reachBefore_3 rfl 1 rfl ?_
  refine q_xget 7 d_La_reachBefore_4 rfl fl_La_9 (by decide) rfl rfl ?_
  refine q_iloadn 8 d_La_reachBefore_7 rfl 2 rfl ?_
  refine q_xiald 9 d_La_reachBefore_8 rfl (by decide) (fun _ => rfl) h (fun w1 ew1 h => ?_)
  refine q_iconst (v := 3) 10 d_La_reachBefore_9 rfl (by decide) ?_
  refine q_ishl 11 d_La_reachBefore_10 rfl ?_
  refine q_xtop h (fun z2 ez2 h => ?_)
  refine q_istore (lv' := [(5, .int z2), (4, .int a3), (0, .ref 3), (1, .int a1), (2, .int a2), (3, .int a3)]) 13 d_La_reachBefore_11 rfl (by decide) rfl ?_
  refine q_iload 15 d_La_reachBefore_13 rfl 0 rfl ?_
  refine q_istore (lv' := [(6, .int z2), (5, .int z2), (4, .int a3), (0, .ref 3), (1, .int a1), (2, .int a2), (3, .int a3)]) 17 d_La_reachBefore_15 rfl (by decide) rfl ?_
  refine q_sub (lv' := [(0, .ref 3), (1, .int a1), (2, .int a2), (4, .int a3), (5, .int z2), (6, .int z2)]) [3, 4, 5, 2, 1, 0] rfl ?_
  exact t_La_reachBefore_L17  q_fu _ _ _ _ _ _ h
set_option maxHeartbeats 4000000 in
set_option maxRecDepth 100000 in
theorem t_La_countSteps_L95 {E : q_E} {c d : Nat} {ρ : q_W} : ∀ (n : Nat) (x : q_W) (v2 : Int32) (v3 : Int32) (v4 : Int32), f_La_countSteps_L95  n x v2 v3 v4 = some ρ → AW E (q_rm 1) m_La_countSteps (q_cells E c d x) 0 0 95 [(0, .ref 3), (2, .int v2), (3, .int v3), (4, .int v4)] [] (q_rV E c d ρ) := by
  intro n
  induction n with
  | zero =>
    intro x v2 v3 v4 h
    have h : (none : Option q_W) = some ρ := h
    cases h
  | succ n ih =>
    intro x v2 v3 v4 h
    unfold f_La_countSteps_L95 at h
    refine q_iload 97 d_La_countSteps_95 rfl 3 rfl ?_
    refine q_iloadn 98 d_La_countSteps_97 rfl 2 rfl ?_
    refine q_ite h (fun c11 h => ?_) (fun c11 h => ?_)
    · refine q_icmp_ge_t 130 d_La_countSteps_98 (by decide) c11 ?_
      cases h
      exact q_vret d_La_countSteps_130 rfl (Nat.zero_le _) (Nat.zero_le _)
    · refine q_icmp_ge_f 101 d_La_countSteps_98 rfl 130 (by decide) c11 ?_
      refine q_iload 103 d_La_countSteps_101 rfl 3 rfl ?_
      refine q_aloadn 104 d_La_countSteps_103 rfl 0 rfl ?_
      refine q_xget 107 d_La_countSteps_104 rfl fl_La_34 (by decide) rfl rfl ?_
      refine q_ite h (fun c10 h => ?_) (fun c10 h => ?_)
      · refine q_icmp_ge_t 130 d_La_countSteps_107 (by decide) c10 ?_
        cases h
        exact q_vret d_La_countSteps_130 rfl (Nat.zero_le _) (Nat.zero_le _)
      · refine q_icmp_ge_f 110 d_La_countSteps_107 rfl 130 (by decide) c10 ?_
        refine q_aloadn 111 d_La_countSteps_110 rfl 0 rfl ?_
        refine q_aloadn 112 d_La_countSteps_111 rfl 0 rfl ?_
        refine q_xget 115 d_La_countSteps_112 rfl fl_La_31 (by decide) rfl rfl ?_
        refine q_iload 117 d_La_countSteps_115 rfl 3 rfl ?_
        refine q_xiald 118 d_La_countSteps_117 rfl (by decide) (fun _ => rfl) h (fun w8 ew8 h => ?_)
        refine q_iloadn 119 d_La_countSteps_118 rfl 1 rfl ?_
        refine q_iloadn 120 d_La_countSteps_119 rfl 2 rfl ?_
        refine q_xcallS (as := [.ref 3, .int w8, .int v2, .int v3]) (rest := []) 123 h (fun z e => t_La_reachBefore e) (q_xinvV (Y := m_La_reachBefore) d_La_countSteps_120 ml_La_95 ms_La_reachBefore.1 ms_La_reachBefore.2 k_La_reachBefore.1 (by decide) n_La_reachBefore (by decide) rfl rfl) k_La_reachBefore (q_ro (by decide) (by decide)) (Nat.le_of_ble_eq_true rfl) d_La_countSteps_120 rfl rfl rfl (fun q9 eq9 h => ?_)
        refine q_istoren (lv' := [(3, .int q9.1), (0, .ref 3), (2, .int v2), (4, .int v4)]) 124 d_La_countSteps_123 rfl (by decide) rfl ?_
        refine q_iinc (v := (v4 + 1)) (lv' := [(4, .int (v4 + 1)), (3, .int q9.1), (0, .ref 3), (2, .int v2)]) 127 d_La_countSteps_124 rfl 3 rfl (q_ai (by decide)) (by decide) rfl ?_
        refine q_goto 95 d_La_countSteps_127 (by decide) ?_
        refine q_sub (lv' := [(0, .ref 3), (2, .int v2), (3, .int q9.1), (4, .int (v4 + 1))]) [2, 3, 1, 0] rfl ?_
        exact ih _ _ _ _ h
set_option maxHeartbeats 4000000 in
set_option maxRecDepth 100000 in
theorem t_La_countSteps_J69 {E : q_E} {c d : Nat} {ρ : q_W} {K11 : q_W → Int32 → Int32 → Int32 → Int32 → Option q_W} (hK11 : ∀ x v1 v2 v3 v4, K11 x v1 v2 v3 v4 = some ρ → AW E (q_rm 1) m_La_countSteps (q_cells E c d x) 0 0 11 [(0, .ref 3), (1, .int v1), (2, .int v2), (3, .int v3), (4, .int v4)] [] (q_rV E c d ρ)) : ∀ (x : q_W) (v1 : Int32) (v2 : Int32) (v3 : Int32) (v4 : Int32) (v5 : Int32) (s0 : Int32) (s1 : Int32), f_La_countSteps_J69 K11 x v1 v2 v3 v4 v5 s0 s1 = some ρ → AW E (q_rm 1) m_La_countSteps (q_cells E c d x) 0 0 69 [(0, .ref 3), (1, .int v1), (2, .int v2), (3, .int v3), (4, .int v4), (5, .int v5)] [.int s0, .int s1, .ref 9] (q_rV E c d ρ) := by
  intro x v1 v2 v3 v4 v5 s0 s1 h
  unfold f_La_countSteps_J69 at h
  refine q_xiast 70 d_La_countSteps_69 rfl (by decide) (fun _ => rfl) h (fun x13 ex13 h => ?_)
  refine q_iload 72 d_La_countSteps_70 rfl 5 rfl ?_
  refine q_ite h (fun c15 h => ?_) (fun c15 h => ?_)
  · refine q_if_eq_t 86 d_La_countSteps_72 (by decide) c15 ?_
    refine q_iinc (v := (v4 + 1)) (lv' := [(4, .int (v4 + 1)), (0, .ref 3), (1, .int v1), (2, .int v2), (3, .int v3), (5, .int v5)]) 89 d_La_countSteps_86 rfl 4 rfl (q_ai (by decide)) (by decide) rfl ?_
    refine q_goto 11 d_La_countSteps_89 (by decide) ?_
    refine q_sub (lv' := [(0, .ref 3), (1, .int v1), (2, .int v2), (3, .int v3), (4, .int (v4 + 1))]) [1, 2, 3, 4, 0] rfl ?_
    exact hK11 _ _ _ _ _ h
  · refine q_if_eq_f 75 d_La_countSteps_72 rfl 86 (by decide) c15 ?_
    refine q_aloadn 76 d_La_countSteps_75 rfl 0 rfl ?_
    refine q_xget 79 d_La_countSteps_76 rfl fl_La_31 (by decide) rfl rfl ?_
    refine q_iloadn 80 d_La_countSteps_79 rfl 3 rfl ?_
    refine q_iload 82 d_La_countSteps_80 rfl 4 rfl ?_
    refine q_xiast 83 d_La_countSteps_82 rfl (by decide) (fun _ => rfl) h (fun x14 ex14 h => ?_)
    refine q_iinc (v := (v3 + 1)) (lv' := [(3, .int (v3 + 1)), (0, .ref 3), (1, .int v1), (2, .int v2), (4, .int v4), (5, .int v5)]) 86 d_La_countSteps_83 rfl 3 rfl (q_ai (by decide)) (by decide) rfl ?_
    refine q_iinc (v := (v4 + 1)) (lv' := [(4, .int (v4 + 1)), (3, .int (v3 + 1)), (0, .ref 3), (1, .int v1), (2, .int v2), (5, .int v5)]) 89 d_La_countSteps_86 rfl 4 rfl (q_ai (by decide)) (by decide) rfl ?_
    refine q_goto 11 d_La_countSteps_89 (by decide) ?_
    refine q_sub (lv' := [(0, .ref 3), (1, .int v1), (2, .int v2), (3, .int (v3 + 1)), (4, .int (v4 + 1))]) [2, 3, 4, 1, 0] rfl ?_
    exact hK11 _ _ _ _ _ h
set_option maxHeartbeats 4000000 in
set_option maxRecDepth 100000 in
theorem t_La_countSteps_J49 {E : q_E} {c d : Nat} {ρ : q_W} {K11 : q_W → Int32 → Int32 → Int32 → Int32 → Option q_W} (hK11 : ∀ x v1 v2 v3 v4, K11 x v1 v2 v3 v4 = some ρ → AW E (q_rm 1) m_La_countSteps (q_cells E c d x) 0 0 11 [(0, .ref 3), (1, .int v1), (2, .int v2), (3, .int v3), (4, .int v4)] [] (q_rV E c d ρ)) : ∀ (x : q_W) (v1 : Int32) (v2 : Int32) (v3 : Int32) (v4 : Int32) (s0 : Int32), f_La_countSteps_J49 K11 x v1 v2 v3 v4 s0 = some ρ → AW E (q_rm 1) m_La_countSteps (q_cells E c d x) 0 0 49 [(0, .ref 3), (1, .int v1), (2, .int v2), (3, .int v3), (4, .int v4)] [.int s0] (q_rV E c d ρ) := by
  intro x v1 v2 v3 v4 s0 h
  unfold f_La_countSteps_J49 at h
  refine q_istore (lv' := [(5, .int s0), (0, .ref 3), (1, .int v1), (2, .int v2), (3, .int v3), (4, .int v4)]) 51 d_La_countSteps_49 rfl (by decide) rfl ?_
  refine q_aloadn 52 d_La_countSteps_51 rfl 1 rfl ?_
  refine q_xget 55 d_La_countSteps_52 rfl fl_La_28 (by decide) rfl rfl ?_
  refine q_iloadn 56 d_La_countSteps_55 rfl 3 rfl ?_
  refine q_iload 58 d_La_countSteps_56 rfl 5 rfl ?_
  refine q_iadd 59 d_La_countSteps_58 rfl ?_
  refine q_iload 61 d_La_countSteps_59 rfl 0 rfl ?_
  refine q_ite h (fun c12 h => ?_) (fun c12 h => ?_)
  · refine q_if_eq_t 68 d_La_countSteps_61 (by decide) c12 ?_
    refine q_iconst (v := (-1)) 69 d_La_countSteps_68 rfl (by decide) ?_
    refine q_sub (lv' := [(0, .ref 3), (1, .int v1), (2, .int v2), (3, .int v3), (4, .int v4), (5, .int s0)]) [1, 2, 3, 4, 5, 0] rfl ?_
    exact t_La_countSteps_J69 hK11 _ _ _ _ _ _ _ _ h
  · refine q_if_eq_f 64 d_La_countSteps_61 rfl 68 (by decide) c12 ?_
    refine q_iconst (v := 0) 65 d_La_countSteps_64 rfl (by decide) ?_
    refine q_goto 69 d_La_countSteps_65 (by decide) ?_
    refine q_sub (lv' := [(0, .ref 3), (1, .int v1), (2, .int v2), (3, .int v3), (4, .int v4), (5, .int s0)]) [1, 2, 3, 4, 5, 0] rfl ?_
    exact t_La_countSteps_J69 hK11 _ _ _ _ _ _ _ _ h
set_option maxHeartbeats 4000000 in
set_option maxRecDepth 100000 in
theorem t_La_countSteps_J48 {E : q_E} {c d : Nat} {ρ : q_W} {K11 : q_W → Int32 → Int32 → Int32 → Int32 → Option q_W} (hK11 : ∀ x v1 v2 v3 v4, K11 x v1 v2 v3 v4 = some ρ → AW E (q_rm 1) m_La_countSteps (q_cells E c d x) 0 0 11 [(0, .ref 3), (1, .int v1), (2, .int v2), (3, .int v3), (4, .int v4)] [] (q_rV E c d ρ)) : ∀ (x : q_W) (v1 : Int32) (v2 : Int32) (v3 : Int32) (v4 : Int32), f_La_countSteps_J48 K11 x v1 v2 v3 v4 = some ρ → AW E (q_rm 1) m_La_countSteps (q_cells E c d x) 0 0 48 [(0, .ref 3), (1, .int v1), (2, .int v2), (3, .int v3), (4, .int v4)] [] (q_rV E c d ρ) := by
  intro x v1 v2 v3 v4 h
  unfold f_La_countSteps_J48 at h
  refine q_iconst (v := 0) 49 d_La_countSteps_48 rfl (by decide) ?_
  exact t_La_countSteps_J49 hK11 _ _ _ _ _ _ h
set_option maxHeartbeats 4000000 in
set_option maxRecDepth 100000 in
theorem t_La_countSteps_L11 {E : q_E} {c d : Nat} {ρ : q_W} : ∀ (n : Nat) (x : q_W) (v1 : Int32) (v2 : Int32) (v3 : Int32) (v4 : Int32), f_La_countSteps_L11  n x v1 v2 v3 v4 = some ρ → AW E (q_rm 1) m_La_countSteps (q_cells E c d x) 0 0 11 [(0, .ref 3), (1, .int v1), (2, .int v2), (3, .int v3), (4, .int v4)] [] (q_rV E c d ρ) := by
  intro n
  induction n with
  | zero =>
    intro x v1 v2 v3 v4 h
    have h : (none : Option q_W) = some ρ := h
    cases h
  | succ n ih =>
    intro x v1 v2 v3 v4 h
    unfold f_La_countSteps_L11 at h
    refine q_iload 13 d_La_countSteps_11 rfl 4 rfl ?_
    refine q_aloadn 14 d_La_countSteps_13 rfl 0 rfl ?_
    refine q_xget 17 d_La_countSteps_14 rfl fl_La_34 (by decide) rfl rfl ?_
    refine q_ite h (fun c7 h => ?_) (fun c7 h => ?_)
    · refine q_icmp_ge_t 92 d_La_countSteps_17 (by decide) c7 ?_
      refine q_iconst (v := 0) 93 d_La_countSteps_92 rfl (by decide) ?_
      refine q_istore (lv' := [(4, .int 0), (0, .ref 3), (1, .int v1), (2, .int v2), (3, .int v3)]) 95 d_La_countSteps_93 rfl (by decide) rfl ?_
      refine q_sub (lv' := [(0, .ref 3), (2, .int v2), (3, .int v3), (4, .int 0)]) [1, 3, 4, 0] rfl ?_
      exact t_La_countSteps_L95  q_fu _ _ _ _ h
    · refine q_icmp_ge_f 20 d_La_countSteps_17 rfl 92 (by decide) c7 ?_
      refine q_aloadn 21 d_La_countSteps_20 rfl 0 rfl ?_
      refine q_xget 24 d_La_countSteps_21 rfl fl_La_25 (by decide) rfl rfl ?_
      refine q_iload 26 d_La_countSteps_24 rfl 4 rfl ?_
      refine q_xzald 27 d_La_countSteps_26 rfl (by decide) (fun _ => rfl) h (fun w2 ew2 h => ?_)
      refine q_ite h (fun c6 h => ?_) (fun c6 h => ?_)
      · refine q_if_eq_t 48 d_La_countSteps_27 (by decide) c6 ?_
        exact t_La_countSteps_J48 ih _ _ _ _ _ h
      · refine q_if_eq_f 30 d_La_countSteps_27 rfl 48 (by decide) c6 ?_
        refine q_aloadn 31 d_La_countSteps_30 rfl 0 rfl ?_
        refine q_xget 34 d_La_countSteps_31 rfl fl_La_15 (by decide) rfl rfl ?_
        refine q_iload 36 d_La_countSteps_34 rfl 4 rfl ?_
        refine q_xiald 37 d_La_countSteps_36 rfl (by decide) (fun _ => rfl) h (fun w3 ew3 h => ?_)
        refine q_iloadn 38 d_La_countSteps_37 rfl 1 rfl ?_
        refine q_xcallP (as := [.int w3, .int v1]) (rest := []) 41 h (fun z e => t_D_hasBit e) (q_invSN (Y := m_D_hasBit) d_La_countSteps_38 ml_La_84 ms_D_hasBit k_D_hasBit.2 k_D_hasBit.1 (by decide) n_D_hasBit) k_D_hasBit (q_ro (by decide) (by decide)) (Nat.le_of_ble_eq_true rfl) d_La_countSteps_38 rfl rfl rfl (fun w4 ew4 h => ?_)
        refine q_ite h (fun c5 h => ?_) (fun c5 h => ?_)
        · refine q_if_eq_t 48 d_La_countSteps_41 (by decide) c5 ?_
          exact t_La_countSteps_J48 ih _ _ _ _ _ h
        · refine q_if_eq_f 44 d_La_countSteps_41 rfl 48 (by decide) c5 ?_
          refine q_iconst (v := 1) 45 d_La_countSteps_44 rfl (by decide) ?_
          refine q_goto 49 d_La_countSteps_45 (by decide) ?_
          exact t_La_countSteps_J49 ih _ _ _ _ _ _ h
set_option maxHeartbeats 4000000 in
set_option maxRecDepth 100000 in
theorem t_La_countSteps {E : q_E} {c d : Nat} {x : q_W} {a1 : Int32} {ρ : q_W} (h : f_La_countSteps x a1 = some ρ) : q_Ct E y_La_countSteps m_La_countSteps (q_rm 1) (q_cells E c d x) [.ref 3, .int a1] (q_rV E c d ρ) := by
  unfold f_La_countSteps at h
  refine q_Ct.of (lv := [(0, .ref 3), (1, .int a1)]) (by decide) ⟨rfl, rfl⟩ rfl (Nat.le_of_ble_eq_true rfl) ?_
  refine q_iloadn 1 d_La_countSteps_0 rfl 1 rfl ?_
  refine q_sipush (v := 256) 4 d_La_countSteps_1 rfl (by decide) ?_
  refine q_imul 5 d_La_countSteps_4 rfl ?_
  refine q_xtop h (fun z1 ez1 h => ?_)
  refine q_istoren (lv' := [(2, .int z1), (0, .ref 3), (1, .int a1)]) 6 d_La_countSteps_5 rfl (by decide) rfl ?_
  refine q_iconst (v := 0) 7 d_La_countSteps_6 rfl (by decide) ?_
  refine q_istoren (lv' := [(3, .int 0), (2, .int z1), (0, .ref 3), (1, .int a1)]) 8 d_La_countSteps_7 rfl (by decide) rfl ?_
  refine q_iconst (v := 0) 9 d_La_countSteps_8 rfl (by decide) ?_
  refine q_istore (lv' := [(4, .int 0), (3, .int 0), (2, .int z1), (0, .ref 3), (1, .int a1)]) 11 d_La_countSteps_9 rfl (by decide) rfl ?_
  refine q_sub (lv' := [(0, .ref 3), (1, .int a1), (2, .int z1), (3, .int 0), (4, .int 0)]) [3, 4, 2, 1, 0] rfl ?_
  exact t_La_countSteps_L11  q_fu _ _ _ _ _ h
set_option maxHeartbeats 4000000 in
set_option maxRecDepth 100000 in
theorem t_Fo_isForOnce {E : q_E} {c d : Nat} {f : Nat} (hf : f = 16 ∨ f = 24) {x : q_W} {a1 : Int32} {ρ : Int32} (h : f_Fo_isForOnce f x a1 = some ρ) : q_Ct E y_Fo_isForOnce m_Fo_isForOnce (q_rm 0) (q_cells E c d x) [.ref f, .int a1] (q_rP E c d x ρ) := by
  rcases hf with rfl | rfl
  · unfold f_Fo_isForOnce at h
    refine q_Ct.of (lv := [(0, .ref 16), (1, .int a1)]) (by decide) ⟨rfl, rfl⟩ rfl (Nat.le_of_ble_eq_true rfl) ?_
    refine q_aloadn 1 d_Fo_isForOnce_0 rfl 0 rfl ?_
    refine q_xget 4 d_Fo_isForOnce_1 rfl fl_Fo_9 (by decide) rfl rfl ?_
    refine q_iloadn 5 d_Fo_isForOnce_4 rfl 1 rfl ?_
    refine q_xiald 6 d_Fo_isForOnce_5 rfl (by decide) (fun _ => rfl) h (fun w1 ew1 h => ?_)
    refine q_bipush (v := 70) 8 d_Fo_isForOnce_6 rfl (by decide) ?_
    refine q_ite h (fun c4 h => ?_) (fun c4 h => ?_)
    · refine q_icmp_eq_t 22 d_Fo_isForOnce_8 (by decide) c4 ?_
      refine q_iconst (v := 1) 23 d_Fo_isForOnce_22 rfl (by decide) ?_
      refine q_goto 27 d_Fo_isForOnce_23 (by decide) ?_
      cases h
      exact q_zret d_Fo_isForOnce_27 rfl (Nat.zero_le _) (Nat.zero_le _)
    · refine q_icmp_eq_f 11 d_Fo_isForOnce_8 rfl 22 (by decide) c4 ?_
      refine q_aloadn 12 d_Fo_isForOnce_11 rfl 0 rfl ?_
      refine q_xget 15 d_Fo_isForOnce_12 rfl fl_Fo_9 (by decide) rfl rfl ?_
      refine q_iloadn 16 d_Fo_isForOnce_15 rfl 1 rfl ?_
      refine q_xiald 17 d_Fo_isForOnce_16 rfl (by decide) (fun _ => rfl) h (fun w2 ew2 h => ?_)
      refine q_bipush (v := 85) 19 d_Fo_isForOnce_17 rfl (by decide) ?_
      refine q_ite h (fun c3 h => ?_) (fun c3 h => ?_)
      · refine q_icmp_ne_t 26 d_Fo_isForOnce_19 (by decide) c3 ?_
        refine q_iconst (v := 0) 27 d_Fo_isForOnce_26 rfl (by decide) ?_
        cases h
        exact q_zret d_Fo_isForOnce_27 rfl (Nat.zero_le _) (Nat.zero_le _)
      · refine q_icmp_ne_f 22 d_Fo_isForOnce_19 rfl 26 (by decide) (Classical.not_not.mp c3) ?_
        refine q_iconst (v := 1) 23 d_Fo_isForOnce_22 rfl (by decide) ?_
        refine q_goto 27 d_Fo_isForOnce_23 (by decide) ?_
        cases h
        exact q_zret d_Fo_isForOnce_27 rfl (Nat.zero_le _) (Nat.zero_le _)
  · unfold f_Fo_isForOnce at h
    refine q_Ct.of (lv := [(0, .ref 24), (1, .int a1)]) (by decide) ⟨rfl, rfl⟩ rfl (Nat.le_of_ble_eq_true rfl) ?_
    refine q_aloadn 1 d_Fo_isForOnce_0 rfl 0 rfl ?_
    refine q_xget 4 d_Fo_isForOnce_1 rfl fl_Fo_9 (by decide) rfl rfl ?_
    refine q_iloadn 5 d_Fo_isForOnce_4 rfl 1 rfl ?_
    refine q_xiald 6 d_Fo_isForOnce_5 rfl (by decide) (fun _ => rfl) h (fun w1 ew1 h => ?_)
    refine q_bipush (v := 70) 8 d_Fo_isForOnce_6 rfl (by decide) ?_
    refine q_ite h (fun c4 h => ?_) (fun c4 h => ?_)
    · refine q_icmp_eq_t 22 d_Fo_isForOnce_8 (by decide) c4 ?_
      refine q_iconst (v := 1) 23 d_Fo_isForOnce_22 rfl (by decide) ?_
      refine q_goto 27 d_Fo_isForOnce_23 (by decide) ?_
      cases h
      exact q_zret d_Fo_isForOnce_27 rfl (Nat.zero_le _) (Nat.zero_le _)
    · refine q_icmp_eq_f 11 d_Fo_isForOnce_8 rfl 22 (by decide) c4 ?_
      refine q_aloadn 12 d_Fo_isForOnce_11 rfl 0 rfl ?_
      refine q_xget 15 d_Fo_isForOnce_12 rfl fl_Fo_9 (by decide) rfl rfl ?_
      refine q_iloadn 16 d_Fo_isForOnce_15 rfl 1 rfl ?_
      refine q_xiald 17 d_Fo_isForOnce_16 rfl (by decide) (fun _ => rfl) h (fun w2 ew2 h => ?_)
      refine q_bipush (v := 85) 19 d_Fo_isForOnce_17 rfl (by decide) ?_
      refine q_ite h (fun c3 h => ?_) (fun c3 h => ?_)
      · refine q_icmp_ne_t 26 d_Fo_isForOnce_19 (by decide) c3 ?_
        refine q_iconst (v := 0) 27 d_Fo_isForOnce_26 rfl (by decide) ?_
        cases h
        exact q_zret d_Fo_isForOnce_27 rfl (Nat.zero_le _) (Nat.zero_le _)
      · refine q_icmp_ne_f 22 d_Fo_isForOnce_19 rfl 26 (by decide) (Classical.not_not.mp c3) ?_
        refine q_iconst (v := 1) 23 d_Fo_isForOnce_22 rfl (by decide) ?_
        refine q_goto 27 d_Fo_isForOnce_23 (by decide) ?_
        cases h
        exact q_zret d_Fo_isForOnce_27 rfl (Nat.zero_le _) (Nat.zero_le _)
set_option maxHeartbeats 4000000 in
set_option maxRecDepth 100000 in
theorem t_Fo_keptIn_L4 {E : q_E} {c d : Nat} {f : Nat} (hf : f = 16 ∨ f = 24) {ρ : Int32} : ∀ (n : Nat) (x : q_W) (v1 : Int32) (v2 : Int32) (v3 : Int32), f_Fo_keptIn_L4 f n x v1 v2 v3 = some ρ → AW E (q_rm 1) m_Fo_keptIn (q_cells E c d x) 0 0 4 [(0, .ref f), (1, .int v1), (2, .int v2), (3, .int v3)] [] (q_rP E c d x ρ) := by
  rcases hf with rfl | rfl
  · intro n
    induction n with
    | zero =>
      intro x v1 v2 v3 h
      have h : (none : Option Int32) = some ρ := h
      cases h
    | succ n ih =>
      intro x v1 v2 v3 h
      unfold f_Fo_keptIn_L4 at h
      refine q_iloadn 5 d_Fo_keptIn_4 rfl 3 rfl ?_
      refine q_aloadn 6 d_Fo_keptIn_5 rfl 0 rfl ?_
      refine q_xget 9 d_Fo_keptIn_6 rfl fl_Fo_40 (by decide) rfl rfl ?_
      refine q_ite h (fun c7 h => ?_) (fun c7 h => ?_)
      · refine q_icmp_ge_t 52 d_Fo_keptIn_9 (by decide) c7 ?_
        refine q_iloadn 53 d_Fo_keptIn_52 rfl 2 rfl ?_
        cases h
        exact q_iret d_Fo_keptIn_53 rfl (Nat.zero_le _) (Nat.zero_le _)
      · refine q_icmp_ge_f 12 d_Fo_keptIn_9 rfl 52 (by decide) c7 ?_
        refine q_aloadn 13 d_Fo_keptIn_12 rfl 0 rfl ?_
        refine q_xget 16 d_Fo_keptIn_13 rfl fl_Fo_27 (by decide) rfl rfl ?_
        refine q_iloadn 17 d_Fo_keptIn_16 rfl 3 rfl ?_
        refine q_xiald 18 d_Fo_keptIn_17 rfl (by decide) (fun _ => rfl) h (fun w1 ew1 h => ?_)
        refine q_istore (lv' := [(4, .int w1), (0, .ref 16), (1, .int v1), (2, .int v2), (3, .int v3)]) 20 d_Fo_keptIn_18 rfl (by decide) rfl ?_
        refine q_iloadn 21 d_Fo_keptIn_20 rfl 2 rfl ?_
        refine q_aloadn 22 d_Fo_keptIn_21 rfl 1 rfl ?_
        refine q_xget 25 d_Fo_keptIn_22 rfl fl_Fo_18 (by decide) rfl rfl ?_
        refine q_iload 27 d_Fo_keptIn_25 rfl 0 rfl ?_
        refine q_xiald 28 d_Fo_keptIn_27 rfl (by decide) (fun _ => rfl) h (fun w2 ew2 h => ?_)
        refine q_xcallP (as := [.int v1, .int w2]) (rest := []) 31 h (fun z e => t_D_hasBit e) (q_invSN (Y := m_D_hasBit) d_Fo_keptIn_28 ml_Fo_47 ms_D_hasBit k_D_hasBit.2 k_D_hasBit.1 (by decide) n_D_hasBit) k_D_hasBit (q_ro (by decide) (by decide)) (Nat.le_of_ble_eq_true rfl) d_Fo_keptIn_28 rfl rfl rfl (fun w3 ew3 h => ?_)
        refine q_aloadn 32 d_Fo_keptIn_31 rfl 1 rfl ?_
        refine q_iload 34 d_Fo_keptIn_32 rfl 0 rfl ?_
        refine q_xcallP (as := [.ref 16, .int w1]) (rest := [.int w3]) 37 h (fun z e => t_Fo_isForOnce (by decide) e) (q_xinvV (Y := m_Fo_isForOnce) d_Fo_keptIn_34 ml_Fo_55 ms_Fo_isForOnce.1 ms_Fo_isForOnce.2 k_Fo_isForOnce.1 (by decide) n_Fo_isForOnce (by decide) rfl rfl) k_Fo_isForOnce (q_ro (by decide) (by decide)) (Nat.le_of_ble_eq_true rfl) d_Fo_keptIn_34 rfl rfl rfl (fun w4 ew4 h => ?_)
        refine q_ite h (fun c6 h => ?_) (fun c6 h => ?_)
        · refine q_icmp_ne_t 46 d_Fo_keptIn_37 (by decide) c6 ?_
          refine q_iinc (v := (v3 + 1)) (lv' := [(3, .int (v3 + 1)), (4, .int w1), (0, .ref 16), (1, .int v1), (2, .int v2)]) 49 d_Fo_keptIn_46 rfl 4 rfl (q_ai (by decide)) (by decide) rfl ?_
          refine q_goto 4 d_Fo_keptIn_49 (by decide) ?_
          refine q_sub (lv' := [(0, .ref 16), (1, .int v1), (2, .int v2), (3, .int (v3 + 1))]) [2, 3, 4, 0] rfl ?_
          exact ih _ _ _ _ h
        · refine q_icmp_ne_f 40 d_Fo_keptIn_37 rfl 46 (by decide) (Classical.not_not.mp c6) ?_
          refine q_iloadn 41 d_Fo_keptIn_40 rfl 3 rfl ?_
          refine q_iconst (v := 1) 42 d_Fo_keptIn_41 rfl (by decide) ?_
          refine q_iloadn 43 d_Fo_keptIn_42 rfl 4 rfl ?_
          refine q_ishl 44 d_Fo_keptIn_43 rfl ?_
          refine q_ior 45 d_Fo_keptIn_44 rfl ?_
          refine q_xtop h (fun z5 ez5 h => ?_)
          refine q_istoren (lv' := [(2, .int z5), (4, .int w1), (0, .ref 16), (1, .int v1), (3, .int v3)]) 46 d_Fo_keptIn_45 rfl (by decide) rfl ?_
          refine q_iinc (v := (v3 + 1)) (lv' := [(3, .int (v3 + 1)), (2, .int z5), (4, .int w1), (0, .ref 16), (1, .int v1)]) 49 d_Fo_keptIn_46 rfl 4 rfl (q_ai (by decide)) (by decide) rfl ?_
          refine q_goto 4 d_Fo_keptIn_49 (by decide) ?_
          refine q_sub (lv' := [(0, .ref 16), (1, .int v1), (2, .int z5), (3, .int (v3 + 1))]) [3, 4, 1, 0] rfl ?_
          exact ih _ _ _ _ h
  · intro n
    induction n with
    | zero =>
      intro x v1 v2 v3 h
      have h : (none : Option Int32) = some ρ := h
      cases h
    | succ n ih =>
      intro x v1 v2 v3 h
      unfold f_Fo_keptIn_L4 at h
      refine q_iloadn 5 d_Fo_keptIn_4 rfl 3 rfl ?_
      refine q_aloadn 6 d_Fo_keptIn_5 rfl 0 rfl ?_
      refine q_xget 9 d_Fo_keptIn_6 rfl fl_Fo_40 (by decide) rfl rfl ?_
      refine q_ite h (fun c7 h => ?_) (fun c7 h => ?_)
      · refine q_icmp_ge_t 52 d_Fo_keptIn_9 (by decide) c7 ?_
        refine q_iloadn 53 d_Fo_keptIn_52 rfl 2 rfl ?_
        cases h
        exact q_iret d_Fo_keptIn_53 rfl (Nat.zero_le _) (Nat.zero_le _)
      · refine q_icmp_ge_f 12 d_Fo_keptIn_9 rfl 52 (by decide) c7 ?_
        refine q_aloadn 13 d_Fo_keptIn_12 rfl 0 rfl ?_
        refine q_xget 16 d_Fo_keptIn_13 rfl fl_Fo_27 (by decide) rfl rfl ?_
        refine q_iloadn 17 d_Fo_keptIn_16 rfl 3 rfl ?_
        refine q_xiald 18 d_Fo_keptIn_17 rfl (by decide) (fun _ => rfl) h (fun w1 ew1 h => ?_)
        refine q_istore (lv' := [(4, .int w1), (0, .ref 24), (1, .int v1), (2, .int v2), (3, .int v3)]) 20 d_Fo_keptIn_18 rfl (by decide) rfl ?_
        refine q_iloadn 21 d_Fo_keptIn_20 rfl 2 rfl ?_
        refine q_aloadn 22 d_Fo_keptIn_21 rfl 1 rfl ?_
        refine q_xget 25 d_Fo_keptIn_22 rfl fl_Fo_18 (by decide) rfl rfl ?_
        refine q_iload 27 d_Fo_keptIn_25 rfl 0 rfl ?_
        refine q_xiald 28 d_Fo_keptIn_27 rfl (by decide) (fun _ => rfl) h (fun w2 ew2 h => ?_)
        refine q_xcallP (as := [.int v1, .int w2]) (rest := []) 31 h (fun z e => t_D_hasBit e) (q_invSN (Y := m_D_hasBit) d_Fo_keptIn_28 ml_Fo_47 ms_D_hasBit k_D_hasBit.2 k_D_hasBit.1 (by decide) n_D_hasBit) k_D_hasBit (q_ro (by decide) (by decide)) (Nat.le_of_ble_eq_true rfl) d_Fo_keptIn_28 rfl rfl rfl (fun w3 ew3 h => ?_)
        refine q_aloadn 32 d_Fo_keptIn_31 rfl 1 rfl ?_
        refine q_iload 34 d_Fo_keptIn_32 rfl 0 rfl ?_
        refine q_xcallP (as := [.ref 24, .int w1]) (rest := [.int w3]) 37 h (fun z e => t_Fo_isForOnce (by decide) e) (q_xinvV (Y := m_Fo_isForOnce) d_Fo_keptIn_34 ml_Fo_55 ms_Fo_isForOnce.1 ms_Fo_isForOnce.2 k_Fo_isForOnce.1 (by decide) n_Fo_isForOnce (by decide) rfl rfl) k_Fo_isForOnce (q_ro (by decide) (by decide)) (Nat.le_of_ble_eq_true rfl) d_Fo_keptIn_34 rfl rfl rfl (fun w4 ew4 h => ?_)
        refine q_ite h (fun c6 h => ?_) (fun c6 h => ?_)
        · refine q_icmp_ne_t 46 d_Fo_keptIn_37 (by decide) c6 ?_
          refine q_iinc (v := (v3 + 1)) (lv' := [(3, .int (v3 + 1)), (4, .int w1), (0, .ref 24), (1, .int v1), (2, .int v2)]) 49 d_Fo_keptIn_46 rfl 4 rfl (q_ai (by decide)) (by decide) rfl ?_
          refine q_goto 4 d_Fo_keptIn_49 (by decide) ?_
          refine q_sub (lv' := [(0, .ref 24), (1, .int v1), (2, .int v2), (3, .int (v3 + 1))]) [2, 3, 4, 0] rfl ?_
          exact ih _ _ _ _ h
        · refine q_icmp_ne_f 40 d_Fo_keptIn_37 rfl 46 (by decide) (Classical.not_not.mp c6) ?_
          refine q_iloadn 41 d_Fo_keptIn_40 rfl 3 rfl ?_
          refine q_iconst (v := 1) 42 d_Fo_keptIn_41 rfl (by decide) ?_
          refine q_iloadn 43 d_Fo_keptIn_42 rfl 4 rfl ?_
          refine q_ishl 44 d_Fo_keptIn_43 rfl ?_
          refine q_ior 45 d_Fo_keptIn_44 rfl ?_
          refine q_xtop h (fun z5 ez5 h => ?_)
          refine q_istoren (lv' := [(2, .int z5), (4, .int w1), (0, .ref 24), (1, .int v1), (3, .int v3)]) 46 d_Fo_keptIn_45 rfl (by decide) rfl ?_
          refine q_iinc (v := (v3 + 1)) (lv' := [(3, .int (v3 + 1)), (2, .int z5), (4, .int w1), (0, .ref 24), (1, .int v1)]) 49 d_Fo_keptIn_46 rfl 4 rfl (q_ai (by decide)) (by decide) rfl ?_
          refine q_goto 4 d_Fo_keptIn_49 (by decide) ?_
          refine q_sub (lv' := [(0, .ref 24), (1, .int v1), (2, .int z5), (3, .int (v3 + 1))]) [3, 4, 1, 0] rfl ?_
          exact ih _ _ _ _ h
set_option maxHeartbeats 4000000 in
set_option maxRecDepth 100000 in
theorem t_Fo_keptIn {E : q_E} {c d : Nat} {f : Nat} (hf : f = 16 ∨ f = 24) {x : q_W} {a1 : Int32} {ρ : Int32} (h : f_Fo_keptIn f x a1 = some ρ) : q_Ct E y_Fo_keptIn m_Fo_keptIn (q_rm 1) (q_cells E c d x) [.ref f, .int a1] (q_rP E c d x ρ) := by
  rcases hf with rfl | rfl
  · unfold f_Fo_keptIn at h
    refine q_Ct.of (lv := [(0, .ref 16), (1, .int a1)]) (by decide) ⟨rfl, rfl⟩ rfl (Nat.le_of_ble_eq_true rfl) ?_
    refine q_iconst (v := 0) 1 d_Fo_keptIn_0 rfl (by decide) ?_
    refine q_istoren (lv' := [(2, .int 0), (0, .ref 16), (1, .int a1)]) 2 d_Fo_keptIn_1 rfl (by decide) rfl ?_
    refine q_iconst (v := 0) 3 d_Fo_keptIn_2 rfl (by decide) ?_
    refine q_istoren (lv' := [(3, .int 0), (2, .int 0), (0, .ref 16), (1, .int a1)]) 4 d_Fo_keptIn_3 rfl (by decide) rfl ?_
    refine q_sub (lv' := [(0, .ref 16), (1, .int a1), (2, .int 0), (3, .int 0)]) [2, 3, 1, 0] rfl ?_
    exact t_Fo_keptIn_L4 (Or.inl rfl) q_fu _ _ _ _ h
  · unfold f_Fo_keptIn at h
    refine q_Ct.of (lv := [(0, .ref 24), (1, .int a1)]) (by decide) ⟨rfl, rfl⟩ rfl (Nat.le_of_ble_eq_true rfl) ?_
    refine q_iconst (v := 0) 1 d_Fo_keptIn_0 rfl (by decide) ?_
    refine q_istoren (lv' := [(2, .int 0), (0, .ref 24), (1, .int a1)]) 2 d_Fo_keptIn_1 rfl (by decide) rfl ?_
    refine q_iconst (v := 0) 3 d_Fo_keptIn_2 rfl (by decide) ?_
    refine q_istoren (lv' := [(3, .int 0), (2, .int 0), (0, .ref 24), (1, .int a1)]) 4 d_Fo_keptIn_3 rfl (by decide) rfl ?_
    refine q_sub (lv' := [(0, .ref 24), (1, .int a1), (2, .int 0), (3, .int 0)]) [2, 3, 1, 0] rfl ?_
    exact t_Fo_keptIn_L4 (Or.inr rfl) q_fu _ _ _ _ h
