set_option maxHeartbeats 4000000 in
set_option maxRecDepth 100000 in
theorem t_Fo_placesOn_L2 {E : q_E} {c d : Nat} {f : Nat} (hf : f = 16 ∨ f = 24) {ρ : Int32 × q_W} {E2 : q_W → Option (Int32 × q_W)} (hE2 : ∀ x, E2 x = some ρ → AW E (q_rm 4) m_Fo_placesOn (q_cells E c d x) 0 0 28 [(0, .ref f)] [] (q_rS E c d ρ)) : ∀ (n : Nat) (x : q_W) (v2 : Int32), f_Fo_placesOn_L2 f E2 n x v2 = some ρ → AW E (q_rm 4) m_Fo_placesOn (q_cells E c d x) 0 0 2 [(0, .ref f), (1, .ref 14), (2, .int v2)] [] (q_rS E c d ρ) := by
  rcases hf with rfl | rfl
  · intro n
    induction n with
    | zero =>
      intro x v2 h
      have h : (none : Option (Int32 × q_W)) = some ρ := h
      cases h
    | succ n ih =>
      intro x v2 h
      unfold f_Fo_placesOn_L2 at h
      refine q_iloadn 3 d_Fo_placesOn_2 rfl 2 rfl ?_
      refine q_aloadn 4 d_Fo_placesOn_3 rfl 0 rfl ?_
      refine q_xget 7 d_Fo_placesOn_4 rfl fl_Fo_33 (by decide) rfl rfl ?_
      refine q_ite h (fun c6 h => ?_) (fun c6 h => ?_)
      · refine q_icmp_ge_t 28 d_Fo_placesOn_7 (by decide) c6 ?_
        refine q_sub (lv' := [(0, .ref 16)]) [0] rfl ?_
        exact hE2 _ h
      · refine q_icmp_ge_f 10 d_Fo_placesOn_7 rfl 28 (by decide) c6 ?_
        refine q_aloadn 11 d_Fo_placesOn_10 rfl 0 rfl ?_
        refine q_xget 14 d_Fo_placesOn_11 rfl fl_Fo_30 (by decide) rfl rfl ?_
        refine q_iloadn 15 d_Fo_placesOn_14 rfl 2 rfl ?_
        refine q_aloadn 16 d_Fo_placesOn_15 rfl 0 rfl ?_
        refine q_iloadn 17 d_Fo_placesOn_16 rfl 2 rfl ?_
        refine q_aloadn 18 d_Fo_placesOn_17 rfl 1 rfl ?_
        refine q_xcallP (as := [.ref 16, .int v2, .ref 14]) (rest := [.int v2, .ref (16 + 7)]) 21 h (fun z e => t_Fo_partPlaces (by decide) e) (q_xinvV (Y := m_Fo_partPlaces) d_Fo_placesOn_18 ml_Fo_58 ms_Fo_partPlaces.1 ms_Fo_partPlaces.2 k_Fo_partPlaces.1 (by decide) n_Fo_partPlaces (by decide) rfl rfl) k_Fo_partPlaces (q_ro (by decide) (by decide)) (Nat.le_of_ble_eq_true rfl) d_Fo_placesOn_18 rfl rfl rfl (fun w4 ew4 h => ?_)
        refine q_xiast 22 d_Fo_placesOn_21 rfl (by decide) (fun _ => rfl) h (fun x5 ex5 h => ?_)
        refine q_iinc (v := (v2 + 1)) (lv' := [(2, .int (v2 + 1)), (0, .ref 16), (1, .ref 14)]) 25 d_Fo_placesOn_22 rfl 2 rfl (q_ai (by decide)) (by decide) rfl ?_
        refine q_goto 2 d_Fo_placesOn_25 (by decide) ?_
        refine q_sub (lv' := [(0, .ref 16), (1, .ref 14), (2, .int (v2 + 1))]) [1, 2, 0] rfl ?_
        exact ih _ _ h
  · intro n
    induction n with
    | zero =>
      intro x v2 h
      have h : (none : Option (Int32 × q_W)) = some ρ := h
      cases h
    | succ n ih =>
      intro x v2 h
      unfold f_Fo_placesOn_L2 at h
      refine q_iloadn 3 d_Fo_placesOn_2 rfl 2 rfl ?_
      refine q_aloadn 4 d_Fo_placesOn_3 rfl 0 rfl ?_
      refine q_xget 7 d_Fo_placesOn_4 rfl fl_Fo_33 (by decide) rfl rfl ?_
      refine q_ite h (fun c6 h => ?_) (fun c6 h => ?_)
      · refine q_icmp_ge_t 28 d_Fo_placesOn_7 (by decide) c6 ?_
        refine q_sub (lv' := [(0, .ref 24)]) [0] rfl ?_
        exact hE2 _ h
      · refine q_icmp_ge_f 10 d_Fo_placesOn_7 rfl 28 (by decide) c6 ?_
        refine q_aloadn 11 d_Fo_placesOn_10 rfl 0 rfl ?_
        refine q_xget 14 d_Fo_placesOn_11 rfl fl_Fo_30 (by decide) rfl rfl ?_
        refine q_iloadn 15 d_Fo_placesOn_14 rfl 2 rfl ?_
        refine q_aloadn 16 d_Fo_placesOn_15 rfl 0 rfl ?_
        refine q_iloadn 17 d_Fo_placesOn_16 rfl 2 rfl ?_
        refine q_aloadn 18 d_Fo_placesOn_17 rfl 1 rfl ?_
        refine q_xcallP (as := [.ref 24, .int v2, .ref 14]) (rest := [.int v2, .ref (24 + 7)]) 21 h (fun z e => t_Fo_partPlaces (by decide) e) (q_xinvV (Y := m_Fo_partPlaces) d_Fo_placesOn_18 ml_Fo_58 ms_Fo_partPlaces.1 ms_Fo_partPlaces.2 k_Fo_partPlaces.1 (by decide) n_Fo_partPlaces (by decide) rfl rfl) k_Fo_partPlaces (q_ro (by decide) (by decide)) (Nat.le_of_ble_eq_true rfl) d_Fo_placesOn_18 rfl rfl rfl (fun w4 ew4 h => ?_)
        refine q_xiast 22 d_Fo_placesOn_21 rfl (by decide) (fun _ => rfl) h (fun x5 ex5 h => ?_)
        refine q_iinc (v := (v2 + 1)) (lv' := [(2, .int (v2 + 1)), (0, .ref 24), (1, .ref 14)]) 25 d_Fo_placesOn_22 rfl 2 rfl (q_ai (by decide)) (by decide) rfl ?_
        refine q_goto 2 d_Fo_placesOn_25 (by decide) ?_
        refine q_sub (lv' := [(0, .ref 24), (1, .ref 14), (2, .int (v2 + 1))]) [1, 2, 0] rfl ?_
        exact ih _ _ h
set_option maxHeartbeats 4000000 in
set_option maxRecDepth 100000 in
theorem t_Fo_placesOn {E : q_E} {c d : Nat} {f : Nat} (hf : f = 16 ∨ f = 24) {x : q_W} {ρ : Int32 × q_W} (h : f_Fo_placesOn f x = some ρ) : q_Ct E y_Fo_placesOn m_Fo_placesOn (q_rm 4) (q_cells E c d x) [.ref f, .ref 14] (q_rS E c d ρ) := by
  rcases hf with rfl | rfl
  · unfold f_Fo_placesOn at h
    refine q_Ct.of (lv := [(0, .ref 16), (1, .ref 14)]) (by decide) ⟨rfl, rfl⟩ rfl (Nat.le_of_ble_eq_true rfl) ?_
    refine q_iconst (v := 0) 1 d_Fo_placesOn_0 rfl (by decide) ?_
    refine q_istoren (lv' := [(2, .int 0), (0, .ref 16), (1, .ref 14)]) 2 d_Fo_placesOn_1 rfl (by decide) rfl ?_
    refine q_sub (lv' := [(0, .ref 16), (1, .ref 14), (2, .int 0)]) [1, 2, 0] rfl ?_
    refine t_Fo_placesOn_L2 (Or.inl rfl) (fun x1 h => ?_) q_fu _ _ h
    refine q_aloadn 29 d_Fo_placesOn_28 rfl 0 rfl ?_
    refine q_xget 32 d_Fo_placesOn_29 rfl fl_Fo_33 (by decide) rfl rfl ?_
    refine q_ite h (fun c3 h => ?_) (fun c3 h => ?_)
    · refine q_if_ne_t 39 d_Fo_placesOn_32 (by decide) c3 ?_
      refine q_aloadn 40 d_Fo_placesOn_39 rfl 0 rfl ?_
      refine q_xget 43 d_Fo_placesOn_40 rfl fl_Fo_30 (by decide) rfl rfl ?_
      refine q_aloadn 44 d_Fo_placesOn_43 rfl 0 rfl ?_
      refine q_xget 47 d_Fo_placesOn_44 rfl fl_Fo_33 (by decide) rfl rfl ?_
      refine q_iconst (v := 1) 48 d_Fo_placesOn_47 rfl (by decide) ?_
      refine q_isub 49 d_Fo_placesOn_48 rfl ?_
      refine q_xiald 50 d_Fo_placesOn_49 rfl (by decide) (fun _ => rfl) h (fun w2 ew2 h => ?_)
      cases h
      exact q_iret d_Fo_placesOn_50 rfl (Nat.zero_le _) (Nat.zero_le _)
    · refine q_if_ne_f 35 d_Fo_placesOn_32 rfl 39 (by decide) (Classical.not_not.mp c3) ?_
      refine q_iconst (v := 0) 36 d_Fo_placesOn_35 rfl (by decide) ?_
      refine q_goto 50 d_Fo_placesOn_36 (by decide) ?_
      cases h
      exact q_iret d_Fo_placesOn_50 rfl (Nat.zero_le _) (Nat.zero_le _)
  · unfold f_Fo_placesOn at h
    refine q_Ct.of (lv := [(0, .ref 24), (1, .ref 14)]) (by decide) ⟨rfl, rfl⟩ rfl (Nat.le_of_ble_eq_true rfl) ?_
    refine q_iconst (v := 0) 1 d_Fo_placesOn_0 rfl (by decide) ?_
    refine q_istoren (lv' := [(2, .int 0), (0, .ref 24), (1, .ref 14)]) 2 d_Fo_placesOn_1 rfl (by decide) rfl ?_
    refine q_sub (lv' := [(0, .ref 24), (1, .ref 14), (2, .int 0)]) [1, 2, 0] rfl ?_
    refine t_Fo_placesOn_L2 (Or.inr rfl) (fun x1 h => ?_) q_fu _ _ h
    refine q_aloadn 29 d_Fo_placesOn_28 rfl 0 rfl ?_
    refine q_xget 32 d_Fo_placesOn_29 rfl fl_Fo_33 (by decide) rfl rfl ?_
    refine q_ite h (fun c3 h => ?_) (fun c3 h => ?_)
    · refine q_if_ne_t 39 d_Fo_placesOn_32 (by decide) c3 ?_
      refine q_aloadn 40 d_Fo_placesOn_39 rfl 0 rfl ?_
      refine q_xget 43 d_Fo_placesOn_40 rfl fl_Fo_30 (by decide) rfl rfl ?_
      refine q_aloadn 44 d_Fo_placesOn_43 rfl 0 rfl ?_
      refine q_xget 47 d_Fo_placesOn_44 rfl fl_Fo_33 (by decide) rfl rfl ?_
      refine q_iconst (v := 1) 48 d_Fo_placesOn_47 rfl (by decide) ?_
      refine q_isub 49 d_Fo_placesOn_48 rfl ?_
      refine q_xiald 50 d_Fo_placesOn_49 rfl (by decide) (fun _ => rfl) h (fun w2 ew2 h => ?_)
      cases h
      exact q_iret d_Fo_placesOn_50 rfl (Nat.zero_le _) (Nat.zero_le _)
    · refine q_if_ne_f 35 d_Fo_placesOn_32 rfl 39 (by decide) (Classical.not_not.mp c3) ?_
      refine q_iconst (v := 0) 36 d_Fo_placesOn_35 rfl (by decide) ?_
      refine q_goto 50 d_Fo_placesOn_36 (by decide) ?_
      cases h
      exact q_iret d_Fo_placesOn_50 rfl (Nat.zero_le _) (Nat.zero_le _)
set_option maxHeartbeats 4000000 in
set_option maxRecDepth 100000 in
theorem t_D_holds {E : q_E} {c d : Nat} (hcd : q_cd c d) {x : q_W} {a1 : Int32} {ρ : (Int32 ⊕ Nat) × q_W} (h : f_D_holds c d x a1 = some ρ) : q_Ct E y_D_holds m_D_holds (q_rm 7) (q_cells E c d x) [.ref 0, .int a1] (q_rT E c d false ρ) := by
  rcases hcd with ⟨rfl, rfl⟩ | ⟨rfl, rfl⟩
  · unfold f_D_holds at h
    refine q_Ct.of (lv := [(0, .ref 0), (1, .int a1)]) (by decide) ⟨rfl, rfl⟩ rfl (Nat.le_of_ble_eq_true rfl) ?_
    refine q_aloadn 1 d_D_holds_0 rfl 0 rfl ?_
    refine q_xcallPT (as := [.ref 0]) (rest := []) 4 h (fun z e => t_D_requireFormula (Or.inl ⟨rfl, rfl⟩) e) (q_xinvV (Y := m_D_requireFormula) d_D_holds_1 ml_D_85 ms_D_requireFormula.1 ms_D_requireFormula.2 k_D_requireFormula.1 (by decide) n_D_requireFormula (by decide) rfl rfl) k_D_requireFormula (q_ro (by decide) (by decide)) (Nat.le_of_ble_eq_true rfl) d_D_holds_1 rfl rfl rfl rfl (fun w1 ew1 h => ?_)
    refine q_aloadn 5 d_D_holds_4 rfl 0 rfl ?_
    refine q_iloadn 6 d_D_holds_5 rfl 1 rfl ?_
    refine q_xcallPT (as := [.ref 0, .int a1]) (rest := []) 9 h (fun z e => t_D_requirePlace (Or.inl ⟨rfl, rfl⟩) e) (q_xinvV (Y := m_D_requirePlace) d_D_holds_6 ml_D_159 ms_D_requirePlace.1 ms_D_requirePlace.2 k_D_requirePlace.1 (by decide) n_D_requirePlace (by decide) rfl rfl) k_D_requirePlace (q_ro (by decide) (by decide)) (Nat.le_of_ble_eq_true rfl) d_D_holds_6 rfl rfl rfl rfl (fun w3 ew3 h => ?_)
    refine q_aloadn 10 d_D_holds_9 rfl 0 rfl ?_
    refine q_xget 13 d_D_holds_10 rfl fl_D_40 (by decide) rfl rfl ?_
    refine q_aloadn 14 d_D_holds_13 rfl 0 rfl ?_
    refine q_xget 17 d_D_holds_14 rfl fl_D_33 (by decide) rfl rfl ?_
    refine q_xcallS (as := [.ref 16, .ref 14]) (rest := []) 20 h (fun z e => t_Fo_placesOn (by decide) e) (q_xinvV (Y := m_Fo_placesOn) d_D_holds_17 ml_D_165 ms_Fo_placesOn.1 ms_Fo_placesOn.2 k_Fo_placesOn.1 (by decide) n_Fo_placesOn (by decide) rfl rfl) k_Fo_placesOn (q_ro (by decide) (by decide)) (Nat.le_of_ble_eq_true rfl) d_D_holds_17 rfl rfl rfl (fun q5 eq5 h => ?_)
    refine q_aloadn 21 d_D_holds_20 rfl 0 rfl ?_
    refine q_xget 24 d_D_holds_21 rfl fl_D_33 (by decide) rfl rfl ?_
    refine q_iloadn 25 d_D_holds_24 rfl 1 rfl ?_
    refine q_xcallP (as := [.ref 14, .int a1]) (rest := [.int q5.1]) 28 h (fun z e => t_Gw_indexOf e) (q_xinvV (Y := m_Gw_indexOf) d_D_holds_25 ml_D_169 ms_Gw_indexOf.1 ms_Gw_indexOf.2 k_Gw_indexOf.1 (by decide) n_Gw_indexOf (by decide) rfl rfl) k_Gw_indexOf (q_ro (by decide) (by decide)) (Nat.le_of_ble_eq_true rfl) d_D_holds_25 rfl rfl rfl (fun w6 ew6 h => ?_)
    refine q_xcallP (as := [.int q5.1, .int w6]) (rest := []) 31 h (fun z e => t_D_hasBit e) (q_invS (Y := m_D_hasBit) d_D_holds_28 ml_D_172 ms_D_hasBit k_D_hasBit.2 k_D_hasBit.1 (by decide) n_D_hasBit) k_D_hasBit (q_ro (by decide) (by decide)) (Nat.le_of_ble_eq_true rfl) d_D_holds_28 rfl rfl rfl (fun w7 ew7 h => ?_)
    cases h
    exact q_zret d_D_holds_31 rfl (Nat.zero_le _) (Nat.zero_le _)
  · unfold f_D_holds at h
    refine q_Ct.of (lv := [(0, .ref 0), (1, .int a1)]) (by decide) ⟨rfl, rfl⟩ rfl (Nat.le_of_ble_eq_true rfl) ?_
    refine q_aloadn 1 d_D_holds_0 rfl 0 rfl ?_
    refine q_xcallPT (as := [.ref 0]) (rest := []) 4 h (fun z e => t_D_requireFormula (Or.inr ⟨rfl, rfl⟩) e) (q_xinvV (Y := m_D_requireFormula) d_D_holds_1 ml_D_85 ms_D_requireFormula.1 ms_D_requireFormula.2 k_D_requireFormula.1 (by decide) n_D_requireFormula (by decide) rfl rfl) k_D_requireFormula (q_ro (by decide) (by decide)) (Nat.le_of_ble_eq_true rfl) d_D_holds_1 rfl rfl rfl rfl (fun w1 ew1 h => ?_)
    refine q_aloadn 5 d_D_holds_4 rfl 0 rfl ?_
    refine q_iloadn 6 d_D_holds_5 rfl 1 rfl ?_
    refine q_xcallPT (as := [.ref 0, .int a1]) (rest := []) 9 h (fun z e => t_D_requirePlace (Or.inr ⟨rfl, rfl⟩) e) (q_xinvV (Y := m_D_requirePlace) d_D_holds_6 ml_D_159 ms_D_requirePlace.1 ms_D_requirePlace.2 k_D_requirePlace.1 (by decide) n_D_requirePlace (by decide) rfl rfl) k_D_requirePlace (q_ro (by decide) (by decide)) (Nat.le_of_ble_eq_true rfl) d_D_holds_6 rfl rfl rfl rfl (fun w3 ew3 h => ?_)
    refine q_aloadn 10 d_D_holds_9 rfl 0 rfl ?_
    refine q_xget 13 d_D_holds_10 rfl fl_D_40 (by decide) rfl rfl ?_
    refine q_aloadn 14 d_D_holds_13 rfl 0 rfl ?_
    refine q_xget 17 d_D_holds_14 rfl fl_D_33 (by decide) rfl rfl ?_
    refine q_xcallS (as := [.ref 24, .ref 14]) (rest := []) 20 h (fun z e => t_Fo_placesOn (by decide) e) (q_xinvV (Y := m_Fo_placesOn) d_D_holds_17 ml_D_165 ms_Fo_placesOn.1 ms_Fo_placesOn.2 k_Fo_placesOn.1 (by decide) n_Fo_placesOn (by decide) rfl rfl) k_Fo_placesOn (q_ro (by decide) (by decide)) (Nat.le_of_ble_eq_true rfl) d_D_holds_17 rfl rfl rfl (fun q5 eq5 h => ?_)
    refine q_aloadn 21 d_D_holds_20 rfl 0 rfl ?_
    refine q_xget 24 d_D_holds_21 rfl fl_D_33 (by decide) rfl rfl ?_
    refine q_iloadn 25 d_D_holds_24 rfl 1 rfl ?_
    refine q_xcallP (as := [.ref 14, .int a1]) (rest := [.int q5.1]) 28 h (fun z e => t_Gw_indexOf e) (q_xinvV (Y := m_Gw_indexOf) d_D_holds_25 ml_D_169 ms_Gw_indexOf.1 ms_Gw_indexOf.2 k_Gw_indexOf.1 (by decide) n_Gw_indexOf (by decide) rfl rfl) k_Gw_indexOf (q_ro (by decide) (by decide)) (Nat.le_of_ble_eq_true rfl) d_D_holds_25 rfl rfl rfl (fun w6 ew6 h => ?_)
    refine q_xcallP (as := [.int q5.1, .int w6]) (rest := []) 31 h (fun z e => t_D_hasBit e) (q_invS (Y := m_D_hasBit) d_D_holds_28 ml_D_172 ms_D_hasBit k_D_hasBit.2 k_D_hasBit.1 (by decide) n_D_hasBit) k_D_hasBit (q_ro (by decide) (by decide)) (Nat.le_of_ble_eq_true rfl) d_D_holds_28 rfl rfl rfl (fun w7 ew7 h => ?_)
    cases h
    exact q_zret d_D_holds_31 rfl (Nat.zero_le _) (Nat.zero_le _)
set_option maxHeartbeats 4000000 in
set_option maxRecDepth 100000 in
theorem t_Mo_thrown {E : q_E} {c d : Nat} {x : q_W} {ρ : Int32} (h : f_Mo_thrown x = some ρ) : q_Ct E y_Mo_thrown m_Mo_thrown (q_rm 0) (q_cells E c d x) [.ref 32] (q_rP E c d x ρ) := by
  unfold f_Mo_thrown at h
  refine q_Ct.of (lv := [(0, .ref 32)]) (by decide) ⟨rfl, rfl⟩ rfl (Nat.le_of_ble_eq_true rfl) ?_
  refine q_aloadn 1 d_Mo_thrown_0 rfl 0 rfl ?_
  refine q_xget 4 d_Mo_thrown_1 rfl fl_Mo_93 (by decide) rfl rfl ?_
  cases h
  exact q_iret d_Mo_thrown_4 rfl (Nat.zero_le _) (Nat.zero_le _)
set_option maxHeartbeats 4000000 in
set_option maxRecDepth 100000 in
theorem t_Mo_type_L127 {E : q_E} {c d : Nat} {ρ : Int32 × q_W} : ∀ (n : Nat) (x : q_W) (v1 : Int32) (v2 : Int32) (v5 : Int32), f_Mo_type_L127  n x v1 v2 v5 = some ρ → AW E (q_rm 0) m_Mo_type (q_cells E c d x) 0 0 127 [(0, .ref 32), (1, .int v1), (2, .int v2), (5, .int v5)] [] (q_rS E c d ρ) := by
  intro n
  induction n with
  | zero =>
    intro x v1 v2 v5 h
    have h : (none : Option (Int32 × q_W)) = some ρ := h
    cases h
  | succ n ih =>
    intro x v1 v2 v5 h
    unfold f_Mo_type_L127 at h
    refine q_iload 129 d_Mo_type_127 rfl 3 rfl ?_
    refine q_iloadn 130 d_Mo_type_129 rfl 2 rfl ?_
    refine q_ite h (fun c15 h => ?_) (fun c15 h => ?_)
    · refine q_icmp_ge_t 169 d_Mo_type_130 (by decide) c15 ?_
      refine q_iconst (v := 1) 170 d_Mo_type_169 rfl (by decide) ?_
      cases h
      exact q_zret d_Mo_type_170 rfl (Nat.zero_le _) (Nat.zero_le _)
    · refine q_icmp_ge_f 133 d_Mo_type_130 rfl 169 (by decide) c15 ?_
      refine q_aloadn 134 d_Mo_type_133 rfl 0 rfl ?_
      refine q_xget 137 d_Mo_type_134 rfl fl_Mo_7 (by decide) rfl rfl ?_
      refine q_aloadn 138 d_Mo_type_137 rfl 0 rfl ?_
      refine q_xget 141 d_Mo_type_138 rfl fl_Mo_96 (by decide) rfl rfl ?_
      refine q_iloadn 142 d_Mo_type_141 rfl 1 rfl ?_
      refine q_bipush (v := 8) 144 d_Mo_type_142 rfl (by decide) ?_
      refine q_iload 146 d_Mo_type_144 rfl 3 rfl ?_
      refine q_imul 147 d_Mo_type_146 rfl ?_
      refine q_ishr 148 d_Mo_type_147 rfl ?_
      refine q_sipush (v := 255) 151 d_Mo_type_148 rfl (by decide) ?_
      refine q_iand 152 d_Mo_type_151 rfl ?_
      refine q_xiast 153 d_Mo_type_152 rfl (by decide) (fun _ => rfl) h (fun x13 ex13 h => ?_)
      refine q_aloadn 154 d_Mo_type_153 rfl 0 rfl ?_
      refine q_dup 155 d_Mo_type_154 rfl rfl ?_
      refine q_xget 158 d_Mo_type_155 rfl fl_Mo_96 (by decide) rfl rfl ?_
      refine q_iconst (v := 1) 159 d_Mo_type_158 rfl (by decide) ?_
      refine q_iadd 160 d_Mo_type_159 rfl ?_
      refine q_xput 163 d_Mo_type_160 rfl fl_Mo_96 (by decide) rfl rfl rfl rfl (Nat.le_of_ble_eq_true rfl) (fun _ => rfl) h (fun x14 ex14 h => ?_)
      refine q_iinc (v := (v5 + 1)) (lv' := [(5, .int (v5 + 1)), (0, .ref 32), (1, .int v1), (2, .int v2)]) 166 d_Mo_type_163 rfl 3 rfl (q_ai (by decide)) (by decide) rfl ?_
      refine q_goto 127 d_Mo_type_166 (by decide) ?_
      refine q_sub (lv' := [(0, .ref 32), (1, .int v1), (2, .int v2), (5, .int (v5 + 1))]) [1, 2, 3, 0] rfl ?_
      exact ih _ _ _ _ h
set_option maxHeartbeats 4000000 in
set_option maxRecDepth 100000 in
theorem t_Mo_type_J103 {E : q_E} {c d : Nat} {ρ : Int32 × q_W} : ∀ (x : q_W) (v1 : Int32) (v2 : Int32) (v4 : Int32) (s0 : Int32), f_Mo_type_J103  x v1 v2 v4 s0 = some ρ → AW E (q_rm 0) m_Mo_type (q_cells E c d x) 0 0 103 [(0, .ref 32), (1, .int v1), (2, .int v2), (4, .int v4)] [.int s0, .ref 32] (q_rS E c d ρ) := by
  intro x v1 v2 v4 s0 h
  unfold f_Mo_type_J103 at h
  refine q_xput 106 d_Mo_type_103 rfl fl_Mo_93 (by decide) rfl rfl rfl rfl (Nat.le_of_ble_eq_true rfl) (fun _ => rfl) h (fun x6 ex6 h => ?_)
  refine q_iload 108 d_Mo_type_106 rfl 3 rfl ?_
  refine q_ite h (fun c8 h => ?_) (fun c8 h => ?_)
  · refine q_if_ne_t 122 d_Mo_type_108 (by decide) c8 ?_
    refine q_iconst (v := 0) 123 d_Mo_type_122 rfl (by decide) ?_
    cases h
    exact q_zret d_Mo_type_123 rfl (Nat.zero_le _) (Nat.zero_le _)
  · refine q_if_ne_f 111 d_Mo_type_108 rfl 122 (by decide) (Classical.not_not.mp c8) ?_
    refine q_aloadn 112 d_Mo_type_111 rfl 0 rfl ?_
    refine q_xget 115 d_Mo_type_112 rfl fl_Mo_96 (by decide) rfl rfl ?_
    refine q_iloadn 116 d_Mo_type_115 rfl 2 rfl ?_
    refine q_iadd 117 d_Mo_type_116 rfl ?_
    refine q_bipush (v := 18) 119 d_Mo_type_117 rfl (by decide) ?_
    refine q_ite h (fun c7 h => ?_) (fun c7 h => ?_)
    · refine q_icmp_le_t 124 d_Mo_type_119 (by decide) c7 ?_
      refine q_iconst (v := 0) 125 d_Mo_type_124 rfl (by decide) ?_
      refine q_istore (lv' := [(5, .int 0), (0, .ref 32), (1, .int v1), (2, .int v2), (4, .int v4)]) 127 d_Mo_type_125 rfl (by decide) rfl ?_
      refine q_sub (lv' := [(0, .ref 32), (1, .int v1), (2, .int v2), (5, .int 0)]) [1, 2, 3, 0] rfl ?_
      exact t_Mo_type_L127  q_fu _ _ _ _ h
    · refine q_icmp_le_f 122 d_Mo_type_119 rfl 124 (by decide) c7 ?_
      refine q_iconst (v := 0) 123 d_Mo_type_122 rfl (by decide) ?_
      cases h
      exact q_zret d_Mo_type_123 rfl (Nat.zero_le _) (Nat.zero_le _)
set_option maxHeartbeats 4000000 in
set_option maxRecDepth 100000 in
theorem t_Mo_type_J72 {E : q_E} {c d : Nat} {ρ : Int32 × q_W} {K10 : q_W → Int32 → Int32 → Int32 → Int32 → Int32 → Option (Int32 × q_W)} {E10 : q_W → Int32 → Int32 → Int32 → Option (Int32 × q_W)} (hK10 : ∀ x v1 v2 v3 v4 v5, K10 x v1 v2 v3 v4 v5 = some ρ → AW E (q_rm 0) m_Mo_type (q_cells E c d x) 0 0 10 [(0, .ref 32), (1, .int v1), (2, .int v2), (3, .int v3), (4, .int v4), (5, .int v5)] [] (q_rS E c d ρ)) (hE10 : ∀ x u1 u2 u4, E10 x u1 u2 u4 = some ρ → AW E (q_rm 0) m_Mo_type (q_cells E c d x) 0 0 92 [(0, .ref 32), (1, .int u1), (2, .int u2), (4, .int u4)] [] (q_rS E c d ρ)) : ∀ (x : q_W) (v1 : Int32) (v2 : Int32) (v3 : Int32) (v5 : Int32) (s0 : Int32), f_Mo_type_J72 K10 E10 x v1 v2 v3 v5 s0 = some ρ → AW E (q_rm 0) m_Mo_type (q_cells E c d x) 0 0 72 [(0, .ref 32), (1, .int v1), (2, .int v2), (3, .int v3), (5, .int v5)] [.int s0] (q_rS E c d ρ) := by
  intro x v1 v2 v3 v5 s0 h
  unfold f_Mo_type_J72 at h
  refine q_istore (lv' := [(4, .int s0), (0, .ref 32), (1, .int v1), (2, .int v2), (3, .int v3), (5, .int v5)]) 74 d_Mo_type_72 rfl (by decide) rfl ?_
  refine q_iloadn 75 d_Mo_type_74 rfl 4 rfl ?_
  refine q_ite h (fun c21 h => ?_) (fun c21 h => ?_)
  · refine q_if_eq_t 84 d_Mo_type_75 (by decide) c21 ?_
    refine q_iloadn 85 d_Mo_type_84 rfl 3 rfl ?_
    refine q_istoren (lv' := [(2, .int v2), (4, .int s0), (0, .ref 32), (1, .int v1), (3, .int v3), (5, .int v5)]) 86 d_Mo_type_85 rfl (by decide) rfl ?_
    refine q_iinc (v := (v5 + 1)) (lv' := [(5, .int (v5 + 1)), (2, .int v2), (4, .int s0), (0, .ref 32), (1, .int v1), (3, .int v3)]) 89 d_Mo_type_86 rfl 5 rfl (q_ai (by decide)) (by decide) rfl ?_
    refine q_goto 10 d_Mo_type_89 (by decide) ?_
    refine q_sub (lv' := [(0, .ref 32), (1, .int v1), (2, .int v2), (3, .int v3), (4, .int s0), (5, .int (v5 + 1))]) [3, 4, 1, 5, 2, 0] rfl ?_
    exact hK10 _ _ _ _ _ _ h
  · refine q_if_eq_f 78 d_Mo_type_75 rfl 84 (by decide) c21 ?_
    refine q_iloadn 79 d_Mo_type_78 rfl 3 rfl ?_
    refine q_iconst (v := 1) 80 d_Mo_type_79 rfl (by decide) ?_
    refine q_iadd 81 d_Mo_type_80 rfl ?_
    refine q_goto 85 d_Mo_type_81 (by decide) ?_
    refine q_xtop h (fun z20 ez20 h => ?_)
    refine q_istoren (lv' := [(2, .int z20), (4, .int s0), (0, .ref 32), (1, .int v1), (3, .int v3), (5, .int v5)]) 86 d_Mo_type_85 rfl (by decide) rfl ?_
    refine q_iinc (v := (v5 + 1)) (lv' := [(5, .int (v5 + 1)), (2, .int z20), (4, .int s0), (0, .ref 32), (1, .int v1), (3, .int v3)]) 89 d_Mo_type_86 rfl 5 rfl (q_ai (by decide)) (by decide) rfl ?_
    refine q_goto 10 d_Mo_type_89 (by decide) ?_
    refine q_sub (lv' := [(0, .ref 32), (1, .int v1), (2, .int z20), (3, .int v3), (4, .int s0), (5, .int (v5 + 1))]) [3, 4, 1, 5, 2, 0] rfl ?_
    exact hK10 _ _ _ _ _ _ h
set_option maxHeartbeats 4000000 in
set_option maxRecDepth 100000 in
theorem t_Mo_type_J71 {E : q_E} {c d : Nat} {ρ : Int32 × q_W} {K10 : q_W → Int32 → Int32 → Int32 → Int32 → Int32 → Option (Int32 × q_W)} {E10 : q_W → Int32 → Int32 → Int32 → Option (Int32 × q_W)} (hK10 : ∀ x v1 v2 v3 v4 v5, K10 x v1 v2 v3 v4 v5 = some ρ → AW E (q_rm 0) m_Mo_type (q_cells E c d x) 0 0 10 [(0, .ref 32), (1, .int v1), (2, .int v2), (3, .int v3), (4, .int v4), (5, .int v5)] [] (q_rS E c d ρ)) (hE10 : ∀ x u1 u2 u4, E10 x u1 u2 u4 = some ρ → AW E (q_rm 0) m_Mo_type (q_cells E c d x) 0 0 92 [(0, .ref 32), (1, .int u1), (2, .int u2), (4, .int u4)] [] (q_rS E c d ρ)) : ∀ (x : q_W) (v1 : Int32) (v2 : Int32) (v3 : Int32) (v5 : Int32), f_Mo_type_J71 K10 E10 x v1 v2 v3 v5 = some ρ → AW E (q_rm 0) m_Mo_type (q_cells E c d x) 0 0 71 [(0, .ref 32), (1, .int v1), (2, .int v2), (3, .int v3), (5, .int v5)] [] (q_rS E c d ρ) := by
  intro x v1 v2 v3 v5 h
  unfold f_Mo_type_J71 at h
  refine q_iconst (v := 0) 72 d_Mo_type_71 rfl (by decide) ?_
  exact t_Mo_type_J72 hK10 hE10 _ _ _ _ _ _ h
set_option maxHeartbeats 4000000 in
set_option maxRecDepth 100000 in
theorem t_Mo_type_J67 {E : q_E} {c d : Nat} {ρ : Int32 × q_W} {K10 : q_W → Int32 → Int32 → Int32 → Int32 → Int32 → Option (Int32 × q_W)} {E10 : q_W → Int32 → Int32 → Int32 → Option (Int32 × q_W)} (hK10 : ∀ x v1 v2 v3 v4 v5, K10 x v1 v2 v3 v4 v5 = some ρ → AW E (q_rm 0) m_Mo_type (q_cells E c d x) 0 0 10 [(0, .ref 32), (1, .int v1), (2, .int v2), (3, .int v3), (4, .int v4), (5, .int v5)] [] (q_rS E c d ρ)) (hE10 : ∀ x u1 u2 u4, E10 x u1 u2 u4 = some ρ → AW E (q_rm 0) m_Mo_type (q_cells E c d x) 0 0 92 [(0, .ref 32), (1, .int u1), (2, .int u2), (4, .int u4)] [] (q_rS E c d ρ)) : ∀ (x : q_W) (v1 : Int32) (v2 : Int32) (v3 : Int32) (v5 : Int32), f_Mo_type_J67 K10 E10 x v1 v2 v3 v5 = some ρ → AW E (q_rm 0) m_Mo_type (q_cells E c d x) 0 0 67 [(0, .ref 32), (1, .int v1), (2, .int v2), (3, .int v3), (5, .int v5)] [] (q_rS E c d ρ) := by
  intro x v1 v2 v3 v5 h
  unfold f_Mo_type_J67 at h
  refine q_iconst (v := 1) 68 d_Mo_type_67 rfl (by decide) ?_
  refine q_goto 72 d_Mo_type_68 (by decide) ?_
  exact t_Mo_type_J72 hK10 hE10 _ _ _ _ _ _ h
set_option maxHeartbeats 4000000 in
set_option maxRecDepth 100000 in
theorem t_Mo_type_J43 {E : q_E} {c d : Nat} {ρ : Int32 × q_W} {K10 : q_W → Int32 → Int32 → Int32 → Int32 → Int32 → Option (Int32 × q_W)} {E10 : q_W → Int32 → Int32 → Int32 → Option (Int32 × q_W)} (hK10 : ∀ x v1 v2 v3 v4 v5, K10 x v1 v2 v3 v4 v5 = some ρ → AW E (q_rm 0) m_Mo_type (q_cells E c d x) 0 0 10 [(0, .ref 32), (1, .int v1), (2, .int v2), (3, .int v3), (4, .int v4), (5, .int v5)] [] (q_rS E c d ρ)) (hE10 : ∀ x u1 u2 u4, E10 x u1 u2 u4 = some ρ → AW E (q_rm 0) m_Mo_type (q_cells E c d x) 0 0 92 [(0, .ref 32), (1, .int u1), (2, .int u2), (4, .int u4)] [] (q_rS E c d ρ)) : ∀ (x : q_W) (v1 : Int32) (v2 : Int32) (v4 : Int32) (v5 : Int32) (v6 : Int32) (s0 : Int32), f_Mo_type_J43 K10 E10 x v1 v2 v4 v5 v6 s0 = some ρ → AW E (q_rm 0) m_Mo_type (q_cells E c d x) 0 0 43 [(0, .ref 32), (1, .int v1), (2, .int v2), (4, .int v4), (5, .int v5), (6, .int v6)] [.int s0] (q_rS E c d ρ) := by
  intro x v1 v2 v4 v5 v6 s0 h
  unfold f_Mo_type_J43 at h
  refine q_istoren (lv' := [(3, .int s0), (0, .ref 32), (1, .int v1), (2, .int v2), (4, .int v4), (5, .int v5), (6, .int v6)]) 44 d_Mo_type_43 rfl (by decide) rfl ?_
  refine q_iload 46 d_Mo_type_44 rfl 4 rfl ?_
  refine q_ite h (fun c19 h => ?_) (fun c19 h => ?_)
  · refine q_if_ne_t 67 d_Mo_type_46 (by decide) c19 ?_
    refine q_sub (lv' := [(0, .ref 32), (1, .int v1), (2, .int v2), (3, .int s0), (5, .int v5)]) [1, 2, 3, 0, 5] rfl ?_
    exact t_Mo_type_J67 hK10 hE10 _ _ _ _ _ h
  · refine q_if_ne_f 49 d_Mo_type_46 rfl 67 (by decide) (Classical.not_not.mp c19) ?_
    refine q_iloadn 50 d_Mo_type_49 rfl 0 rfl ?_
    refine q_ite h (fun c18 h => ?_) (fun c18 h => ?_)
    · refine q_if_eq_t 71 d_Mo_type_50 (by decide) c18 ?_
      refine q_sub (lv' := [(0, .ref 32), (1, .int v1), (2, .int v2), (3, .int s0), (5, .int v5)]) [1, 2, 3, 0, 5] rfl ?_
      exact t_Mo_type_J71 hK10 hE10 _ _ _ _ _ h
    · refine q_if_eq_f 53 d_Mo_type_50 rfl 71 (by decide) c18 ?_
      refine q_iload 55 d_Mo_type_53 rfl 6 rfl ?_
      refine q_bipush (v := 33) 57 d_Mo_type_55 rfl (by decide) ?_
      refine q_ite h (fun c17 h => ?_) (fun c17 h => ?_)
      · refine q_icmp_lt_t 67 d_Mo_type_57 (by decide) c17 ?_
        refine q_sub (lv' := [(0, .ref 32), (1, .int v1), (2, .int v2), (3, .int s0), (5, .int v5)]) [1, 2, 3, 0, 5] rfl ?_
        exact t_Mo_type_J67 hK10 hE10 _ _ _ _ _ h
      · refine q_icmp_lt_f 60 d_Mo_type_57 rfl 67 (by decide) c17 ?_
        refine q_iload 62 d_Mo_type_60 rfl 6 rfl ?_
        refine q_bipush (v := 126) 64 d_Mo_type_62 rfl (by decide) ?_
        refine q_ite h (fun c16 h => ?_) (fun c16 h => ?_)
        · refine q_icmp_le_t 71 d_Mo_type_64 (by decide) c16 ?_
          refine q_sub (lv' := [(0, .ref 32), (1, .int v1), (2, .int v2), (3, .int s0), (5, .int v5)]) [1, 2, 3, 0, 5] rfl ?_
          exact t_Mo_type_J71 hK10 hE10 _ _ _ _ _ h
        · refine q_icmp_le_f 67 d_Mo_type_64 rfl 71 (by decide) c16 ?_
          refine q_sub (lv' := [(0, .ref 32), (1, .int v1), (2, .int v2), (3, .int s0), (5, .int v5)]) [1, 2, 3, 0, 5] rfl ?_
          exact t_Mo_type_J67 hK10 hE10 _ _ _ _ _ h
set_option maxHeartbeats 4000000 in
set_option maxRecDepth 100000 in
theorem t_Mo_type_J42 {E : q_E} {c d : Nat} {ρ : Int32 × q_W} {K10 : q_W → Int32 → Int32 → Int32 → Int32 → Int32 → Option (Int32 × q_W)} {E10 : q_W → Int32 → Int32 → Int32 → Option (Int32 × q_W)} (hK10 : ∀ x v1 v2 v3 v4 v5, K10 x v1 v2 v3 v4 v5 = some ρ → AW E (q_rm 0) m_Mo_type (q_cells E c d x) 0 0 10 [(0, .ref 32), (1, .int v1), (2, .int v2), (3, .int v3), (4, .int v4), (5, .int v5)] [] (q_rS E c d ρ)) (hE10 : ∀ x u1 u2 u4, E10 x u1 u2 u4 = some ρ → AW E (q_rm 0) m_Mo_type (q_cells E c d x) 0 0 92 [(0, .ref 32), (1, .int u1), (2, .int u2), (4, .int u4)] [] (q_rS E c d ρ)) : ∀ (x : q_W) (v1 : Int32) (v2 : Int32) (v4 : Int32) (v5 : Int32) (v6 : Int32), f_Mo_type_J42 K10 E10 x v1 v2 v4 v5 v6 = some ρ → AW E (q_rm 0) m_Mo_type (q_cells E c d x) 0 0 42 [(0, .ref 32), (1, .int v1), (2, .int v2), (4, .int v4), (5, .int v5), (6, .int v6)] [] (q_rS E c d ρ) := by
  intro x v1 v2 v4 v5 v6 h
  unfold f_Mo_type_J42 at h
  refine q_iconst (v := 0) 43 d_Mo_type_42 rfl (by decide) ?_
  exact t_Mo_type_J43 hK10 hE10 _ _ _ _ _ _ _ h
set_option maxHeartbeats 4000000 in
set_option maxRecDepth 100000 in
theorem t_Mo_type_L10 {E : q_E} {c d : Nat} {ρ : Int32 × q_W} {E10 : q_W → Int32 → Int32 → Int32 → Option (Int32 × q_W)} (hE10 : ∀ x u1 u2 u4, E10 x u1 u2 u4 = some ρ → AW E (q_rm 0) m_Mo_type (q_cells E c d x) 0 0 92 [(0, .ref 32), (1, .int u1), (2, .int u2), (4, .int u4)] [] (q_rS E c d ρ)) : ∀ (n : Nat) (x : q_W) (v1 : Int32) (v2 : Int32) (v3 : Int32) (v4 : Int32) (v5 : Int32), f_Mo_type_L10 E10 n x v1 v2 v3 v4 v5 = some ρ → AW E (q_rm 0) m_Mo_type (q_cells E c d x) 0 0 10 [(0, .ref 32), (1, .int v1), (2, .int v2), (3, .int v3), (4, .int v4), (5, .int v5)] [] (q_rS E c d ρ) := by
  intro n
  induction n with
  | zero =>
    intro x v1 v2 v3 v4 v5 h
    have h : (none : Option (Int32 × q_W)) = some ρ := h
    cases h
  | succ n ih =>
    intro x v1 v2 v3 v4 v5 h
    unfold f_Mo_type_L10 at h
    refine q_iload 12 d_Mo_type_10 rfl 5 rfl ?_
    refine q_iconst (v := 4) 13 d_Mo_type_12 rfl (by decide) ?_
    refine q_ite h (fun c12 h => ?_) (fun c12 h => ?_)
    · refine q_icmp_ge_t 92 d_Mo_type_13 (by decide) c12 ?_
      refine q_sub (lv' := [(0, .ref 32), (1, .int v1), (2, .int v2), (4, .int v4)]) [0, 1, 2, 4] rfl ?_
      exact hE10 _ _ _ _ h
    · refine q_icmp_ge_f 16 d_Mo_type_13 rfl 92 (by decide) c12 ?_
      refine q_iloadn 17 d_Mo_type_16 rfl 1 rfl ?_
      refine q_bipush (v := 8) 19 d_Mo_type_17 rfl (by decide) ?_
      refine q_iload 21 d_Mo_type_19 rfl 5 rfl ?_
      refine q_imul 22 d_Mo_type_21 rfl ?_
      refine q_ishr 23 d_Mo_type_22 rfl ?_
      refine q_sipush (v := 255) 26 d_Mo_type_23 rfl (by decide) ?_
      refine q_iand 27 d_Mo_type_26 rfl ?_
      refine q_xtop h (fun z9 ez9 h => ?_)
      refine q_istore (lv' := [(6, .int z9), (0, .ref 32), (1, .int v1), (2, .int v2), (3, .int v3), (4, .int v4), (5, .int v5)]) 29 d_Mo_type_27 rfl (by decide) rfl ?_
      refine q_iloadn 30 d_Mo_type_29 rfl 4 rfl ?_
      refine q_ite h (fun c11 h => ?_) (fun c11 h => ?_)
      · refine q_if_eq_t 42 d_Mo_type_30 (by decide) c11 ?_
        refine q_sub (lv' := [(0, .ref 32), (1, .int v1), (2, .int v2), (4, .int v4), (5, .int v5), (6, .int z9)]) [1, 2, 3, 5, 6, 0] rfl ?_
        exact t_Mo_type_J42 ih hE10 _ _ _ _ _ _ h
      · refine q_if_eq_f 33 d_Mo_type_30 rfl 42 (by decide) c11 ?_
        refine q_iload 35 d_Mo_type_33 rfl 0 rfl ?_
        refine q_ite h (fun c10 h => ?_) (fun c10 h => ?_)
        · refine q_if_eq_t 42 d_Mo_type_35 (by decide) c10 ?_
          refine q_sub (lv' := [(0, .ref 32), (1, .int v1), (2, .int v2), (4, .int v4), (5, .int v5), (6, .int z9)]) [1, 2, 3, 5, 6, 0] rfl ?_
          exact t_Mo_type_J42 ih hE10 _ _ _ _ _ _ h
        · refine q_if_eq_f 38 d_Mo_type_35 rfl 42 (by decide) c10 ?_
          refine q_iconst (v := 1) 39 d_Mo_type_38 rfl (by decide) ?_
          refine q_goto 43 d_Mo_type_39 (by decide) ?_
          refine q_sub (lv' := [(0, .ref 32), (1, .int v1), (2, .int v2), (4, .int v4), (5, .int v5), (6, .int z9)]) [1, 2, 3, 5, 6, 0] rfl ?_
          exact t_Mo_type_J43 ih hE10 _ _ _ _ _ _ _ h
set_option maxHeartbeats 4000000 in
set_option maxRecDepth 100000 in
theorem t_Mo_type {E : q_E} {c d : Nat} {x : q_W} {a1 : Int32} {ρ : Int32 × q_W} (h : f_Mo_type x a1 = some ρ) : q_Ct E y_Mo_type m_Mo_type (q_rm 0) (q_cells E c d x) [.ref 32, .int a1] (q_rS E c d ρ) := by
  unfold f_Mo_type at h
  refine q_Ct.of (lv := [(0, .ref 32), (1, .int a1)]) (by decide) ⟨rfl, rfl⟩ rfl (Nat.le_of_ble_eq_true rfl) ?_
  refine q_iconst (v := 0) 1 d_Mo_type_0 rfl (by decide) ?_
  refine q_istoren (lv' := [(2, .int 0), (0, .ref 32), (1, .int a1)]) 2 d_Mo_type_1 rfl (by decide) rfl ?_
  refine q_iconst (v := 1) 3 d_Mo_type_2 rfl (by decide) ?_
  refine q_istoren (lv' := [(3, .int 1), (2, .int 0), (0, .ref 32), (1, .int a1)]) 4 d_Mo_type_3 rfl (by decide) rfl ?_
  refine q_iconst (v := 0) 5 d_Mo_type_4 rfl (by decide) ?_
  refine q_istore (lv' := [(4, .int 0), (3, .int 1), (2, .int 0), (0, .ref 32), (1, .int a1)]) 7 d_Mo_type_5 rfl (by decide) rfl ?_
  refine q_iconst (v := 0) 8 d_Mo_type_7 rfl (by decide) ?_
  refine q_istore (lv' := [(5, .int 0), (4, .int 0), (3, .int 1), (2, .int 0), (0, .ref 32), (1, .int a1)]) 10 d_Mo_type_8 rfl (by decide) rfl ?_
  refine q_sub (lv' := [(0, .ref 32), (1, .int a1), (2, .int 0), (3, .int 1), (4, .int 0), (5, .int 0)]) [4, 5, 3, 2, 1, 0] rfl ?_
  refine t_Mo_type_L10 (fun x1 u2 u3 u4 h => ?_) q_fu _ _ _ _ _ _ h
  refine q_aloadn 93 d_Mo_type_92 rfl 0 rfl ?_
  refine q_iload 95 d_Mo_type_93 rfl 3 rfl ?_
  refine q_ite h (fun c5 h => ?_) (fun c5 h => ?_)
  · refine q_if_eq_t 102 d_Mo_type_95 (by decide) c5 ?_
    refine q_iconst (v := 0) 103 d_Mo_type_102 rfl (by decide) ?_
    exact t_Mo_type_J103  _ _ _ _ _ h
  · refine q_if_eq_f 98 d_Mo_type_95 rfl 102 (by decide) c5 ?_
    refine q_iconst (v := 1) 99 d_Mo_type_98 rfl (by decide) ?_
    refine q_goto 103 d_Mo_type_99 (by decide) ?_
    exact t_Mo_type_J103  _ _ _ _ _ h
set_option maxHeartbeats 4000000 in
set_option maxRecDepth 100000 in
theorem t_Mo_tightness {E : q_E} {c d : Nat} {x : q_W} {a0 : Int32} {ρ : Int32} (h : f_Mo_tightness x a0 = some ρ) : q_Ct E y_Mo_tightness m_Mo_tightness (q_rm 0) (q_cells E c d x) [.int a0] (q_rP E c d x ρ) := by
  unfold f_Mo_tightness at h
  refine q_Ct.of (lv := [(0, .int a0)]) (by decide) ⟨rfl, rfl⟩ rfl (Nat.le_of_ble_eq_true rfl) ?_
  refine q_iloadn 1 d_Mo_tightness_0 rfl 0 rfl ?_
  refine q_bipush (v := 9) 3 d_Mo_tightness_1 rfl (by decide) ?_
  refine q_ite h (fun c5 h => ?_) (fun c5 h => ?_)
  · refine q_icmp_ge_t 10 d_Mo_tightness_3 (by decide) c5 ?_
    refine q_iloadn 11 d_Mo_tightness_10 rfl 0 rfl ?_
    refine q_bipush (v := 11) 13 d_Mo_tightness_11 rfl (by decide) ?_
    refine q_ite h (fun c4 h => ?_) (fun c4 h => ?_)
    · refine q_icmp_ge_t 20 d_Mo_tightness_13 (by decide) c4 ?_
      refine q_iloadn 21 d_Mo_tightness_20 rfl 0 rfl ?_
      refine q_bipush (v := 11) 23 d_Mo_tightness_21 rfl (by decide) ?_
      refine q_ite h (fun c3 h => ?_) (fun c3 h => ?_)
      · refine q_icmp_ne_t 30 d_Mo_tightness_23 (by decide) c3 ?_
        refine q_iloadn 31 d_Mo_tightness_30 rfl 0 rfl ?_
        refine q_bipush (v := 12) 33 d_Mo_tightness_31 rfl (by decide) ?_
        refine q_ite h (fun c2 h => ?_) (fun c2 h => ?_)
        · refine q_icmp_ne_t 40 d_Mo_tightness_33 (by decide) c2 ?_
          refine q_iloadn 41 d_Mo_tightness_40 rfl 0 rfl ?_
          refine q_bipush (v := 13) 43 d_Mo_tightness_41 rfl (by decide) ?_
          refine q_ite h (fun c1 h => ?_) (fun c1 h => ?_)
          · refine q_icmp_ne_t 50 d_Mo_tightness_43 (by decide) c1 ?_
            refine q_iconst (v := 0) 51 d_Mo_tightness_50 rfl (by decide) ?_
            cases h
            exact q_iret d_Mo_tightness_51 rfl (Nat.zero_le _) (Nat.zero_le _)
          · refine q_icmp_ne_f 46 d_Mo_tightness_43 rfl 50 (by decide) (Classical.not_not.mp c1) ?_
            refine q_iconst (v := 1) 47 d_Mo_tightness_46 rfl (by decide) ?_
            refine q_goto 51 d_Mo_tightness_47 (by decide) ?_
            cases h
            exact q_iret d_Mo_tightness_51 rfl (Nat.zero_le _) (Nat.zero_le _)
        · refine q_icmp_ne_f 36 d_Mo_tightness_33 rfl 40 (by decide) (Classical.not_not.mp c2) ?_
          refine q_iconst (v := 2) 37 d_Mo_tightness_36 rfl (by decide) ?_
          refine q_goto 51 d_Mo_tightness_37 (by decide) ?_
          cases h
          exact q_iret d_Mo_tightness_51 rfl (Nat.zero_le _) (Nat.zero_le _)
      · refine q_icmp_ne_f 26 d_Mo_tightness_23 rfl 30 (by decide) (Classical.not_not.mp c3) ?_
        refine q_iconst (v := 3) 27 d_Mo_tightness_26 rfl (by decide) ?_
        refine q_goto 51 d_Mo_tightness_27 (by decide) ?_
        cases h
        exact q_iret d_Mo_tightness_51 rfl (Nat.zero_le _) (Nat.zero_le _)
    · refine q_icmp_ge_f 16 d_Mo_tightness_13 rfl 20 (by decide) c4 ?_
      refine q_iconst (v := 4) 17 d_Mo_tightness_16 rfl (by decide) ?_
      refine q_goto 51 d_Mo_tightness_17 (by decide) ?_
      cases h
      exact q_iret d_Mo_tightness_51 rfl (Nat.zero_le _) (Nat.zero_le _)
  · refine q_icmp_ge_f 6 d_Mo_tightness_3 rfl 10 (by decide) c5 ?_
    refine q_iconst (v := 5) 7 d_Mo_tightness_6 rfl (by decide) ?_
    refine q_goto 51 d_Mo_tightness_7 (by decide) ?_
    cases h
    exact q_iret d_Mo_tightness_51 rfl (Nat.zero_le _) (Nat.zero_le _)
set_option maxHeartbeats 4000000 in
set_option maxRecDepth 100000 in
theorem t_Mo_isTemporal {E : q_E} {c d : Nat} {x : q_W} {a0 : Int32} {ρ : Int32} (h : f_Mo_isTemporal x a0 = some ρ) : q_Ct E y_Mo_isTemporal m_Mo_isTemporal (q_rm 0) (q_cells E c d x) [.int a0] (q_rP E c d x ρ) := by
  unfold f_Mo_isTemporal at h
  refine q_Ct.of (lv := [(0, .int a0)]) (by decide) ⟨rfl, rfl⟩ rfl (Nat.le_of_ble_eq_true rfl) ?_
  refine q_iloadn 1 d_Mo_isTemporal_0 rfl 0 rfl ?_
  refine q_bipush (v := 6) 3 d_Mo_isTemporal_1 rfl (by decide) ?_
  refine q_ite h (fun c2 h => ?_) (fun c2 h => ?_)
  · refine q_icmp_lt_t 16 d_Mo_isTemporal_3 (by decide) c2 ?_
    refine q_iconst (v := 0) 17 d_Mo_isTemporal_16 rfl (by decide) ?_
    cases h
    exact q_zret d_Mo_isTemporal_17 rfl (Nat.zero_le _) (Nat.zero_le _)
  · refine q_icmp_lt_f 6 d_Mo_isTemporal_3 rfl 16 (by decide) c2 ?_
    refine q_iloadn 7 d_Mo_isTemporal_6 rfl 0 rfl ?_
    refine q_bipush (v := 10) 9 d_Mo_isTemporal_7 rfl (by decide) ?_
    refine q_ite h (fun c1 h => ?_) (fun c1 h => ?_)
    · refine q_icmp_gt_t 16 d_Mo_isTemporal_9 (by decide) c1 ?_
      refine q_iconst (v := 0) 17 d_Mo_isTemporal_16 rfl (by decide) ?_
      cases h
      exact q_zret d_Mo_isTemporal_17 rfl (Nat.zero_le _) (Nat.zero_le _)
    · refine q_icmp_gt_f 12 d_Mo_isTemporal_9 rfl 16 (by decide) c1 ?_
      refine q_iconst (v := 1) 13 d_Mo_isTemporal_12 rfl (by decide) ?_
      refine q_goto 17 d_Mo_isTemporal_13 (by decide) ?_
      cases h
      exact q_zret d_Mo_isTemporal_17 rfl (Nat.zero_le _) (Nat.zero_le _)
set_option maxHeartbeats 4000000 in
set_option maxRecDepth 100000 in
theorem t_Mo_part {E : q_E} {c d : Nat} {x : q_W} {a1 : Int32} {a2 : Int32} {a3 : Int32} {a4 : Int32} {ρ : q_W} (h : f_Mo_part x a1 a2 a3 a4 = some ρ) : q_Ct E y_Mo_part m_Mo_part (q_rm 0) (q_cells E c d x) [.ref 32, .int a1, .int a2, .int a3, .int a4] (q_rV E c d ρ) := by
  unfold f_Mo_part at h
  refine q_Ct.of (lv := [(0, .ref 32), (1, .int a1), (2, .int a2), (3, .int a3), (4, .int a4)]) (by decide) ⟨rfl, rfl⟩ rfl (Nat.le_of_ble_eq_true rfl) ?_
  refine q_aloadn 1 d_Mo_part_0 rfl 0 rfl ?_
  refine q_xget 4 d_Mo_part_1 rfl fl_Mo_31 (by decide) rfl rfl ?_
  refine q_aloadn 5 d_Mo_part_4 rfl 0 rfl ?_
  refine q_xget 8 d_Mo_part_5 rfl fl_Mo_99 (by decide) rfl rfl ?_
  refine q_iloadn 9 d_Mo_part_8 rfl 1 rfl ?_
  refine q_xiast 10 d_Mo_part_9 rfl (by decide) (fun _ => rfl) h (fun x1 ex1 h => ?_)
  refine q_aloadn 11 d_Mo_part_10 rfl 0 rfl ?_
  refine q_xget 14 d_Mo_part_11 rfl fl_Mo_40 (by decide) rfl rfl ?_
  refine q_aloadn 15 d_Mo_part_14 rfl 0 rfl ?_
  refine q_xget 18 d_Mo_part_15 rfl fl_Mo_99 (by decide) rfl rfl ?_
  refine q_iloadn 19 d_Mo_part_18 rfl 2 rfl ?_
  refine q_xiast 20 d_Mo_part_19 rfl (by decide) (fun _ => rfl) h (fun x2 ex2 h => ?_)
  refine q_aloadn 21 d_Mo_part_20 rfl 0 rfl ?_
  refine q_xget 24 d_Mo_part_21 rfl fl_Mo_34 (by decide) rfl rfl ?_
  refine q_aloadn 25 d_Mo_part_24 rfl 0 rfl ?_
  refine q_xget 28 d_Mo_part_25 rfl fl_Mo_99 (by decide) rfl rfl ?_
  refine q_iloadn 29 d_Mo_part_28 rfl 3 rfl ?_
  refine q_xiast 30 d_Mo_part_29 rfl (by decide) (fun _ => rfl) h (fun x3 ex3 h => ?_)
  refine q_aloadn 31 d_Mo_part_30 rfl 0 rfl ?_
  refine q_xget 34 d_Mo_part_31 rfl fl_Mo_37 (by decide) rfl rfl ?_
  refine q_aloadn 35 d_Mo_part_34 rfl 0 rfl ?_
  refine q_xget 38 d_Mo_part_35 rfl fl_Mo_99 (by decide) rfl rfl ?_
  refine q_iload 40 d_Mo_part_38 rfl 4 rfl ?_
  refine q_xiast 41 d_Mo_part_40 rfl (by decide) (fun _ => rfl) h (fun x4 ex4 h => ?_)
  refine q_aloadn 42 d_Mo_part_41 rfl 0 rfl ?_
  refine q_xget 45 d_Mo_part_42 rfl fl_Mo_43 (by decide) rfl rfl ?_
  refine q_aloadn 46 d_Mo_part_45 rfl 0 rfl ?_
  refine q_xget 49 d_Mo_part_46 rfl fl_Mo_102 (by decide) rfl rfl ?_
  refine q_aloadn 50 d_Mo_part_49 rfl 0 rfl ?_
  refine q_xget 53 d_Mo_part_50 rfl fl_Mo_99 (by decide) rfl rfl ?_
  refine q_xiast 54 d_Mo_part_53 rfl (by decide) (fun _ => rfl) h (fun x5 ex5 h => ?_)
  refine q_aloadn 55 d_Mo_part_54 rfl 0 rfl ?_
  refine q_dup 56 d_Mo_part_55 rfl rfl ?_
  refine q_xget 59 d_Mo_part_56 rfl fl_Mo_102 (by decide) rfl rfl ?_
  refine q_iconst (v := 1) 60 d_Mo_part_59 rfl (by decide) ?_
  refine q_iadd 61 d_Mo_part_60 rfl ?_
  refine q_xput 64 d_Mo_part_61 rfl fl_Mo_102 (by decide) rfl rfl rfl rfl (Nat.le_of_ble_eq_true rfl) (fun _ => rfl) h (fun x6 ex6 h => ?_)
  refine q_aloadn 65 d_Mo_part_64 rfl 0 rfl ?_
  refine q_dup 66 d_Mo_part_65 rfl rfl ?_
  refine q_xget 69 d_Mo_part_66 rfl fl_Mo_99 (by decide) rfl rfl ?_
  refine q_iconst (v := 1) 70 d_Mo_part_69 rfl (by decide) ?_
  refine q_iadd 71 d_Mo_part_70 rfl ?_
  refine q_xput 74 d_Mo_part_71 rfl fl_Mo_99 (by decide) rfl rfl rfl rfl (Nat.le_of_ble_eq_true rfl) (fun _ => rfl) h (fun x7 ex7 h => ?_)
  cases h
  exact q_vret d_Mo_part_74 rfl (Nat.zero_le _) (Nat.zero_le _)
set_option maxHeartbeats 4000000 in
set_option maxRecDepth 100000 in
theorem t_Mo_taken {E : q_E} {c d : Nat} {x : q_W} {ρ : Int32 × q_W} (h : f_Mo_taken x = some ρ) : q_Ct E y_Mo_taken m_Mo_taken (q_rm 0) (q_cells E c d x) [.ref 32] (q_rS E c d ρ) := by
  unfold f_Mo_taken at h
  refine q_Ct.of (lv := [(0, .ref 32)]) (by decide) ⟨rfl, rfl⟩ rfl (Nat.le_of_ble_eq_true rfl) ?_
  refine q_aloadn 1 d_Mo_taken_0 rfl 0 rfl ?_
  refine q_dup 2 d_Mo_taken_1 rfl rfl ?_
  refine q_xget 5 d_Mo_taken_2 rfl fl_Mo_102 (by decide) rfl rfl ?_
  refine q_iconst (v := 1) 6 d_Mo_taken_5 rfl (by decide) ?_
  refine q_isub 7 d_Mo_taken_6 rfl ?_
  refine q_xput 10 d_Mo_taken_7 rfl fl_Mo_102 (by decide) rfl rfl rfl rfl (Nat.le_of_ble_eq_true rfl) (fun _ => rfl) h (fun x1 ex1 h => ?_)
  refine q_aloadn 11 d_Mo_taken_10 rfl 0 rfl ?_
  refine q_xget 14 d_Mo_taken_11 rfl fl_Mo_43 (by decide) rfl rfl ?_
  refine q_aloadn 15 d_Mo_taken_14 rfl 0 rfl ?_
  refine q_xget 18 d_Mo_taken_15 rfl fl_Mo_102 (by decide) rfl rfl ?_
  refine q_xiald 19 d_Mo_taken_18 rfl (by decide) (fun _ => rfl) h (fun w2 ew2 h => ?_)
  cases h
  exact q_iret d_Mo_taken_19 rfl (Nat.zero_le _) (Nat.zero_le _)
set_option maxHeartbeats 4000000 in
set_option maxRecDepth 100000 in
theorem t_Mo_settle_J70 {E : q_E} {c d : Nat} {ρ : q_W} {K0 : q_W → Int32 → Option q_W} (hK0 : ∀ x v1, K0 x v1 = some ρ → AW E (q_rm 1) m_Mo_settle (q_cells E c d x) 0 0 0 [(0, .ref 32), (1, .int v1)] [] (q_rV E c d ρ)) : ∀ (x : q_W) (v1 : Int32) (v2 : Int32) (v3 : Int32) (s0 : Int32), f_Mo_settle_J70 K0 x v1 v2 v3 s0 = some ρ → AW E (q_rm 1) m_Mo_settle (q_cells E c d x) 0 0 70 [(0, .ref 32), (1, .int v1), (2, .int v2), (3, .int v3)] [.int s0] (q_rV E c d ρ) := by
  intro x v1 v2 v3 s0 h
  unfold f_Mo_settle_J70 at h
  refine q_istore (lv' := [(4, .int s0), (0, .ref 32), (1, .int v1), (2, .int v2), (3, .int v3)]) 72 d_Mo_settle_70 rfl (by decide) rfl ?_
  refine q_aloadn 73 d_Mo_settle_72 rfl 1 rfl ?_
  refine q_iloadn 74 d_Mo_settle_73 rfl 3 rfl ?_
  refine q_aloadn 75 d_Mo_settle_74 rfl 1 rfl ?_
  refine q_xget 78 d_Mo_settle_75 rfl fl_Mo_46 (by decide) rfl rfl ?_
  refine q_aloadn 79 d_Mo_settle_78 rfl 1 rfl ?_
  refine q_xget 82 d_Mo_settle_79 rfl fl_Mo_105 (by decide) rfl rfl ?_
  refine q_xiald 83 d_Mo_settle_82 rfl (by decide) (fun _ => rfl) h (fun w11 ew11 h => ?_)
  refine q_iconst (v := 4) 84 d_Mo_settle_83 rfl (by decide) ?_
  refine q_ishr 85 d_Mo_settle_84 rfl ?_
  refine q_iload 87 d_Mo_settle_85 rfl 0 rfl ?_
  refine q_iloadn 88 d_Mo_settle_87 rfl 4 rfl ?_
  refine q_xcallV (as := [.ref 32, .int v2, .int (w11 >>> (4 &&& 31)), .int s0, .int v3]) (rest := []) 91 h (fun z e => t_Mo_part e) (q_xinvV (Y := m_Mo_part) d_Mo_settle_88 ml_Mo_116 ms_Mo_part.1 ms_Mo_part.2 k_Mo_part.1 (by decide) n_Mo_part (by decide) rfl rfl) k_Mo_part (q_ro (by decide) (by decide)) (Nat.le_of_ble_eq_true rfl) d_Mo_settle_88 rfl rfl rfl (fun x12 ex12 h => ?_)
  refine q_goto 0 d_Mo_settle_91 (by decide) ?_
  refine q_sub (lv' := [(0, .ref 32), (1, .int v1)]) [1, 2] rfl ?_
  exact hK0 _ _ h
set_option maxHeartbeats 4000000 in
set_option maxRecDepth 100000 in
theorem t_Mo_settle_L0 {E : q_E} {c d : Nat} {ρ : q_W} : ∀ (n : Nat) (x : q_W) (v1 : Int32), f_Mo_settle_L0  n x v1 = some ρ → AW E (q_rm 1) m_Mo_settle (q_cells E c d x) 0 0 0 [(0, .ref 32), (1, .int v1)] [] (q_rV E c d ρ) := by
  intro n
  induction n with
  | zero =>
    intro x v1 h
    have h : (none : Option q_W) = some ρ := h
    cases h
  | succ n ih =>
    intro x v1 h
    unfold f_Mo_settle_L0 at h
    refine q_aloadn 1 d_Mo_settle_0 rfl 0 rfl ?_
    refine q_xget 4 d_Mo_settle_1 rfl fl_Mo_105 (by decide) rfl rfl ?_
    refine q_ite h (fun c10 h => ?_) (fun c10 h => ?_)
    · refine q_if_le_t 94 d_Mo_settle_4 (by decide) c10 ?_
      cases h
      exact q_vret d_Mo_settle_94 rfl (Nat.zero_le _) (Nat.zero_le _)
    · refine q_if_le_f 7 d_Mo_settle_4 rfl 94 (by decide) c10 ?_
      refine q_aloadn 8 d_Mo_settle_7 rfl 0 rfl ?_
      refine q_xget 11 d_Mo_settle_8 rfl fl_Mo_46 (by decide) rfl rfl ?_
      refine q_aloadn 12 d_Mo_settle_11 rfl 0 rfl ?_
      refine q_xget 15 d_Mo_settle_12 rfl fl_Mo_105 (by decide) rfl rfl ?_
      refine q_iconst (v := 1) 16 d_Mo_settle_15 rfl (by decide) ?_
      refine q_isub 17 d_Mo_settle_16 rfl ?_
      refine q_xiald 18 d_Mo_settle_17 rfl (by decide) (fun _ => rfl) h (fun w1 ew1 h => ?_)
      refine q_bipush (v := 15) 20 d_Mo_settle_18 rfl (by decide) ?_
      refine q_iand 21 d_Mo_settle_20 rfl ?_
      refine q_xcallP (as := [.int (w1 &&& 15)]) (rest := []) 24 h (fun z e => t_Mo_tightness e) (q_invS (Y := m_Mo_tightness) d_Mo_settle_21 ml_Mo_108 ms_Mo_tightness k_Mo_tightness.2 k_Mo_tightness.1 (by decide) n_Mo_tightness) k_Mo_tightness (q_ro (by decide) (by decide)) (Nat.le_of_ble_eq_true rfl) d_Mo_settle_21 rfl rfl rfl (fun w2 ew2 h => ?_)
      refine q_iloadn 25 d_Mo_settle_24 rfl 1 rfl ?_
      refine q_ite h (fun c9 h => ?_) (fun c9 h => ?_)
      · refine q_icmp_lt_t 94 d_Mo_settle_25 (by decide) c9 ?_
        cases h
        exact q_vret d_Mo_settle_94 rfl (Nat.zero_le _) (Nat.zero_le _)
      · refine q_icmp_lt_f 28 d_Mo_settle_25 rfl 94 (by decide) c9 ?_
        refine q_aloadn 29 d_Mo_settle_28 rfl 0 rfl ?_
        refine q_dup 30 d_Mo_settle_29 rfl rfl ?_
        refine q_xget 33 d_Mo_settle_30 rfl fl_Mo_105 (by decide) rfl rfl ?_
        refine q_iconst (v := 1) 34 d_Mo_settle_33 rfl (by decide) ?_
        refine q_isub 35 d_Mo_settle_34 rfl ?_
        refine q_xput 38 d_Mo_settle_35 rfl fl_Mo_105 (by decide) rfl rfl rfl rfl (Nat.le_of_ble_eq_true rfl) (fun _ => rfl) h (fun x3 ex3 h => ?_)
        refine q_aloadn 39 d_Mo_settle_38 rfl 0 rfl ?_
        refine q_xget 42 d_Mo_settle_39 rfl fl_Mo_46 (by decide) rfl rfl ?_
        refine q_aloadn 43 d_Mo_settle_42 rfl 0 rfl ?_
        refine q_xget 46 d_Mo_settle_43 rfl fl_Mo_105 (by decide) rfl rfl ?_
        refine q_xiald 47 d_Mo_settle_46 rfl (by decide) (fun _ => rfl) h (fun w4 ew4 h => ?_)
        refine q_bipush (v := 15) 49 d_Mo_settle_47 rfl (by decide) ?_
        refine q_iand 50 d_Mo_settle_49 rfl ?_
        refine q_xtop h (fun z5 ez5 h => ?_)
        refine q_istoren (lv' := [(2, .int z5), (0, .ref 32), (1, .int v1)]) 51 d_Mo_settle_50 rfl (by decide) rfl ?_
        refine q_aloadn 52 d_Mo_settle_51 rfl 1 rfl ?_
        refine q_xcallS (as := [.ref 32]) (rest := []) 55 h (fun z e => t_Mo_taken e) (q_xinvV (Y := m_Mo_taken) d_Mo_settle_52 ml_Mo_112 ms_Mo_taken.1 ms_Mo_taken.2 k_Mo_taken.1 (by decide) n_Mo_taken (by decide) rfl rfl) k_Mo_taken (q_ro (by decide) (by decide)) (Nat.le_of_ble_eq_true rfl) d_Mo_settle_52 rfl rfl rfl (fun q6 eq6 h => ?_)
        refine q_istoren (lv' := [(3, .int q6.1), (2, .int z5), (0, .ref 32), (1, .int v1)]) 56 d_Mo_settle_55 rfl (by decide) rfl ?_
        refine q_iloadn 57 d_Mo_settle_56 rfl 1 rfl ?_
        refine q_bipush (v := 9) 59 d_Mo_settle_57 rfl (by decide) ?_
        refine q_ite h (fun c8 h => ?_) (fun c8 h => ?_)
        · refine q_icmp_ge_t 66 d_Mo_settle_59 (by decide) c8 ?_
          refine q_aloadn 67 d_Mo_settle_66 rfl 2 rfl ?_
          refine q_xcallS (as := [.ref 32]) (rest := []) 70 h (fun z e => t_Mo_taken e) (q_xinvV (Y := m_Mo_taken) d_Mo_settle_67 ml_Mo_112 ms_Mo_taken.1 ms_Mo_taken.2 k_Mo_taken.1 (by decide) n_Mo_taken (by decide) rfl rfl) k_Mo_taken (q_ro (by decide) (by decide)) (Nat.le_of_ble_eq_true rfl) d_Mo_settle_67 rfl rfl rfl (fun q7 eq7 h => ?_)
          refine q_sub (lv' := [(0, .ref 32), (1, .int v1), (2, .int z5), (3, .int q6.1)]) [2, 3, 1, 0] rfl ?_
          exact t_Mo_settle_J70 ih _ _ _ _ _ h
        · refine q_icmp_ge_f 62 d_Mo_settle_59 rfl 66 (by decide) c8 ?_
          refine q_iloadn 63 d_Mo_settle_62 rfl 0 rfl ?_
          refine q_goto 70 d_Mo_settle_63 (by decide) ?_
          refine q_sub (lv' := [(0, .ref 32), (1, .int v1), (2, .int z5), (3, .int q6.1)]) [2, 3, 1, 0] rfl ?_
          exact t_Mo_settle_J70 ih _ _ _ _ _ h
set_option maxHeartbeats 4000000 in
set_option maxRecDepth 100000 in
theorem t_Mo_settle {E : q_E} {c d : Nat} {x : q_W} {a1 : Int32} {ρ : q_W} (h : f_Mo_settle x a1 = some ρ) : q_Ct E y_Mo_settle m_Mo_settle (q_rm 1) (q_cells E c d x) [.ref 32, .int a1] (q_rV E c d ρ) := by
  unfold f_Mo_settle at h
  refine q_Ct.of (lv := [(0, .ref 32), (1, .int a1)]) (by decide) ⟨rfl, rfl⟩ rfl (Nat.le_of_ble_eq_true rfl) ?_
  exact t_Mo_settle_L0  q_fu _ _ h
set_option maxHeartbeats 4000000 in
set_option maxRecDepth 100000 in
theorem t_Mo_push {E : q_E} {c d : Nat} {x : q_W} {a1 : Int32} {ρ : q_W} (h : f_Mo_push x a1 = some ρ) : q_Ct E y_Mo_push m_Mo_push (q_rm 1) (q_cells E c d x) [.ref 32, .int a1] (q_rV E c d ρ) := by
  unfold f_Mo_push at h
  refine q_Ct.of (lv := [(0, .ref 32), (1, .int a1)]) (by decide) ⟨rfl, rfl⟩ rfl (Nat.le_of_ble_eq_true rfl) ?_
  refine q_aloadn 1 d_Mo_push_0 rfl 0 rfl ?_
  refine q_xget 4 d_Mo_push_1 rfl fl_Mo_46 (by decide) rfl rfl ?_
  refine q_aloadn 5 d_Mo_push_4 rfl 0 rfl ?_
  refine q_xget 8 d_Mo_push_5 rfl fl_Mo_105 (by decide) rfl rfl ?_
  refine q_iloadn 9 d_Mo_push_8 rfl 1 rfl ?_
  refine q_bipush (v := 16) 11 d_Mo_push_9 rfl (by decide) ?_
  refine q_aloadn 12 d_Mo_push_11 rfl 0 rfl ?_
  refine q_xget 15 d_Mo_push_12 rfl fl_Mo_120 (by decide) rfl rfl ?_
  refine q_imul 16 d_Mo_push_15 rfl ?_
  refine q_iadd 17 d_Mo_push_16 rfl ?_
  refine q_xiast 18 d_Mo_push_17 rfl (by decide) (fun _ => rfl) h (fun x1 ex1 h => ?_)
  refine q_aloadn 19 d_Mo_push_18 rfl 0 rfl ?_
  refine q_dup 20 d_Mo_push_19 rfl rfl ?_
  refine q_xget 23 d_Mo_push_20 rfl fl_Mo_105 (by decide) rfl rfl ?_
  refine q_iconst (v := 1) 24 d_Mo_push_23 rfl (by decide) ?_
  refine q_iadd 25 d_Mo_push_24 rfl ?_
  refine q_xput 28 d_Mo_push_25 rfl fl_Mo_105 (by decide) rfl rfl rfl rfl (Nat.le_of_ble_eq_true rfl) (fun _ => rfl) h (fun x2 ex2 h => ?_)
  refine q_aloadn 29 d_Mo_push_28 rfl 0 rfl ?_
  refine q_iloadn 30 d_Mo_push_29 rfl 1 rfl ?_
  refine q_xcallP (as := [.int a1]) (rest := [.ref 32]) 33 h (fun z e => t_Mo_isTemporal e) (q_invS (Y := m_Mo_isTemporal) d_Mo_push_30 ml_Mo_123 ms_Mo_isTemporal k_Mo_isTemporal.2 k_Mo_isTemporal.1 (by decide) n_Mo_isTemporal) k_Mo_isTemporal (q_ro (by decide) (by decide)) (Nat.le_of_ble_eq_true rfl) d_Mo_push_30 rfl rfl rfl (fun w3 ew3 h => ?_)
  refine q_ite h (fun c6 h => ?_) (fun c6 h => ?_)
  · refine q_if_eq_t 45 d_Mo_push_33 (by decide) c6 ?_
    refine q_aloadn 46 d_Mo_push_45 rfl 0 rfl ?_
    refine q_xget 49 d_Mo_push_46 rfl fl_Mo_120 (by decide) rfl rfl ?_
    refine q_xput 52 d_Mo_push_49 rfl fl_Mo_120 (by decide) rfl rfl rfl rfl (Nat.le_of_ble_eq_true rfl) (fun _ => rfl) h (fun x4 ex4 h => ?_)
    cases h
    exact q_vret d_Mo_push_52 rfl (Nat.zero_le _) (Nat.zero_le _)
  · refine q_if_eq_f 36 d_Mo_push_33 rfl 45 (by decide) c6 ?_
    refine q_aloadn 37 d_Mo_push_36 rfl 0 rfl ?_
    refine q_xget 40 d_Mo_push_37 rfl fl_Mo_120 (by decide) rfl rfl ?_
    refine q_iconst (v := 1) 41 d_Mo_push_40 rfl (by decide) ?_
    refine q_iadd 42 d_Mo_push_41 rfl ?_
    refine q_goto 49 d_Mo_push_42 (by decide) ?_
    refine q_xput 52 d_Mo_push_49 rfl fl_Mo_120 (by decide) rfl rfl rfl rfl (Nat.le_of_ble_eq_true rfl) (fun _ => rfl) h (fun x5 ex5 h => ?_)
    cases h
    exact q_vret d_Mo_push_52 rfl (Nat.zero_le _) (Nat.zero_le _)
set_option maxHeartbeats 4000000 in
set_option maxRecDepth 100000 in
theorem t_Mo_leafOf {E : q_E} {c d : Nat} {x : q_W} {a0 : Int32} {ρ : Int32} (h : f_Mo_leafOf x a0 = some ρ) : q_Ct E y_Mo_leafOf m_Mo_leafOf (q_rm 0) (q_cells E c d x) [.int a0] (q_rP E c d x ρ) := by
  unfold f_Mo_leafOf at h
  refine q_Ct.of (lv := [(0, .int a0)]) (by decide) ⟨rfl, rfl⟩ rfl (Nat.le_of_ble_eq_true rfl) ?_
  refine q_iloadn 1 d_Mo_leafOf_0 rfl 0 rfl ?_
  refine q_bipush (v := 48) 3 d_Mo_leafOf_1 rfl (by decide) ?_
  refine q_ite h (fun c4 h => ?_) (fun c4 h => ?_)
  · refine q_icmp_ne_t 10 d_Mo_leafOf_3 (by decide) c4 ?_
    refine q_iloadn 11 d_Mo_leafOf_10 rfl 0 rfl ?_
    refine q_bipush (v := 49) 13 d_Mo_leafOf_11 rfl (by decide) ?_
    refine q_ite h (fun c3 h => ?_) (fun c3 h => ?_)
    · refine q_icmp_ne_t 20 d_Mo_leafOf_13 (by decide) c3 ?_
      refine q_iloadn 21 d_Mo_leafOf_20 rfl 0 rfl ?_
      refine q_bipush (v := 97) 23 d_Mo_leafOf_21 rfl (by decide) ?_
      refine q_ite h (fun c2 h => ?_) (fun c2 h => ?_)
      · refine q_icmp_lt_t 41 d_Mo_leafOf_23 (by decide) c2 ?_
        refine q_iconst (v := (-1)) 42 d_Mo_leafOf_41 rfl (by decide) ?_
        cases h
        exact q_iret d_Mo_leafOf_42 rfl (Nat.zero_le _) (Nat.zero_le _)
      · refine q_icmp_lt_f 26 d_Mo_leafOf_23 rfl 41 (by decide) c2 ?_
        refine q_iloadn 27 d_Mo_leafOf_26 rfl 0 rfl ?_
        refine q_bipush (v := 99) 29 d_Mo_leafOf_27 rfl (by decide) ?_
        refine q_ite h (fun c1 h => ?_) (fun c1 h => ?_)
        · refine q_icmp_gt_t 41 d_Mo_leafOf_29 (by decide) c1 ?_
          refine q_iconst (v := (-1)) 42 d_Mo_leafOf_41 rfl (by decide) ?_
          cases h
          exact q_iret d_Mo_leafOf_42 rfl (Nat.zero_le _) (Nat.zero_le _)
        · refine q_icmp_gt_f 32 d_Mo_leafOf_29 rfl 41 (by decide) c1 ?_
          refine q_iconst (v := 2) 33 d_Mo_leafOf_32 rfl (by decide) ?_
          refine q_iloadn 34 d_Mo_leafOf_33 rfl 0 rfl ?_
          refine q_iadd 35 d_Mo_leafOf_34 rfl ?_
          refine q_bipush (v := 97) 37 d_Mo_leafOf_35 rfl (by decide) ?_
          refine q_isub 38 d_Mo_leafOf_37 rfl ?_
          refine q_goto 42 d_Mo_leafOf_38 (by decide) ?_
          cases h
          exact q_iret d_Mo_leafOf_42 rfl (Nat.zero_le _) (Nat.zero_le _)
    · refine q_icmp_ne_f 16 d_Mo_leafOf_13 rfl 20 (by decide) (Classical.not_not.mp c3) ?_
      refine q_iconst (v := 1) 17 d_Mo_leafOf_16 rfl (by decide) ?_
      refine q_goto 42 d_Mo_leafOf_17 (by decide) ?_
      cases h
      exact q_iret d_Mo_leafOf_42 rfl (Nat.zero_le _) (Nat.zero_le _)
  · refine q_icmp_ne_f 6 d_Mo_leafOf_3 rfl 10 (by decide) (Classical.not_not.mp c4) ?_
    refine q_iconst (v := 0) 7 d_Mo_leafOf_6 rfl (by decide) ?_
    refine q_goto 42 d_Mo_leafOf_7 (by decide) ?_
    cases h
    exact q_iret d_Mo_leafOf_42 rfl (Nat.zero_le _) (Nat.zero_le _)
set_option maxHeartbeats 4000000 in
set_option maxRecDepth 100000 in
theorem t_Mo_prefixOf {E : q_E} {c d : Nat} {x : q_W} {a0 : Int32} {ρ : Int32} (h : f_Mo_prefixOf x a0 = some ρ) : q_Ct E y_Mo_prefixOf m_Mo_prefixOf (q_rm 0) (q_cells E c d x) [.int a0] (q_rP E c d x ρ) := by
  unfold f_Mo_prefixOf at h
  refine q_Ct.of (lv := [(0, .int a0)]) (by decide) ⟨rfl, rfl⟩ rfl (Nat.le_of_ble_eq_true rfl) ?_
  refine q_iloadn 1 d_Mo_prefixOf_0 rfl 0 rfl ?_
  refine q_bipush (v := 33) 3 d_Mo_prefixOf_1 rfl (by decide) ?_
  refine q_ite h (fun c4 h => ?_) (fun c4 h => ?_)
  · refine q_icmp_ne_t 10 d_Mo_prefixOf_3 (by decide) c4 ?_
    refine q_iloadn 11 d_Mo_prefixOf_10 rfl 0 rfl ?_
    refine q_bipush (v := 88) 13 d_Mo_prefixOf_11 rfl (by decide) ?_
    refine q_ite h (fun c3 h => ?_) (fun c3 h => ?_)
    · refine q_icmp_ne_t 21 d_Mo_prefixOf_13 (by decide) c3 ?_
      refine q_iloadn 22 d_Mo_prefixOf_21 rfl 0 rfl ?_
      refine q_bipush (v := 70) 24 d_Mo_prefixOf_22 rfl (by decide) ?_
      refine q_ite h (fun c2 h => ?_) (fun c2 h => ?_)
      · refine q_icmp_ne_t 32 d_Mo_prefixOf_24 (by decide) c2 ?_
        refine q_iloadn 33 d_Mo_prefixOf_32 rfl 0 rfl ?_
        refine q_bipush (v := 71) 35 d_Mo_prefixOf_33 rfl (by decide) ?_
        refine q_ite h (fun c1 h => ?_) (fun c1 h => ?_)
        · refine q_icmp_ne_t 43 d_Mo_prefixOf_35 (by decide) c1 ?_
          refine q_iconst (v := (-1)) 44 d_Mo_prefixOf_43 rfl (by decide) ?_
          cases h
          exact q_iret d_Mo_prefixOf_44 rfl (Nat.zero_le _) (Nat.zero_le _)
        · refine q_icmp_ne_f 38 d_Mo_prefixOf_35 rfl 43 (by decide) (Classical.not_not.mp c1) ?_
          refine q_bipush (v := 8) 40 d_Mo_prefixOf_38 rfl (by decide) ?_
          refine q_goto 44 d_Mo_prefixOf_40 (by decide) ?_
          cases h
          exact q_iret d_Mo_prefixOf_44 rfl (Nat.zero_le _) (Nat.zero_le _)
      · refine q_icmp_ne_f 27 d_Mo_prefixOf_24 rfl 32 (by decide) (Classical.not_not.mp c2) ?_
        refine q_bipush (v := 7) 29 d_Mo_prefixOf_27 rfl (by decide) ?_
        refine q_goto 44 d_Mo_prefixOf_29 (by decide) ?_
        cases h
        exact q_iret d_Mo_prefixOf_44 rfl (Nat.zero_le _) (Nat.zero_le _)
    · refine q_icmp_ne_f 16 d_Mo_prefixOf_13 rfl 21 (by decide) (Classical.not_not.mp c3) ?_
      refine q_bipush (v := 6) 18 d_Mo_prefixOf_16 rfl (by decide) ?_
      refine q_goto 44 d_Mo_prefixOf_18 (by decide) ?_
      cases h
      exact q_iret d_Mo_prefixOf_44 rfl (Nat.zero_le _) (Nat.zero_le _)
  · refine q_icmp_ne_f 6 d_Mo_prefixOf_3 rfl 10 (by decide) (Classical.not_not.mp c4) ?_
    refine q_iconst (v := 5) 7 d_Mo_prefixOf_6 rfl (by decide) ?_
    refine q_goto 44 d_Mo_prefixOf_7 (by decide) ?_
    cases h
    exact q_iret d_Mo_prefixOf_44 rfl (Nat.zero_le _) (Nat.zero_le _)
set_option maxHeartbeats 4000000 in
set_option maxRecDepth 100000 in
theorem t_Mo_signOf {E : q_E} {c d : Nat} {x : q_W} {a0 : Int32} {ρ : Int32} (h : f_Mo_signOf x a0 = some ρ) : q_Ct E y_Mo_signOf m_Mo_signOf (q_rm 0) (q_cells E c d x) [.int a0] (q_rP E c d x ρ) := by
  unfold f_Mo_signOf at h
  refine q_Ct.of (lv := [(0, .int a0)]) (by decide) ⟨rfl, rfl⟩ rfl (Nat.le_of_ble_eq_true rfl) ?_
  refine q_iloadn 1 d_Mo_signOf_0 rfl 0 rfl ?_
  refine q_bipush (v := 85) 3 d_Mo_signOf_1 rfl (by decide) ?_
  refine q_ite h (fun c5 h => ?_) (fun c5 h => ?_)
  · refine q_icmp_ne_t 11 d_Mo_signOf_3 (by decide) c5 ?_
    refine q_iloadn 12 d_Mo_signOf_11 rfl 0 rfl ?_
    refine q_bipush (v := 82) 14 d_Mo_signOf_12 rfl (by decide) ?_
    refine q_ite h (fun c4 h => ?_) (fun c4 h => ?_)
    · refine q_icmp_ne_t 22 d_Mo_signOf_14 (by decide) c4 ?_
      refine q_iloadn 23 d_Mo_signOf_22 rfl 0 rfl ?_
      refine q_bipush (v := 38) 25 d_Mo_signOf_23 rfl (by decide) ?_
      refine q_ite h (fun c3 h => ?_) (fun c3 h => ?_)
      · refine q_icmp_ne_t 33 d_Mo_signOf_25 (by decide) c3 ?_
        refine q_iloadn 34 d_Mo_signOf_33 rfl 0 rfl ?_
        refine q_bipush (v := 124) 36 d_Mo_signOf_34 rfl (by decide) ?_
        refine q_ite h (fun c2 h => ?_) (fun c2 h => ?_)
        · refine q_icmp_ne_t 44 d_Mo_signOf_36 (by decide) c2 ?_
          refine q_iloadn 45 d_Mo_signOf_44 rfl 0 rfl ?_
          refine q_bipush (v := 62) 47 d_Mo_signOf_45 rfl (by decide) ?_
          refine q_ite h (fun c1 h => ?_) (fun c1 h => ?_)
          · refine q_icmp_ne_t 55 d_Mo_signOf_47 (by decide) c1 ?_
            refine q_iconst (v := (-1)) 56 d_Mo_signOf_55 rfl (by decide) ?_
            cases h
            exact q_iret d_Mo_signOf_56 rfl (Nat.zero_le _) (Nat.zero_le _)
          · refine q_icmp_ne_f 50 d_Mo_signOf_47 rfl 55 (by decide) (Classical.not_not.mp c1) ?_
            refine q_bipush (v := 13) 52 d_Mo_signOf_50 rfl (by decide) ?_
            refine q_goto 56 d_Mo_signOf_52 (by decide) ?_
            cases h
            exact q_iret d_Mo_signOf_56 rfl (Nat.zero_le _) (Nat.zero_le _)
        · refine q_icmp_ne_f 39 d_Mo_signOf_36 rfl 44 (by decide) (Classical.not_not.mp c2) ?_
          refine q_bipush (v := 12) 41 d_Mo_signOf_39 rfl (by decide) ?_
          refine q_goto 56 d_Mo_signOf_41 (by decide) ?_
          cases h
          exact q_iret d_Mo_signOf_56 rfl (Nat.zero_le _) (Nat.zero_le _)
      · refine q_icmp_ne_f 28 d_Mo_signOf_25 rfl 33 (by decide) (Classical.not_not.mp c3) ?_
        refine q_bipush (v := 11) 30 d_Mo_signOf_28 rfl (by decide) ?_
        refine q_goto 56 d_Mo_signOf_30 (by decide) ?_
        cases h
        exact q_iret d_Mo_signOf_56 rfl (Nat.zero_le _) (Nat.zero_le _)
    · refine q_icmp_ne_f 17 d_Mo_signOf_14 rfl 22 (by decide) (Classical.not_not.mp c4) ?_
      refine q_bipush (v := 10) 19 d_Mo_signOf_17 rfl (by decide) ?_
      refine q_goto 56 d_Mo_signOf_19 (by decide) ?_
      cases h
      exact q_iret d_Mo_signOf_56 rfl (Nat.zero_le _) (Nat.zero_le _)
  · refine q_icmp_ne_f 6 d_Mo_signOf_3 rfl 11 (by decide) (Classical.not_not.mp c5) ?_
    refine q_bipush (v := 9) 8 d_Mo_signOf_6 rfl (by decide) ?_
    refine q_goto 56 d_Mo_signOf_8 (by decide) ?_
    cases h
    exact q_iret d_Mo_signOf_56 rfl (Nat.zero_le _) (Nat.zero_le _)
