set_option maxHeartbeats 4000000 in
set_option maxRecDepth 100000 in
theorem t_Gw_fits {E : q_E} {c d : Nat} {x : q_W} {a0 : Int32} {a1 : Int32} {ρ : Int32} (h : f_Gw_fits x a0 a1 = some ρ) : q_Ct E y_Gw_fits m_Gw_fits (q_rm 0) (q_cells E c d x) [.int a0, .int a1] (q_rP E c d x ρ) := by
  unfold f_Gw_fits at h
  refine q_Ct.of (lv := [(0, .int a0), (1, .int a1)]) (by decide) ⟨rfl, rfl⟩ rfl (Nat.le_of_ble_eq_true rfl) ?_
  refine q_iloadn 1 d_Gw_fits_0 rfl 0 rfl ?_
  refine q_ite h (fun c4 h => ?_) (fun c4 h => ?_)
  · refine q_if_lt_t 25 d_Gw_fits_1 (by decide) c4 ?_
    refine q_iconst (v := 0) 26 d_Gw_fits_25 rfl (by decide) ?_
    cases h
    exact q_zret d_Gw_fits_26 rfl (Nat.zero_le _) (Nat.zero_le _)
  · refine q_if_lt_f 4 d_Gw_fits_1 rfl 25 (by decide) c4 ?_
    refine q_iloadn 5 d_Gw_fits_4 rfl 0 rfl ?_
    refine q_bipush (v := 8) 7 d_Gw_fits_5 rfl (by decide) ?_
    refine q_ite h (fun c3 h => ?_) (fun c3 h => ?_)
    · refine q_icmp_gt_t 25 d_Gw_fits_7 (by decide) c3 ?_
      refine q_iconst (v := 0) 26 d_Gw_fits_25 rfl (by decide) ?_
      cases h
      exact q_zret d_Gw_fits_26 rfl (Nat.zero_le _) (Nat.zero_le _)
    · refine q_icmp_gt_f 10 d_Gw_fits_7 rfl 25 (by decide) c3 ?_
      refine q_iloadn 11 d_Gw_fits_10 rfl 1 rfl ?_
      refine q_iconst (v := 1) 12 d_Gw_fits_11 rfl (by decide) ?_
      refine q_ite h (fun c2 h => ?_) (fun c2 h => ?_)
      · refine q_icmp_lt_t 25 d_Gw_fits_12 (by decide) c2 ?_
        refine q_iconst (v := 0) 26 d_Gw_fits_25 rfl (by decide) ?_
        cases h
        exact q_zret d_Gw_fits_26 rfl (Nat.zero_le _) (Nat.zero_le _)
      · refine q_icmp_lt_f 15 d_Gw_fits_12 rfl 25 (by decide) c2 ?_
        refine q_iloadn 16 d_Gw_fits_15 rfl 1 rfl ?_
        refine q_bipush (v := 8) 18 d_Gw_fits_16 rfl (by decide) ?_
        refine q_ite h (fun c1 h => ?_) (fun c1 h => ?_)
        · refine q_icmp_gt_t 25 d_Gw_fits_18 (by decide) c1 ?_
          refine q_iconst (v := 0) 26 d_Gw_fits_25 rfl (by decide) ?_
          cases h
          exact q_zret d_Gw_fits_26 rfl (Nat.zero_le _) (Nat.zero_le _)
        · refine q_icmp_gt_f 21 d_Gw_fits_18 rfl 25 (by decide) c1 ?_
          refine q_iconst (v := 1) 22 d_Gw_fits_21 rfl (by decide) ?_
          refine q_goto 26 d_Gw_fits_22 (by decide) ?_
          cases h
          exact q_zret d_Gw_fits_26 rfl (Nat.zero_le _) (Nat.zero_le _)
set_option maxHeartbeats 4000000 in
set_option maxRecDepth 100000 in
theorem t_Gw_size {E : q_E} {c d : Nat} {x : q_W} {ρ : Int32} (h : f_Gw_size x = some ρ) : q_Ct E y_Gw_size m_Gw_size (q_rm 0) (q_cells E c d x) [.ref 14] (q_rP E c d x ρ) := by
  unfold f_Gw_size at h
  refine q_Ct.of (lv := [(0, .ref 14)]) (by decide) ⟨rfl, rfl⟩ rfl (Nat.le_of_ble_eq_true rfl) ?_
  refine q_aloadn 1 d_Gw_size_0 rfl 0 rfl ?_
  refine q_xget 4 d_Gw_size_1 rfl fl_Gw_15 (by decide) rfl rfl ?_
  refine q_aloadn 5 d_Gw_size_4 rfl 0 rfl ?_
  refine q_xget 8 d_Gw_size_5 rfl fl_Gw_19 (by decide) rfl rfl ?_
  refine q_iadd 9 d_Gw_size_8 rfl ?_
  cases h
  exact q_iret d_Gw_size_9 rfl (Nat.zero_le _) (Nat.zero_le _)
set_option maxHeartbeats 4000000 in
set_option maxRecDepth 100000 in
theorem t_Gw_reshape_L15 {E : q_E} {c d : Nat} {ρ : q_W} : ∀ (n : Nat) (x : q_W) (v3 : Int32), f_Gw_reshape_L15  n x v3 = some ρ → AW E (q_rm 1) m_Gw_reshape (q_cells E c d x) 0 0 15 [(0, .ref 14), (3, .int v3)] [] (q_rV E c d ρ) := by
  intro n
  induction n with
  | zero =>
    intro x v3 h
    have h : (none : Option q_W) = some ρ := h
    cases h
  | succ n ih =>
    intro x v3 h
    unfold f_Gw_reshape_L15 at h
    refine q_iloadn 16 d_Gw_reshape_15 rfl 1 rfl ?_
    refine q_aloadn 17 d_Gw_reshape_16 rfl 0 rfl ?_
    refine q_xget 20 d_Gw_reshape_17 rfl fl_Gw_9 (by decide) rfl rfl ?_
    refine q_xalen (v := 16) 21 d_Gw_reshape_20 rfl (by decide) (fun _ => rfl) rfl (by decide) ?_
    refine q_ite h (fun c5 h => ?_) (fun c5 h => ?_)
    · refine q_icmp_ge_t 37 d_Gw_reshape_21 (by decide) c5 ?_
      cases h
      exact q_vret d_Gw_reshape_37 rfl (Nat.zero_le _) (Nat.zero_le _)
    · refine q_icmp_ge_f 24 d_Gw_reshape_21 rfl 37 (by decide) c5 ?_
      refine q_aloadn 25 d_Gw_reshape_24 rfl 0 rfl ?_
      refine q_xget 28 d_Gw_reshape_25 rfl fl_Gw_9 (by decide) rfl rfl ?_
      refine q_iloadn 29 d_Gw_reshape_28 rfl 1 rfl ?_
      refine q_iconst (v := 0) 30 d_Gw_reshape_29 rfl (by decide) ?_
      refine q_xiast 31 d_Gw_reshape_30 rfl (by decide) (fun _ => rfl) h (fun x4 ex4 h => ?_)
      refine q_iinc (v := (v3 + 1)) (lv' := [(3, .int (v3 + 1)), (0, .ref 14)]) 34 d_Gw_reshape_31 rfl 1 rfl (q_ai (by decide)) (by decide) rfl ?_
      refine q_goto 15 d_Gw_reshape_34 (by decide) ?_
      refine q_sub (lv' := [(0, .ref 14), (3, .int (v3 + 1))]) [1, 0] rfl ?_
      exact ih _ _ h
set_option maxHeartbeats 4000000 in
set_option maxRecDepth 100000 in
theorem t_Gw_reshape {E : q_E} {c d : Nat} {x : q_W} {a1 : Int32} {a2 : Int32} {ρ : q_W} (h : f_Gw_reshape x a1 a2 = some ρ) : q_Ct E y_Gw_reshape m_Gw_reshape (q_rm 1) (q_cells E c d x) [.ref 14, .int a1, .int a2] (q_rV E c d ρ) := by
  unfold f_Gw_reshape at h
  refine q_Ct.of (lv := [(0, .ref 14), (1, .int a1), (2, .int a2)]) (by decide) ⟨rfl, rfl⟩ rfl (Nat.le_of_ble_eq_true rfl) ?_
  refine q_aloadn 1 d_Gw_reshape_0 rfl 0 rfl ?_
  refine q_iloadn 2 d_Gw_reshape_1 rfl 1 rfl ?_
  refine q_xput 5 d_Gw_reshape_2 rfl fl_Gw_15 (by decide) rfl rfl rfl rfl (Nat.le_of_ble_eq_true rfl) (fun _ => rfl) h (fun x1 ex1 h => ?_)
  refine q_aloadn 6 d_Gw_reshape_5 rfl 0 rfl ?_
  refine q_iloadn 7 d_Gw_reshape_6 rfl 2 rfl ?_
  refine q_xput 10 d_Gw_reshape_7 rfl fl_Gw_19 (by decide) rfl rfl rfl rfl (Nat.le_of_ble_eq_true rfl) (fun _ => rfl) h (fun x2 ex2 h => ?_)
  refine q_aloadn 11 d_Gw_reshape_10 rfl 0 rfl ?_
  refine q_xcallP (as := [.ref 14]) (rest := []) 14 h (fun z e => t_Gw_size e) (q_xinvV (Y := m_Gw_size) d_Gw_reshape_11 ml_Gw_22 ms_Gw_size.1 ms_Gw_size.2 k_Gw_size.1 (by decide) n_Gw_size (by decide) rfl rfl) k_Gw_size (q_ro (by decide) (by decide)) (Nat.le_of_ble_eq_true rfl) d_Gw_reshape_11 rfl rfl rfl (fun w3 ew3 h => ?_)
  refine q_istoren (lv' := [(3, .int w3), (0, .ref 14), (1, .int a1), (2, .int a2)]) 15 d_Gw_reshape_14 rfl (by decide) rfl ?_
  refine q_sub (lv' := [(0, .ref 14), (3, .int w3)]) [1, 0] rfl ?_
  exact t_Gw_reshape_L15  q_fu _ _ h
set_option maxHeartbeats 4000000 in
set_option maxRecDepth 100000 in
theorem t_D_shape {E : q_E} {c d : Nat} (hcd : q_cd c d) {x : q_W} {a1 : Int32} {a2 : Int32} {ρ : (Int32 ⊕ Nat) × q_W} (h : f_D_shape c d x a1 a2 = some ρ) : q_Ct E y_D_shape m_D_shape (q_rm 6) (q_cells E c d x) [.ref 0, .int a1, .int a2] (q_rT E c d true ρ) := by
  rcases hcd with ⟨rfl, rfl⟩ | ⟨rfl, rfl⟩
  · unfold f_D_shape at h
    refine q_Ct.of (lv := [(0, .ref 0), (1, .int a1), (2, .int a2)]) (by decide) ⟨rfl, rfl⟩ rfl (Nat.le_of_ble_eq_true rfl) ?_
    refine q_iloadn 1 d_D_shape_0 rfl 1 rfl ?_
    refine q_iloadn 2 d_D_shape_1 rfl 2 rfl ?_
    refine q_xcallP (as := [.int a1, .int a2]) (rest := []) 5 h (fun z e => t_Gw_fits e) (q_invS (Y := m_Gw_fits) d_D_shape_2 ml_D_139 ms_Gw_fits k_Gw_fits.2 k_Gw_fits.1 (by decide) n_Gw_fits) k_Gw_fits (q_ro (by decide) (by decide)) (Nat.le_of_ble_eq_true rfl) d_D_shape_2 rfl rfl rfl (fun w1 ew1 h => ?_)
    refine q_ite h (fun c3 h => ?_) (fun c3 h => ?_)
    · refine q_if_ne_t 18 d_D_shape_5 (by decide) c3 ?_
      refine q_aloadn 19 d_D_shape_18 rfl 0 rfl ?_
      refine q_xget 22 d_D_shape_19 rfl fl_D_33 (by decide) rfl rfl ?_
      refine q_iloadn 23 d_D_shape_22 rfl 1 rfl ?_
      refine q_iloadn 24 d_D_shape_23 rfl 2 rfl ?_
      refine q_xcallV (as := [.ref 14, .int a1, .int a2]) (rest := []) 27 h (fun z e => t_Gw_reshape e) (q_xinvV (Y := m_Gw_reshape) d_D_shape_24 ml_D_144 ms_Gw_reshape.1 ms_Gw_reshape.2 k_Gw_reshape.1 (by decide) n_Gw_reshape (by decide) rfl rfl) k_Gw_reshape (q_ro (by decide) (by decide)) (Nat.le_of_ble_eq_true rfl) d_D_shape_24 rfl rfl rfl (fun x2 ex2 h => ?_)
      cases h
      exact q_vret d_D_shape_27 rfl (Nat.zero_le _) (Nat.zero_le _)
    · refine q_if_ne_f 8 d_D_shape_5 rfl 18 (by decide) (Classical.not_not.mp c3) ?_
      cases h
      exact q_throw_D_shape_8
  · unfold f_D_shape at h
    refine q_Ct.of (lv := [(0, .ref 0), (1, .int a1), (2, .int a2)]) (by decide) ⟨rfl, rfl⟩ rfl (Nat.le_of_ble_eq_true rfl) ?_
    refine q_iloadn 1 d_D_shape_0 rfl 1 rfl ?_
    refine q_iloadn 2 d_D_shape_1 rfl 2 rfl ?_
    refine q_xcallP (as := [.int a1, .int a2]) (rest := []) 5 h (fun z e => t_Gw_fits e) (q_invS (Y := m_Gw_fits) d_D_shape_2 ml_D_139 ms_Gw_fits k_Gw_fits.2 k_Gw_fits.1 (by decide) n_Gw_fits) k_Gw_fits (q_ro (by decide) (by decide)) (Nat.le_of_ble_eq_true rfl) d_D_shape_2 rfl rfl rfl (fun w1 ew1 h => ?_)
    refine q_ite h (fun c3 h => ?_) (fun c3 h => ?_)
    · refine q_if_ne_t 18 d_D_shape_5 (by decide) c3 ?_
      refine q_aloadn 19 d_D_shape_18 rfl 0 rfl ?_
      refine q_xget 22 d_D_shape_19 rfl fl_D_33 (by decide) rfl rfl ?_
      refine q_iloadn 23 d_D_shape_22 rfl 1 rfl ?_
      refine q_iloadn 24 d_D_shape_23 rfl 2 rfl ?_
      refine q_xcallV (as := [.ref 14, .int a1, .int a2]) (rest := []) 27 h (fun z e => t_Gw_reshape e) (q_xinvV (Y := m_Gw_reshape) d_D_shape_24 ml_D_144 ms_Gw_reshape.1 ms_Gw_reshape.2 k_Gw_reshape.1 (by decide) n_Gw_reshape (by decide) rfl rfl) k_Gw_reshape (q_ro (by decide) (by decide)) (Nat.le_of_ble_eq_true rfl) d_D_shape_24 rfl rfl rfl (fun x2 ex2 h => ?_)
      cases h
      exact q_vret d_D_shape_27 rfl (Nat.zero_le _) (Nat.zero_le _)
    · refine q_if_ne_f 8 d_D_shape_5 rfl 18 (by decide) (Classical.not_not.mp c3) ?_
      cases h
      exact q_throw_D_shape_8
set_option maxHeartbeats 4000000 in
set_option maxRecDepth 100000 in
theorem t_Gw_replace {E : q_E} {c d : Nat} {x : q_W} {a1 : Int32} {a2 : Int32} {ρ : Int32 × q_W} (h : f_Gw_replace x a1 a2 = some ρ) : q_Ct E y_Gw_replace m_Gw_replace (q_rm 0) (q_cells E c d x) [.ref 14, .int a1, .int a2] (q_rS E c d ρ) := by
  unfold f_Gw_replace at h
  refine q_Ct.of (lv := [(0, .ref 14), (1, .int a1), (2, .int a2)]) (by decide) ⟨rfl, rfl⟩ rfl (Nat.le_of_ble_eq_true rfl) ?_
  refine q_aloadn 1 d_Gw_replace_0 rfl 0 rfl ?_
  refine q_xget 4 d_Gw_replace_1 rfl fl_Gw_9 (by decide) rfl rfl ?_
  refine q_iloadn 5 d_Gw_replace_4 rfl 1 rfl ?_
  refine q_xiald 6 d_Gw_replace_5 rfl (by decide) (fun _ => rfl) h (fun w1 ew1 h => ?_)
  refine q_istoren (lv' := [(3, .int w1), (0, .ref 14), (1, .int a1), (2, .int a2)]) 7 d_Gw_replace_6 rfl (by decide) rfl ?_
  refine q_aloadn 8 d_Gw_replace_7 rfl 1 rfl ?_
  refine q_xget 11 d_Gw_replace_8 rfl fl_Gw_9 (by decide) rfl rfl ?_
  refine q_iloadn 12 d_Gw_replace_11 rfl 2 rfl ?_
  refine q_iloadn 13 d_Gw_replace_12 rfl 3 rfl ?_
  refine q_bipush (v := 7) 15 d_Gw_replace_13 rfl (by decide) ?_
  refine q_iand 16 d_Gw_replace_15 rfl ?_
  refine q_xiast 17 d_Gw_replace_16 rfl (by decide) (fun _ => rfl) h (fun x2 ex2 h => ?_)
  refine q_iloadn 18 d_Gw_replace_17 rfl 0 rfl ?_
  cases h
  exact q_iret d_Gw_replace_18 rfl (Nat.zero_le _) (Nat.zero_le _)
set_option maxHeartbeats 4000000 in
set_option maxRecDepth 100000 in
theorem t_D_set {E : q_E} {c d : Nat} (hcd : q_cd c d) {x : q_W} {a1 : Int32} {a2 : Int32} {ρ : (Int32 ⊕ Nat) × q_W} (h : f_D_set c d x a1 a2 = some ρ) : q_Ct E y_D_set m_D_set (q_rm 6) (q_cells E c d x) [.ref 0, .int a1, .int a2] (q_rT E c d false ρ) := by
  rcases hcd with ⟨rfl, rfl⟩ | ⟨rfl, rfl⟩
  · unfold f_D_set at h
    refine q_Ct.of (lv := [(0, .ref 0), (1, .int a1), (2, .int a2)]) (by decide) ⟨rfl, rfl⟩ rfl (Nat.le_of_ble_eq_true rfl) ?_
    refine q_iloadn 1 d_D_set_0 rfl 1 rfl ?_
    refine q_ite h (fun c4 h => ?_) (fun c4 h => ?_)
    · refine q_if_lt_t 15 d_D_set_1 (by decide) c4 ?_
      cases h
      exact q_throw_D_set_15
    · refine q_if_lt_f 4 d_D_set_1 rfl 15 (by decide) c4 ?_
      refine q_iloadn 5 d_D_set_4 rfl 1 rfl ?_
      refine q_aloadn 6 d_D_set_5 rfl 0 rfl ?_
      refine q_xget 9 d_D_set_6 rfl fl_D_33 (by decide) rfl rfl ?_
      refine q_xcallP (as := [.ref 14]) (rest := [.int a1]) 12 h (fun z e => t_Gw_size e) (q_xinvV (Y := m_Gw_size) d_D_set_9 ml_D_148 ms_Gw_size.1 ms_Gw_size.2 k_Gw_size.1 (by decide) n_Gw_size (by decide) rfl rfl) k_Gw_size (q_ro (by decide) (by decide)) (Nat.le_of_ble_eq_true rfl) d_D_set_9 rfl rfl rfl (fun w1 ew1 h => ?_)
      refine q_ite h (fun c3 h => ?_) (fun c3 h => ?_)
      · refine q_icmp_lt_t 25 d_D_set_12 (by decide) c3 ?_
        refine q_aloadn 26 d_D_set_25 rfl 0 rfl ?_
        refine q_xget 29 d_D_set_26 rfl fl_D_33 (by decide) rfl rfl ?_
        refine q_iloadn 30 d_D_set_29 rfl 1 rfl ?_
        refine q_iloadn 31 d_D_set_30 rfl 2 rfl ?_
        refine q_xcallS (as := [.ref 14, .int a1, .int a2]) (rest := []) 34 h (fun z e => t_Gw_replace e) (q_xinvV (Y := m_Gw_replace) d_D_set_31 ml_D_151 ms_Gw_replace.1 ms_Gw_replace.2 k_Gw_replace.1 (by decide) n_Gw_replace (by decide) rfl rfl) k_Gw_replace (q_ro (by decide) (by decide)) (Nat.le_of_ble_eq_true rfl) d_D_set_31 rfl rfl rfl (fun q2 eq2 h => ?_)
        cases h
        exact q_iret d_D_set_34 rfl (Nat.zero_le _) (Nat.zero_le _)
      · refine q_icmp_lt_f 15 d_D_set_12 rfl 25 (by decide) c3 ?_
        cases h
        exact q_throw_D_set_15
  · unfold f_D_set at h
    refine q_Ct.of (lv := [(0, .ref 0), (1, .int a1), (2, .int a2)]) (by decide) ⟨rfl, rfl⟩ rfl (Nat.le_of_ble_eq_true rfl) ?_
    refine q_iloadn 1 d_D_set_0 rfl 1 rfl ?_
    refine q_ite h (fun c4 h => ?_) (fun c4 h => ?_)
    · refine q_if_lt_t 15 d_D_set_1 (by decide) c4 ?_
      cases h
      exact q_throw_D_set_15
    · refine q_if_lt_f 4 d_D_set_1 rfl 15 (by decide) c4 ?_
      refine q_iloadn 5 d_D_set_4 rfl 1 rfl ?_
      refine q_aloadn 6 d_D_set_5 rfl 0 rfl ?_
      refine q_xget 9 d_D_set_6 rfl fl_D_33 (by decide) rfl rfl ?_
      refine q_xcallP (as := [.ref 14]) (rest := [.int a1]) 12 h (fun z e => t_Gw_size e) (q_xinvV (Y := m_Gw_size) d_D_set_9 ml_D_148 ms_Gw_size.1 ms_Gw_size.2 k_Gw_size.1 (by decide) n_Gw_size (by decide) rfl rfl) k_Gw_size (q_ro (by decide) (by decide)) (Nat.le_of_ble_eq_true rfl) d_D_set_9 rfl rfl rfl (fun w1 ew1 h => ?_)
      refine q_ite h (fun c3 h => ?_) (fun c3 h => ?_)
      · refine q_icmp_lt_t 25 d_D_set_12 (by decide) c3 ?_
        refine q_aloadn 26 d_D_set_25 rfl 0 rfl ?_
        refine q_xget 29 d_D_set_26 rfl fl_D_33 (by decide) rfl rfl ?_
        refine q_iloadn 30 d_D_set_29 rfl 1 rfl ?_
        refine q_iloadn 31 d_D_set_30 rfl 2 rfl ?_
        refine q_xcallS (as := [.ref 14, .int a1, .int a2]) (rest := []) 34 h (fun z e => t_Gw_replace e) (q_xinvV (Y := m_Gw_replace) d_D_set_31 ml_D_151 ms_Gw_replace.1 ms_Gw_replace.2 k_Gw_replace.1 (by decide) n_Gw_replace (by decide) rfl rfl) k_Gw_replace (q_ro (by decide) (by decide)) (Nat.le_of_ble_eq_true rfl) d_D_set_31 rfl rfl rfl (fun q2 eq2 h => ?_)
        cases h
        exact q_iret d_D_set_34 rfl (Nat.zero_le _) (Nat.zero_le _)
      · refine q_icmp_lt_f 15 d_D_set_12 rfl 25 (by decide) c3 ?_
        cases h
        exact q_throw_D_set_15
set_option maxHeartbeats 4000000 in
set_option maxRecDepth 100000 in
theorem t_Gw_take_L14 {E : q_E} {c d : Nat} {ρ : q_W} : ∀ (n : Nat) (x : q_W) (v2 : Int32), f_Gw_take_L14  n x v2 = some ρ → AW E (q_rm 2) m_Gw_take (q_cells E c d x) 0 0 14 [(0, .ref 14), (1, .ref 11), (2, .int v2)] [] (q_rV E c d ρ) := by
  intro n
  induction n with
  | zero =>
    intro x v2 h
    have h : (none : Option q_W) = some ρ := h
    cases h
  | succ n ih =>
    intro x v2 h
    unfold f_Gw_take_L14 at h
    refine q_iloadn 15 d_Gw_take_14 rfl 2 rfl ?_
    refine q_aloadn 16 d_Gw_take_15 rfl 0 rfl ?_
    refine q_xcallP (as := [.ref 14]) (rest := [.int v2]) 19 h (fun z e => t_Gw_size e) (q_xinvV (Y := m_Gw_size) d_Gw_take_16 ml_Gw_22 ms_Gw_size.1 ms_Gw_size.2 k_Gw_size.1 (by decide) n_Gw_size (by decide) rfl rfl) k_Gw_size (q_ro (by decide) (by decide)) (Nat.le_of_ble_eq_true rfl) d_Gw_take_16 rfl rfl rfl (fun w4 ew4 h => ?_)
    refine q_ite h (fun c7 h => ?_) (fun c7 h => ?_)
    · refine q_icmp_ge_t 42 d_Gw_take_19 (by decide) c7 ?_
      cases h
      exact q_vret d_Gw_take_42 rfl (Nat.zero_le _) (Nat.zero_le _)
    · refine q_icmp_ge_f 22 d_Gw_take_19 rfl 42 (by decide) c7 ?_
      refine q_aloadn 23 d_Gw_take_22 rfl 0 rfl ?_
      refine q_xget 26 d_Gw_take_23 rfl fl_Gw_9 (by decide) rfl rfl ?_
      refine q_iloadn 27 d_Gw_take_26 rfl 2 rfl ?_
      refine q_aloadn 28 d_Gw_take_27 rfl 1 rfl ?_
      refine q_iloadn 29 d_Gw_take_28 rfl 2 rfl ?_
      refine q_xcallP (as := [.ref 11, .int v2]) (rest := [.int v2, .ref 15]) 32 h (fun z e => t_Wa_stateAt e) (q_xinvV (Y := m_Wa_stateAt) d_Gw_take_29 ml_Gw_36 ms_Wa_stateAt.1 ms_Wa_stateAt.2 k_Wa_stateAt.1 (by decide) n_Wa_stateAt (by decide) rfl rfl) k_Wa_stateAt (q_ro (by decide) (by decide)) (Nat.le_of_ble_eq_true rfl) d_Gw_take_29 rfl rfl rfl (fun w5 ew5 h => ?_)
      refine q_bipush (v := 7) 34 d_Gw_take_32 rfl (by decide) ?_
      refine q_iand 35 d_Gw_take_34 rfl ?_
      refine q_xiast 36 d_Gw_take_35 rfl (by decide) (fun _ => rfl) h (fun x6 ex6 h => ?_)
      refine q_iinc (v := (v2 + 1)) (lv' := [(2, .int (v2 + 1)), (0, .ref 14), (1, .ref 11)]) 39 d_Gw_take_36 rfl 2 rfl (q_ai (by decide)) (by decide) rfl ?_
      refine q_goto 14 d_Gw_take_39 (by decide) ?_
      refine q_sub (lv' := [(0, .ref 14), (1, .ref 11), (2, .int (v2 + 1))]) [1, 2, 0] rfl ?_
      exact ih _ _ h
set_option maxHeartbeats 4000000 in
set_option maxRecDepth 100000 in
theorem t_Gw_take {E : q_E} {c d : Nat} {x : q_W} {ρ : q_W} (h : f_Gw_take x = some ρ) : q_Ct E y_Gw_take m_Gw_take (q_rm 2) (q_cells E c d x) [.ref 14, .ref 11] (q_rV E c d ρ) := by
  unfold f_Gw_take at h
  refine q_Ct.of (lv := [(0, .ref 14), (1, .ref 11)]) (by decide) ⟨rfl, rfl⟩ rfl (Nat.le_of_ble_eq_true rfl) ?_
  refine q_aloadn 1 d_Gw_take_0 rfl 0 rfl ?_
  refine q_aloadn 2 d_Gw_take_1 rfl 1 rfl ?_
  refine q_xcallP (as := [.ref 11]) (rest := [.ref 14]) 5 h (fun z e => t_Wa_stemLength e) (q_xinvV (Y := m_Wa_stemLength) d_Gw_take_2 ml_Gw_26 ms_Wa_stemLength.1 ms_Wa_stemLength.2 k_Wa_stemLength.1 (by decide) n_Wa_stemLength (by decide) rfl rfl) k_Wa_stemLength (q_ro (by decide) (by decide)) (Nat.le_of_ble_eq_true rfl) d_Gw_take_2 rfl rfl rfl (fun w1 ew1 h => ?_)
  refine q_aloadn 6 d_Gw_take_5 rfl 1 rfl ?_
  refine q_xcallP (as := [.ref 11]) (rest := [.int w1, .ref 14]) 9 h (fun z e => t_Wa_loopLength e) (q_xinvV (Y := m_Wa_loopLength) d_Gw_take_6 ml_Gw_30 ms_Wa_loopLength.1 ms_Wa_loopLength.2 k_Wa_loopLength.1 (by decide) n_Wa_loopLength (by decide) rfl rfl) k_Wa_loopLength (q_ro (by decide) (by decide)) (Nat.le_of_ble_eq_true rfl) d_Gw_take_6 rfl rfl rfl (fun w2 ew2 h => ?_)
  refine q_xcallV (as := [.ref 14, .int w1, .int w2]) (rest := []) 12 h (fun z e => t_Gw_reshape e) (q_xinvV (Y := m_Gw_reshape) d_Gw_take_9 ml_Gw_32 ms_Gw_reshape.1 ms_Gw_reshape.2 k_Gw_reshape.1 (by decide) n_Gw_reshape (by decide) rfl rfl) k_Gw_reshape (q_ro (by decide) (by decide)) (Nat.le_of_ble_eq_true rfl) d_Gw_take_9 rfl rfl rfl (fun x3 ex3 h => ?_)
  refine q_iconst (v := 0) 13 d_Gw_take_12 rfl (by decide) ?_
  refine q_istoren (lv' := [(2, .int 0), (0, .ref 14), (1, .ref 11)]) 14 d_Gw_take_13 rfl (by decide) rfl ?_
  refine q_sub (lv' := [(0, .ref 14), (1, .ref 11), (2, .int 0)]) [1, 2, 0] rfl ?_
  exact t_Gw_take_L14  q_fu _ _ h
set_option maxHeartbeats 4000000 in
set_option maxRecDepth 100000 in
theorem t_D_adopt {E : q_E} {c d : Nat} (hcd : q_cd c d) {x : q_W} {ρ : (Int32 ⊕ Nat) × q_W} (h : f_D_adopt c d x = some ρ) : q_Ct E y_D_adopt m_D_adopt (q_rm 7) (q_cells E c d x) [.ref 0] (q_rT E c d false ρ) := by
  rcases hcd with ⟨rfl, rfl⟩ | ⟨rfl, rfl⟩
  · unfold f_D_adopt at h
    refine q_Ct.of (lv := [(0, .ref 0)]) (by decide) ⟨rfl, rfl⟩ rfl (Nat.le_of_ble_eq_true rfl) ?_
    refine q_aloadn 1 d_D_adopt_0 rfl 0 rfl ?_
    refine q_xcallPT (as := [.ref 0]) (rest := []) 4 h (fun z e => t_D_requireFormula (Or.inl ⟨rfl, rfl⟩) e) (q_xinvV (Y := m_D_requireFormula) d_D_adopt_1 ml_D_85 ms_D_requireFormula.1 ms_D_requireFormula.2 k_D_requireFormula.1 (by decide) n_D_requireFormula (by decide) rfl rfl) k_D_requireFormula (q_ro (by decide) (by decide)) (Nat.le_of_ble_eq_true rfl) d_D_adopt_1 rfl rfl rfl rfl (fun w1 ew1 h => ?_)
    refine q_aloadn 5 d_D_adopt_4 rfl 0 rfl ?_
    refine q_xcallV (as := [.ref 0]) (rest := []) 8 h (fun z e => t_D_settle (Or.inl ⟨rfl, rfl⟩) e) (q_xinvV (Y := m_D_settle) d_D_adopt_5 ml_D_105 ms_D_settle.1 ms_D_settle.2 k_D_settle.1 (by decide) n_D_settle (by decide) rfl rfl) k_D_settle (q_ro (by decide) (by decide)) (Nat.le_of_ble_eq_true rfl) d_D_adopt_5 rfl rfl rfl (fun x3 ex3 h => ?_)
    refine q_aloadn 9 d_D_adopt_8 rfl 0 rfl ?_
    refine q_xget 12 d_D_adopt_9 rfl fl_D_26 (by decide) rfl rfl ?_
    refine q_xcallP (as := [.ref 11]) (rest := []) 15 h (fun z e => t_Wa_exists e) (q_xinvV (Y := m_Wa_exists) d_D_adopt_12 ml_D_115 ms_Wa_exists.1 ms_Wa_exists.2 k_Wa_exists.1 (by decide) n_Wa_exists (by decide) rfl rfl) k_Wa_exists (q_ro (by decide) (by decide)) (Nat.le_of_ble_eq_true rfl) d_D_adopt_12 rfl rfl rfl (fun w4 ew4 h => ?_)
    refine q_ite h (fun c10 h => ?_) (fun c10 h => ?_)
    · refine q_if_eq_t 38 d_D_adopt_15 (by decide) c10 ?_
      refine q_iconst (v := 0) 39 d_D_adopt_38 rfl (by decide) ?_
      cases h
      exact q_zret d_D_adopt_39 rfl (Nat.zero_le _) (Nat.zero_le _)
    · refine q_if_eq_f 18 d_D_adopt_15 rfl 38 (by decide) c10 ?_
      refine q_aloadn 19 d_D_adopt_18 rfl 0 rfl ?_
      refine q_xget 22 d_D_adopt_19 rfl fl_D_26 (by decide) rfl rfl ?_
      refine q_xcallP (as := [.ref 11]) (rest := []) 25 h (fun z e => t_Wa_stemLength e) (q_xinvV (Y := m_Wa_stemLength) d_D_adopt_22 ml_D_119 ms_Wa_stemLength.1 ms_Wa_stemLength.2 k_Wa_stemLength.1 (by decide) n_Wa_stemLength (by decide) rfl rfl) k_Wa_stemLength (q_ro (by decide) (by decide)) (Nat.le_of_ble_eq_true rfl) d_D_adopt_22 rfl rfl rfl (fun w5 ew5 h => ?_)
      refine q_aloadn 26 d_D_adopt_25 rfl 0 rfl ?_
      refine q_xget 29 d_D_adopt_26 rfl fl_D_26 (by decide) rfl rfl ?_
      refine q_xcallP (as := [.ref 11]) (rest := [.int w5]) 32 h (fun z e => t_Wa_loopLength e) (q_xinvV (Y := m_Wa_loopLength) d_D_adopt_29 ml_D_122 ms_Wa_loopLength.1 ms_Wa_loopLength.2 k_Wa_loopLength.1 (by decide) n_Wa_loopLength (by decide) rfl rfl) k_Wa_loopLength (q_ro (by decide) (by decide)) (Nat.le_of_ble_eq_true rfl) d_D_adopt_29 rfl rfl rfl (fun w6 ew6 h => ?_)
      refine q_xcallP (as := [.int w5, .int w6]) (rest := []) 35 h (fun z e => t_Gw_fits e) (q_invS (Y := m_Gw_fits) d_D_adopt_32 ml_D_139 ms_Gw_fits k_Gw_fits.2 k_Gw_fits.1 (by decide) n_Gw_fits) k_Gw_fits (q_ro (by decide) (by decide)) (Nat.le_of_ble_eq_true rfl) d_D_adopt_32 rfl rfl rfl (fun w7 ew7 h => ?_)
      refine q_ite h (fun c9 h => ?_) (fun c9 h => ?_)
      · refine q_if_ne_t 40 d_D_adopt_35 (by decide) c9 ?_
        refine q_aloadn 41 d_D_adopt_40 rfl 0 rfl ?_
        refine q_xget 44 d_D_adopt_41 rfl fl_D_33 (by decide) rfl rfl ?_
        refine q_aloadn 45 d_D_adopt_44 rfl 0 rfl ?_
        refine q_xget 48 d_D_adopt_45 rfl fl_D_26 (by decide) rfl rfl ?_
        refine q_xcallV (as := [.ref 14, .ref 11]) (rest := []) 51 h (fun z e => t_Gw_take e) (q_xinvV (Y := m_Gw_take) d_D_adopt_48 ml_D_155 ms_Gw_take.1 ms_Gw_take.2 k_Gw_take.1 (by decide) n_Gw_take (by decide) rfl rfl) k_Gw_take (q_ro (by decide) (by decide)) (Nat.le_of_ble_eq_true rfl) d_D_adopt_48 rfl rfl rfl (fun x8 ex8 h => ?_)
        refine q_iconst (v := 1) 52 d_D_adopt_51 rfl (by decide) ?_
        cases h
        exact q_zret d_D_adopt_52 rfl (Nat.zero_le _) (Nat.zero_le _)
      · refine q_if_ne_f 38 d_D_adopt_35 rfl 40 (by decide) (Classical.not_not.mp c9) ?_
        refine q_iconst (v := 0) 39 d_D_adopt_38 rfl (by decide) ?_
        cases h
        exact q_zret d_D_adopt_39 rfl (Nat.zero_le _) (Nat.zero_le _)
  · unfold f_D_adopt at h
    refine q_Ct.of (lv := [(0, .ref 0)]) (by decide) ⟨rfl, rfl⟩ rfl (Nat.le_of_ble_eq_true rfl) ?_
    refine q_aloadn 1 d_D_adopt_0 rfl 0 rfl ?_
    refine q_xcallPT (as := [.ref 0]) (rest := []) 4 h (fun z e => t_D_requireFormula (Or.inr ⟨rfl, rfl⟩) e) (q_xinvV (Y := m_D_requireFormula) d_D_adopt_1 ml_D_85 ms_D_requireFormula.1 ms_D_requireFormula.2 k_D_requireFormula.1 (by decide) n_D_requireFormula (by decide) rfl rfl) k_D_requireFormula (q_ro (by decide) (by decide)) (Nat.le_of_ble_eq_true rfl) d_D_adopt_1 rfl rfl rfl rfl (fun w1 ew1 h => ?_)
    refine q_aloadn 5 d_D_adopt_4 rfl 0 rfl ?_
    refine q_xcallV (as := [.ref 0]) (rest := []) 8 h (fun z e => t_D_settle (Or.inr ⟨rfl, rfl⟩) e) (q_xinvV (Y := m_D_settle) d_D_adopt_5 ml_D_105 ms_D_settle.1 ms_D_settle.2 k_D_settle.1 (by decide) n_D_settle (by decide) rfl rfl) k_D_settle (q_ro (by decide) (by decide)) (Nat.le_of_ble_eq_true rfl) d_D_adopt_5 rfl rfl rfl (fun x3 ex3 h => ?_)
    refine q_aloadn 9 d_D_adopt_8 rfl 0 rfl ?_
    refine q_xget 12 d_D_adopt_9 rfl fl_D_26 (by decide) rfl rfl ?_
    refine q_xcallP (as := [.ref 11]) (rest := []) 15 h (fun z e => t_Wa_exists e) (q_xinvV (Y := m_Wa_exists) d_D_adopt_12 ml_D_115 ms_Wa_exists.1 ms_Wa_exists.2 k_Wa_exists.1 (by decide) n_Wa_exists (by decide) rfl rfl) k_Wa_exists (q_ro (by decide) (by decide)) (Nat.le_of_ble_eq_true rfl) d_D_adopt_12 rfl rfl rfl (fun w4 ew4 h => ?_)
    refine q_ite h (fun c10 h => ?_) (fun c10 h => ?_)
    · refine q_if_eq_t 38 d_D_adopt_15 (by decide) c10 ?_
      refine q_iconst (v := 0) 39 d_D_adopt_38 rfl (by decide) ?_
      cases h
      exact q_zret d_D_adopt_39 rfl (Nat.zero_le _) (Nat.zero_le _)
    · refine q_if_eq_f 18 d_D_adopt_15 rfl 38 (by decide) c10 ?_
      refine q_aloadn 19 d_D_adopt_18 rfl 0 rfl ?_
      refine q_xget 22 d_D_adopt_19 rfl fl_D_26 (by decide) rfl rfl ?_
      refine q_xcallP (as := [.ref 11]) (rest := []) 25 h (fun z e => t_Wa_stemLength e) (q_xinvV (Y := m_Wa_stemLength) d_D_adopt_22 ml_D_119 ms_Wa_stemLength.1 ms_Wa_stemLength.2 k_Wa_stemLength.1 (by decide) n_Wa_stemLength (by decide) rfl rfl) k_Wa_stemLength (q_ro (by decide) (by decide)) (Nat.le_of_ble_eq_true rfl) d_D_adopt_22 rfl rfl rfl (fun w5 ew5 h => ?_)
      refine q_aloadn 26 d_D_adopt_25 rfl 0 rfl ?_
      refine q_xget 29 d_D_adopt_26 rfl fl_D_26 (by decide) rfl rfl ?_
      refine q_xcallP (as := [.ref 11]) (rest := [.int w5]) 32 h (fun z e => t_Wa_loopLength e) (q_xinvV (Y := m_Wa_loopLength) d_D_adopt_29 ml_D_122 ms_Wa_loopLength.1 ms_Wa_loopLength.2 k_Wa_loopLength.1 (by decide) n_Wa_loopLength (by decide) rfl rfl) k_Wa_loopLength (q_ro (by decide) (by decide)) (Nat.le_of_ble_eq_true rfl) d_D_adopt_29 rfl rfl rfl (fun w6 ew6 h => ?_)
      refine q_xcallP (as := [.int w5, .int w6]) (rest := []) 35 h (fun z e => t_Gw_fits e) (q_invS (Y := m_Gw_fits) d_D_adopt_32 ml_D_139 ms_Gw_fits k_Gw_fits.2 k_Gw_fits.1 (by decide) n_Gw_fits) k_Gw_fits (q_ro (by decide) (by decide)) (Nat.le_of_ble_eq_true rfl) d_D_adopt_32 rfl rfl rfl (fun w7 ew7 h => ?_)
      refine q_ite h (fun c9 h => ?_) (fun c9 h => ?_)
      · refine q_if_ne_t 40 d_D_adopt_35 (by decide) c9 ?_
        refine q_aloadn 41 d_D_adopt_40 rfl 0 rfl ?_
        refine q_xget 44 d_D_adopt_41 rfl fl_D_33 (by decide) rfl rfl ?_
        refine q_aloadn 45 d_D_adopt_44 rfl 0 rfl ?_
        refine q_xget 48 d_D_adopt_45 rfl fl_D_26 (by decide) rfl rfl ?_
        refine q_xcallV (as := [.ref 14, .ref 11]) (rest := []) 51 h (fun z e => t_Gw_take e) (q_xinvV (Y := m_Gw_take) d_D_adopt_48 ml_D_155 ms_Gw_take.1 ms_Gw_take.2 k_Gw_take.1 (by decide) n_Gw_take (by decide) rfl rfl) k_Gw_take (q_ro (by decide) (by decide)) (Nat.le_of_ble_eq_true rfl) d_D_adopt_48 rfl rfl rfl (fun x8 ex8 h => ?_)
        refine q_iconst (v := 1) 52 d_D_adopt_51 rfl (by decide) ?_
        cases h
        exact q_zret d_D_adopt_52 rfl (Nat.zero_le _) (Nat.zero_le _)
      · refine q_if_ne_f 38 d_D_adopt_35 rfl 40 (by decide) (Classical.not_not.mp c9) ?_
        refine q_iconst (v := 0) 39 d_D_adopt_38 rfl (by decide) ?_
        cases h
        exact q_zret d_D_adopt_39 rfl (Nat.zero_le _) (Nat.zero_le _)
set_option maxHeartbeats 4000000 in
set_option maxRecDepth 100000 in
theorem t_D_requirePlace {E : q_E} {c d : Nat} (hcd : q_cd c d) {x : q_W} {a1 : Int32} {ρ : Int32 ⊕ Nat} (h : f_D_requirePlace c d x a1 = some ρ) : q_Ct E y_D_requirePlace m_D_requirePlace (q_rm 6) (q_cells E c d x) [.ref 0, .int a1] (q_rPT E c d true x ρ) := by
  rcases hcd with ⟨rfl, rfl⟩ | ⟨rfl, rfl⟩
  · unfold f_D_requirePlace at h
    refine q_Ct.of (lv := [(0, .ref 0), (1, .int a1)]) (by decide) ⟨rfl, rfl⟩ rfl (Nat.le_of_ble_eq_true rfl) ?_
    refine q_iloadn 1 d_D_requirePlace_0 rfl 1 rfl ?_
    refine q_ite h (fun c1 h => ?_) (fun c1 h => ?_)
    · refine q_if_ge_t 14 d_D_requirePlace_1 (by decide) c1 ?_
      cases h
      exact q_vret d_D_requirePlace_14 rfl (Nat.zero_le _) (Nat.zero_le _)
    · refine q_if_ge_f 4 d_D_requirePlace_1 rfl 14 (by decide) c1 ?_
      cases h
      exact q_throw_D_requirePlace_4
  · unfold f_D_requirePlace at h
    refine q_Ct.of (lv := [(0, .ref 0), (1, .int a1)]) (by decide) ⟨rfl, rfl⟩ rfl (Nat.le_of_ble_eq_true rfl) ?_
    refine q_iloadn 1 d_D_requirePlace_0 rfl 1 rfl ?_
    refine q_ite h (fun c1 h => ?_) (fun c1 h => ?_)
    · refine q_if_ge_t 14 d_D_requirePlace_1 (by decide) c1 ?_
      cases h
      exact q_vret d_D_requirePlace_14 rfl (Nat.zero_le _) (Nat.zero_le _)
    · refine q_if_ge_f 4 d_D_requirePlace_1 rfl 14 (by decide) c1 ?_
      cases h
      exact q_throw_D_requirePlace_4
set_option maxHeartbeats 4000000 in
set_option maxRecDepth 100000 in
theorem t_Gw_indexOf {E : q_E} {c d : Nat} {x : q_W} {a1 : Int32} {ρ : Int32} (h : f_Gw_indexOf x a1 = some ρ) : q_Ct E y_Gw_indexOf m_Gw_indexOf (q_rm 1) (q_cells E c d x) [.ref 14, .int a1] (q_rP E c d x ρ) := by
  unfold f_Gw_indexOf at h
  refine q_Ct.of (lv := [(0, .ref 14), (1, .int a1)]) (by decide) ⟨rfl, rfl⟩ rfl (Nat.le_of_ble_eq_true rfl) ?_
  refine q_iloadn 1 d_Gw_indexOf_0 rfl 1 rfl ?_
  refine q_aloadn 2 d_Gw_indexOf_1 rfl 0 rfl ?_
  refine q_xcallP (as := [.ref 14]) (rest := [.int a1]) 5 h (fun z e => t_Gw_size e) (q_xinvV (Y := m_Gw_size) d_Gw_indexOf_2 ml_Gw_22 ms_Gw_size.1 ms_Gw_size.2 k_Gw_size.1 (by decide) n_Gw_size (by decide) rfl rfl) k_Gw_size (q_ro (by decide) (by decide)) (Nat.le_of_ble_eq_true rfl) d_Gw_indexOf_2 rfl rfl rfl (fun w1 ew1 h => ?_)
  refine q_ite h (fun c3 h => ?_) (fun c3 h => ?_)
  · refine q_icmp_lt_t 16 d_Gw_indexOf_5 (by decide) c3 ?_
    refine q_iloadn 17 d_Gw_indexOf_16 rfl 1 rfl ?_
    refine q_goto 36 d_Gw_indexOf_17 (by decide) ?_
    cases h
    exact q_iret d_Gw_indexOf_36 rfl (Nat.zero_le _) (Nat.zero_le _)
  · refine q_icmp_lt_f 8 d_Gw_indexOf_5 rfl 16 (by decide) c3 ?_
    refine q_aloadn 9 d_Gw_indexOf_8 rfl 0 rfl ?_
    refine q_xget 12 d_Gw_indexOf_9 rfl fl_Gw_19 (by decide) rfl rfl ?_
    refine q_iconst (v := 1) 13 d_Gw_indexOf_12 rfl (by decide) ?_
    refine q_ite h (fun c2 h => ?_) (fun c2 h => ?_)
    · refine q_icmp_ge_t 20 d_Gw_indexOf_13 (by decide) c2 ?_
      refine q_aloadn 21 d_Gw_indexOf_20 rfl 0 rfl ?_
      refine q_xget 24 d_Gw_indexOf_21 rfl fl_Gw_15 (by decide) rfl rfl ?_
      refine q_iloadn 25 d_Gw_indexOf_24 rfl 1 rfl ?_
      refine q_aloadn 26 d_Gw_indexOf_25 rfl 0 rfl ?_
      refine q_xget 29 d_Gw_indexOf_26 rfl fl_Gw_15 (by decide) rfl rfl ?_
      refine q_isub 30 d_Gw_indexOf_29 rfl ?_
      refine q_aloadn 31 d_Gw_indexOf_30 rfl 0 rfl ?_
      refine q_xget 34 d_Gw_indexOf_31 rfl fl_Gw_19 (by decide) rfl rfl ?_
      refine q_ite h (fun c0 h => absurd h (fun q => nomatch q)) (fun c0 h => ?_)
      refine q_irem 35 d_Gw_indexOf_34 rfl c0 ?_
      refine q_iadd 36 d_Gw_indexOf_35 rfl ?_
      cases h
      exact q_iret d_Gw_indexOf_36 rfl (Nat.zero_le _) (Nat.zero_le _)
    · refine q_icmp_ge_f 16 d_Gw_indexOf_13 rfl 20 (by decide) c2 ?_
      refine q_iloadn 17 d_Gw_indexOf_16 rfl 1 rfl ?_
      refine q_goto 36 d_Gw_indexOf_17 (by decide) ?_
      cases h
      exact q_iret d_Gw_indexOf_36 rfl (Nat.zero_le _) (Nat.zero_le _)
set_option maxHeartbeats 4000000 in
set_option maxRecDepth 100000 in
theorem t_Gw_letterAt {E : q_E} {c d : Nat} {x : q_W} {a1 : Int32} {ρ : Int32} (h : f_Gw_letterAt x a1 = some ρ) : q_Ct E y_Gw_letterAt m_Gw_letterAt (q_rm 2) (q_cells E c d x) [.ref 14, .int a1] (q_rP E c d x ρ) := by
  unfold f_Gw_letterAt at h
  refine q_Ct.of (lv := [(0, .ref 14), (1, .int a1)]) (by decide) ⟨rfl, rfl⟩ rfl (Nat.le_of_ble_eq_true rfl) ?_
  refine q_aloadn 1 d_Gw_letterAt_0 rfl 0 rfl ?_
  refine q_xget 4 d_Gw_letterAt_1 rfl fl_Gw_9 (by decide) rfl rfl ?_
  refine q_aloadn 5 d_Gw_letterAt_4 rfl 0 rfl ?_
  refine q_iloadn 6 d_Gw_letterAt_5 rfl 1 rfl ?_
  refine q_xcallP (as := [.ref 14, .int a1]) (rest := [.ref 15]) 9 h (fun z e => t_Gw_indexOf e) (q_xinvV (Y := m_Gw_indexOf) d_Gw_letterAt_6 ml_Gw_40 ms_Gw_indexOf.1 ms_Gw_indexOf.2 k_Gw_indexOf.1 (by decide) n_Gw_indexOf (by decide) rfl rfl) k_Gw_indexOf (q_ro (by decide) (by decide)) (Nat.le_of_ble_eq_true rfl) d_Gw_letterAt_6 rfl rfl rfl (fun w1 ew1 h => ?_)
  refine q_xiald 10 d_Gw_letterAt_9 rfl (by decide) (fun _ => rfl) h (fun w2 ew2 h => ?_)
  cases h
  exact q_iret d_Gw_letterAt_10 rfl (Nat.zero_le _) (Nat.zero_le _)
set_option maxHeartbeats 4000000 in
set_option maxRecDepth 100000 in
theorem t_D_letter {E : q_E} {c d : Nat} (hcd : q_cd c d) {x : q_W} {a1 : Int32} {ρ : Int32 ⊕ Nat} (h : f_D_letter c d x a1 = some ρ) : q_Ct E y_D_letter m_D_letter (q_rm 7) (q_cells E c d x) [.ref 0, .int a1] (q_rPT E c d false x ρ) := by
  rcases hcd with ⟨rfl, rfl⟩ | ⟨rfl, rfl⟩
  · unfold f_D_letter at h
    refine q_Ct.of (lv := [(0, .ref 0), (1, .int a1)]) (by decide) ⟨rfl, rfl⟩ rfl (Nat.le_of_ble_eq_true rfl) ?_
    refine q_aloadn 1 d_D_letter_0 rfl 0 rfl ?_
    refine q_iloadn 2 d_D_letter_1 rfl 1 rfl ?_
    refine q_xcallPP (as := [.ref 0, .int a1]) (rest := []) 5 h (fun z e => t_D_requirePlace (Or.inl ⟨rfl, rfl⟩) e) (q_xinvV (Y := m_D_requirePlace) d_D_letter_2 ml_D_159 ms_D_requirePlace.1 ms_D_requirePlace.2 k_D_requirePlace.1 (by decide) n_D_requirePlace (by decide) rfl rfl) k_D_requirePlace (q_ro (by decide) (by decide)) (Nat.le_of_ble_eq_true rfl) d_D_letter_2 rfl rfl rfl rfl (fun w1 ew1 h => ?_)
    refine q_aloadn 6 d_D_letter_5 rfl 0 rfl ?_
    refine q_xget 9 d_D_letter_6 rfl fl_D_33 (by decide) rfl rfl ?_
    refine q_iloadn 10 d_D_letter_9 rfl 1 rfl ?_
    refine q_xcallP (as := [.ref 14, .int a1]) (rest := []) 13 h (fun z e => t_Gw_letterAt e) (q_xinvV (Y := m_Gw_letterAt) d_D_letter_10 ml_D_162 ms_Gw_letterAt.1 ms_Gw_letterAt.2 k_Gw_letterAt.1 (by decide) n_Gw_letterAt (by decide) rfl rfl) k_Gw_letterAt (q_ro (by decide) (by decide)) (Nat.le_of_ble_eq_true rfl) d_D_letter_10 rfl rfl rfl (fun w3 ew3 h => ?_)
    cases h
    exact q_iret d_D_letter_13 rfl (Nat.zero_le _) (Nat.zero_le _)
  · unfold f_D_letter at h
    refine q_Ct.of (lv := [(0, .ref 0), (1, .int a1)]) (by decide) ⟨rfl, rfl⟩ rfl (Nat.le_of_ble_eq_true rfl) ?_
    refine q_aloadn 1 d_D_letter_0 rfl 0 rfl ?_
    refine q_iloadn 2 d_D_letter_1 rfl 1 rfl ?_
    refine q_xcallPP (as := [.ref 0, .int a1]) (rest := []) 5 h (fun z e => t_D_requirePlace (Or.inr ⟨rfl, rfl⟩) e) (q_xinvV (Y := m_D_requirePlace) d_D_letter_2 ml_D_159 ms_D_requirePlace.1 ms_D_requirePlace.2 k_D_requirePlace.1 (by decide) n_D_requirePlace (by decide) rfl rfl) k_D_requirePlace (q_ro (by decide) (by decide)) (Nat.le_of_ble_eq_true rfl) d_D_letter_2 rfl rfl rfl rfl (fun w1 ew1 h => ?_)
    refine q_aloadn 6 d_D_letter_5 rfl 0 rfl ?_
    refine q_xget 9 d_D_letter_6 rfl fl_D_33 (by decide) rfl rfl ?_
    refine q_iloadn 10 d_D_letter_9 rfl 1 rfl ?_
    refine q_xcallP (as := [.ref 14, .int a1]) (rest := []) 13 h (fun z e => t_Gw_letterAt e) (q_xinvV (Y := m_Gw_letterAt) d_D_letter_10 ml_D_162 ms_Gw_letterAt.1 ms_Gw_letterAt.2 k_Gw_letterAt.1 (by decide) n_Gw_letterAt (by decide) rfl rfl) k_Gw_letterAt (q_ro (by decide) (by decide)) (Nat.le_of_ble_eq_true rfl) d_D_letter_10 rfl rfl rfl (fun w3 ew3 h => ?_)
    cases h
    exact q_iret d_D_letter_13 rfl (Nat.zero_le _) (Nat.zero_le _)
set_option maxHeartbeats 4000000 in
set_option maxRecDepth 100000 in
theorem t_Gw_allPlaces {E : q_E} {c d : Nat} {x : q_W} {ρ : Int32} (h : f_Gw_allPlaces x = some ρ) : q_Ct E y_Gw_allPlaces m_Gw_allPlaces (q_rm 1) (q_cells E c d x) [.ref 14] (q_rP E c d x ρ) := by
  unfold f_Gw_allPlaces at h
  refine q_Ct.of (lv := [(0, .ref 14)]) (by decide) ⟨rfl, rfl⟩ rfl (Nat.le_of_ble_eq_true rfl) ?_
  refine q_iconst (v := 1) 1 d_Gw_allPlaces_0 rfl (by decide) ?_
  refine q_aloadn 2 d_Gw_allPlaces_1 rfl 0 rfl ?_
  refine q_xcallP (as := [.ref 14]) (rest := [.int 1]) 5 h (fun z e => t_Gw_size e) (q_xinvV (Y := m_Gw_size) d_Gw_allPlaces_2 ml_Gw_22 ms_Gw_size.1 ms_Gw_size.2 k_Gw_size.1 (by decide) n_Gw_size (by decide) rfl rfl) k_Gw_size (q_ro (by decide) (by decide)) (Nat.le_of_ble_eq_true rfl) d_Gw_allPlaces_2 rfl rfl rfl (fun w1 ew1 h => ?_)
  refine q_ishl 6 d_Gw_allPlaces_5 rfl ?_
  refine q_iconst (v := 1) 7 d_Gw_allPlaces_6 rfl (by decide) ?_
  refine q_isub 8 d_Gw_allPlaces_7 rfl ?_
  cases h
  exact q_iret d_Gw_allPlaces_8 rfl (Nat.zero_le _) (Nat.zero_le _)
set_option maxHeartbeats 4000000 in
set_option maxRecDepth 100000 in
theorem t_Gw_placesBefore {E : q_E} {c d : Nat} {x : q_W} {a1 : Int32} {ρ : Int32} (h : f_Gw_placesBefore x a1 = some ρ) : q_Ct E y_Gw_placesBefore m_Gw_placesBefore (q_rm 1) (q_cells E c d x) [.ref 14, .int a1] (q_rP E c d x ρ) := by
  unfold f_Gw_placesBefore at h
  refine q_Ct.of (lv := [(0, .ref 14), (1, .int a1)]) (by decide) ⟨rfl, rfl⟩ rfl (Nat.le_of_ble_eq_true rfl) ?_
  refine q_iloadn 1 d_Gw_placesBefore_0 rfl 1 rfl ?_
  refine q_aloadn 2 d_Gw_placesBefore_1 rfl 0 rfl ?_
  refine q_xget 5 d_Gw_placesBefore_2 rfl fl_Gw_15 (by decide) rfl rfl ?_
  refine q_xcallP (as := [.int a1, .int (x.2 14 1)]) (rest := []) 8 h (fun z e => t_D_hasBit e) (q_invSN (Y := m_D_hasBit) d_Gw_placesBefore_5 ml_Gw_43 ms_D_hasBit k_D_hasBit.2 k_D_hasBit.1 (by decide) n_D_hasBit) k_D_hasBit (q_ro (by decide) (by decide)) (Nat.le_of_ble_eq_true rfl) d_Gw_placesBefore_5 rfl rfl rfl (fun w1 ew1 h => ?_)
  refine q_ite h (fun c4 h => ?_) (fun c4 h => ?_)
  · refine q_if_eq_t 22 d_Gw_placesBefore_8 (by decide) c4 ?_
    refine q_iconst (v := 0) 23 d_Gw_placesBefore_22 rfl (by decide) ?_
    refine q_istoren (lv' := [(2, .int 0), (0, .ref 14), (1, .int a1)]) 24 d_Gw_placesBefore_23 rfl (by decide) rfl ?_
    refine q_iloadn 25 d_Gw_placesBefore_24 rfl 2 rfl ?_
    refine q_iconst (v := 1) 26 d_Gw_placesBefore_25 rfl (by decide) ?_
    refine q_ishr 27 d_Gw_placesBefore_26 rfl ?_
    refine q_iloadn 28 d_Gw_placesBefore_27 rfl 0 rfl ?_
    refine q_ior 29 d_Gw_placesBefore_28 rfl ?_
    cases h
    exact q_iret d_Gw_placesBefore_29 rfl (Nat.zero_le _) (Nat.zero_le _)
  · refine q_if_eq_f 11 d_Gw_placesBefore_8 rfl 22 (by decide) c4 ?_
    refine q_iconst (v := 1) 12 d_Gw_placesBefore_11 rfl (by decide) ?_
    refine q_aloadn 13 d_Gw_placesBefore_12 rfl 0 rfl ?_
    refine q_xcallP (as := [.ref 14]) (rest := [.int 1]) 16 h (fun z e => t_Gw_size e) (q_xinvV (Y := m_Gw_size) d_Gw_placesBefore_13 ml_Gw_22 ms_Gw_size.1 ms_Gw_size.2 k_Gw_size.1 (by decide) n_Gw_size (by decide) rfl rfl) k_Gw_size (q_ro (by decide) (by decide)) (Nat.le_of_ble_eq_true rfl) d_Gw_placesBefore_13 rfl rfl rfl (fun w2 ew2 h => ?_)
    refine q_iconst (v := 1) 17 d_Gw_placesBefore_16 rfl (by decide) ?_
    refine q_isub 18 d_Gw_placesBefore_17 rfl ?_
    refine q_ishl 19 d_Gw_placesBefore_18 rfl ?_
    refine q_goto 23 d_Gw_placesBefore_19 (by decide) ?_
    refine q_xtop h (fun z3 ez3 h => ?_)
    refine q_istoren (lv' := [(2, .int z3), (0, .ref 14), (1, .int a1)]) 24 d_Gw_placesBefore_23 rfl (by decide) rfl ?_
    refine q_iloadn 25 d_Gw_placesBefore_24 rfl 2 rfl ?_
    refine q_iconst (v := 1) 26 d_Gw_placesBefore_25 rfl (by decide) ?_
    refine q_ishr 27 d_Gw_placesBefore_26 rfl ?_
    refine q_iloadn 28 d_Gw_placesBefore_27 rfl 0 rfl ?_
    refine q_ior 29 d_Gw_placesBefore_28 rfl ?_
    cases h
    exact q_iret d_Gw_placesBefore_29 rfl (Nat.zero_le _) (Nat.zero_le _)
set_option maxHeartbeats 4000000 in
set_option maxRecDepth 100000 in
theorem t_Gw_placesUntil_L5 {E : q_E} {c d : Nat} {ρ : Int32} : ∀ (n : Nat) (x : q_W) (v1 : Int32) (v2 : Int32) (v3 : Int32) (v4 : Int32), f_Gw_placesUntil_L5  n x v1 v2 v3 v4 = some ρ → AW E (q_rm 2) m_Gw_placesUntil (q_cells E c d x) 0 0 5 [(0, .ref 14), (1, .int v1), (2, .int v2), (3, .int v3), (4, .int v4)] [] (q_rP E c d x ρ) := by
  intro n
  induction n with
  | zero =>
    intro x v1 v2 v3 v4 h
    have h : (none : Option Int32) = some ρ := h
    cases h
  | succ n ih =>
    intro x v1 v2 v3 v4 h
    unfold f_Gw_placesUntil_L5 at h
    refine q_iload 7 d_Gw_placesUntil_5 rfl 4 rfl ?_
    refine q_aloadn 8 d_Gw_placesUntil_7 rfl 0 rfl ?_
    refine q_xcallP (as := [.ref 14]) (rest := [.int v4]) 11 h (fun z e => t_Gw_size e) (q_xinvV (Y := m_Gw_size) d_Gw_placesUntil_8 ml_Gw_22 ms_Gw_size.1 ms_Gw_size.2 k_Gw_size.1 (by decide) n_Gw_size (by decide) rfl rfl) k_Gw_size (q_ro (by decide) (by decide)) (Nat.le_of_ble_eq_true rfl) d_Gw_placesUntil_8 rfl rfl rfl (fun w1 ew1 h => ?_)
    refine q_ite h (fun c4 h => ?_) (fun c4 h => ?_)
    · refine q_icmp_ge_t 30 d_Gw_placesUntil_11 (by decide) c4 ?_
      refine q_iloadn 31 d_Gw_placesUntil_30 rfl 3 rfl ?_
      cases h
      exact q_iret d_Gw_placesUntil_31 rfl (Nat.zero_le _) (Nat.zero_le _)
    · refine q_icmp_ge_f 14 d_Gw_placesUntil_11 rfl 30 (by decide) c4 ?_
      refine q_iloadn 15 d_Gw_placesUntil_14 rfl 2 rfl ?_
      refine q_iloadn 16 d_Gw_placesUntil_15 rfl 1 rfl ?_
      refine q_aloadn 17 d_Gw_placesUntil_16 rfl 0 rfl ?_
      refine q_iloadn 18 d_Gw_placesUntil_17 rfl 3 rfl ?_
      refine q_xcallP (as := [.ref 14, .int v3]) (rest := [.int v1, .int v2]) 21 h (fun z e => t_Gw_placesBefore e) (q_xinvV (Y := m_Gw_placesBefore) d_Gw_placesUntil_18 ml_Gw_47 ms_Gw_placesBefore.1 ms_Gw_placesBefore.2 k_Gw_placesBefore.1 (by decide) n_Gw_placesBefore (by decide) rfl rfl) k_Gw_placesBefore (q_ro (by decide) (by decide)) (Nat.le_of_ble_eq_true rfl) d_Gw_placesUntil_18 rfl rfl rfl (fun w2 ew2 h => ?_)
      refine q_iand 22 d_Gw_placesUntil_21 rfl ?_
      refine q_ior 23 d_Gw_placesUntil_22 rfl ?_
      refine q_xtop h (fun z3 ez3 h => ?_)
      refine q_istoren (lv' := [(3, .int z3), (0, .ref 14), (1, .int v1), (2, .int v2), (4, .int v4)]) 24 d_Gw_placesUntil_23 rfl (by decide) rfl ?_
      refine q_iinc (v := (v4 + 1)) (lv' := [(4, .int (v4 + 1)), (3, .int z3), (0, .ref 14), (1, .int v1), (2, .int v2)]) 27 d_Gw_placesUntil_24 rfl 4 rfl (q_ai (by decide)) (by decide) rfl ?_
      refine q_goto 5 d_Gw_placesUntil_27 (by decide) ?_
      refine q_sub (lv' := [(0, .ref 14), (1, .int v1), (2, .int v2), (3, .int z3), (4, .int (v4 + 1))]) [2, 3, 4, 1, 0] rfl ?_
      exact ih _ _ _ _ _ h
set_option maxHeartbeats 4000000 in
set_option maxRecDepth 100000 in
theorem t_Gw_placesUntil {E : q_E} {c d : Nat} {x : q_W} {a1 : Int32} {a2 : Int32} {ρ : Int32} (h : f_Gw_placesUntil x a1 a2 = some ρ) : q_Ct E y_Gw_placesUntil m_Gw_placesUntil (q_rm 2) (q_cells E c d x) [.ref 14, .int a1, .int a2] (q_rP E c d x ρ) := by
  unfold f_Gw_placesUntil at h
  refine q_Ct.of (lv := [(0, .ref 14), (1, .int a1), (2, .int a2)]) (by decide) ⟨rfl, rfl⟩ rfl (Nat.le_of_ble_eq_true rfl) ?_
  refine q_iloadn 1 d_Gw_placesUntil_0 rfl 2 rfl ?_
  refine q_istoren (lv' := [(3, .int a2), (0, .ref 14), (1, .int a1), (2, .int a2)]) 2 d_Gw_placesUntil_1 rfl (by decide) rfl ?_
  refine q_iconst (v := 0) 3 d_Gw_placesUntil_2 rfl (by decide) ?_
  refine q_istore (lv' := [(4, .int 0), (3, .int a2), (0, .ref 14), (1, .int a1), (2, .int a2)]) 5 d_Gw_placesUntil_3 rfl (by decide) rfl ?_
  refine q_sub (lv' := [(0, .ref 14), (1, .int a1), (2, .int a2), (3, .int a2), (4, .int 0)]) [2, 3, 4, 1, 0] rfl ?_
  exact t_Gw_placesUntil_L5  q_fu _ _ _ _ _ h
set_option maxHeartbeats 4000000 in
set_option maxRecDepth 100000 in
theorem t_Gw_placesWith_L4 {E : q_E} {c d : Nat} {ρ : Int32} : ∀ (n : Nat) (x : q_W) (v1 : Int32) (v2 : Int32) (v3 : Int32), f_Gw_placesWith_L4  n x v1 v2 v3 = some ρ → AW E (q_rm 1) m_Gw_placesWith (q_cells E c d x) 0 0 4 [(0, .ref 14), (1, .int v1), (2, .int v2), (3, .int v3)] [] (q_rP E c d x ρ) := by
  intro n
  induction n with
  | zero =>
    intro x v1 v2 v3 h
    have h : (none : Option Int32) = some ρ := h
    cases h
  | succ n ih =>
    intro x v1 v2 v3 h
    unfold f_Gw_placesWith_L4 at h
    refine q_iloadn 5 d_Gw_placesWith_4 rfl 3 rfl ?_
    refine q_aloadn 6 d_Gw_placesWith_5 rfl 0 rfl ?_
    refine q_xcallP (as := [.ref 14]) (rest := [.int v3]) 9 h (fun z e => t_Gw_size e) (q_xinvV (Y := m_Gw_size) d_Gw_placesWith_6 ml_Gw_22 ms_Gw_size.1 ms_Gw_size.2 k_Gw_size.1 (by decide) n_Gw_size (by decide) rfl rfl) k_Gw_size (q_ro (by decide) (by decide)) (Nat.le_of_ble_eq_true rfl) d_Gw_placesWith_6 rfl rfl rfl (fun w1 ew1 h => ?_)
    refine q_ite h (fun c6 h => ?_) (fun c6 h => ?_)
    · refine q_icmp_ge_t 37 d_Gw_placesWith_9 (by decide) c6 ?_
      refine q_iloadn 38 d_Gw_placesWith_37 rfl 2 rfl ?_
      cases h
      exact q_iret d_Gw_placesWith_38 rfl (Nat.zero_le _) (Nat.zero_le _)
    · refine q_icmp_ge_f 12 d_Gw_placesWith_9 rfl 37 (by decide) c6 ?_
      refine q_aloadn 13 d_Gw_placesWith_12 rfl 0 rfl ?_
      refine q_xget 16 d_Gw_placesWith_13 rfl fl_Gw_9 (by decide) rfl rfl ?_
      refine q_iloadn 17 d_Gw_placesWith_16 rfl 3 rfl ?_
      refine q_xiald 18 d_Gw_placesWith_17 rfl (by decide) (fun _ => rfl) h (fun w2 ew2 h => ?_)
      refine q_iloadn 19 d_Gw_placesWith_18 rfl 1 rfl ?_
      refine q_xcallP (as := [.int w2, .int v1]) (rest := []) 22 h (fun z e => t_D_hasBit e) (q_invSN (Y := m_D_hasBit) d_Gw_placesWith_19 ml_Gw_43 ms_D_hasBit k_D_hasBit.2 k_D_hasBit.1 (by decide) n_D_hasBit) k_D_hasBit (q_ro (by decide) (by decide)) (Nat.le_of_ble_eq_true rfl) d_Gw_placesWith_19 rfl rfl rfl (fun w3 ew3 h => ?_)
      refine q_ite h (fun c5 h => ?_) (fun c5 h => ?_)
      · refine q_if_eq_t 31 d_Gw_placesWith_22 (by decide) c5 ?_
        refine q_iinc (v := (v3 + 1)) (lv' := [(3, .int (v3 + 1)), (0, .ref 14), (1, .int v1), (2, .int v2)]) 34 d_Gw_placesWith_31 rfl 3 rfl (q_ai (by decide)) (by decide) rfl ?_
        refine q_goto 4 d_Gw_placesWith_34 (by decide) ?_
        refine q_sub (lv' := [(0, .ref 14), (1, .int v1), (2, .int v2), (3, .int (v3 + 1))]) [1, 2, 3, 0] rfl ?_
        exact ih _ _ _ _ h
      · refine q_if_eq_f 25 d_Gw_placesWith_22 rfl 31 (by decide) c5 ?_
        refine q_iloadn 26 d_Gw_placesWith_25 rfl 2 rfl ?_
        refine q_iconst (v := 1) 27 d_Gw_placesWith_26 rfl (by decide) ?_
        refine q_iloadn 28 d_Gw_placesWith_27 rfl 3 rfl ?_
        refine q_ishl 29 d_Gw_placesWith_28 rfl ?_
        refine q_ior 30 d_Gw_placesWith_29 rfl ?_
        refine q_xtop h (fun z4 ez4 h => ?_)
        refine q_istoren (lv' := [(2, .int z4), (0, .ref 14), (1, .int v1), (3, .int v3)]) 31 d_Gw_placesWith_30 rfl (by decide) rfl ?_
        refine q_iinc (v := (v3 + 1)) (lv' := [(3, .int (v3 + 1)), (2, .int z4), (0, .ref 14), (1, .int v1)]) 34 d_Gw_placesWith_31 rfl 3 rfl (q_ai (by decide)) (by decide) rfl ?_
        refine q_goto 4 d_Gw_placesWith_34 (by decide) ?_
        refine q_sub (lv' := [(0, .ref 14), (1, .int v1), (2, .int z4), (3, .int (v3 + 1))]) [2, 3, 1, 0] rfl ?_
        exact ih _ _ _ _ h
set_option maxHeartbeats 4000000 in
set_option maxRecDepth 100000 in
theorem t_Gw_placesWith {E : q_E} {c d : Nat} {x : q_W} {a1 : Int32} {ρ : Int32} (h : f_Gw_placesWith x a1 = some ρ) : q_Ct E y_Gw_placesWith m_Gw_placesWith (q_rm 1) (q_cells E c d x) [.ref 14, .int a1] (q_rP E c d x ρ) := by
  unfold f_Gw_placesWith at h
  refine q_Ct.of (lv := [(0, .ref 14), (1, .int a1)]) (by decide) ⟨rfl, rfl⟩ rfl (Nat.le_of_ble_eq_true rfl) ?_
  refine q_iconst (v := 0) 1 d_Gw_placesWith_0 rfl (by decide) ?_
  refine q_istoren (lv' := [(2, .int 0), (0, .ref 14), (1, .int a1)]) 2 d_Gw_placesWith_1 rfl (by decide) rfl ?_
  refine q_iconst (v := 0) 3 d_Gw_placesWith_2 rfl (by decide) ?_
  refine q_istoren (lv' := [(3, .int 0), (2, .int 0), (0, .ref 14), (1, .int a1)]) 4 d_Gw_placesWith_3 rfl (by decide) rfl ?_
  refine q_sub (lv' := [(0, .ref 14), (1, .int a1), (2, .int 0), (3, .int 0)]) [2, 3, 1, 0] rfl ?_
  exact t_Gw_placesWith_L4  q_fu _ _ _ _ h
set_option maxHeartbeats 4000000 in
set_option maxRecDepth 100000 in
theorem t_Fo_partPlaces {E : q_E} {c d : Nat} {f : Nat} (hf : f = 16 ∨ f = 24) {x : q_W} {a1 : Int32} {ρ : Int32} (h : f_Fo_partPlaces f x a1 = some ρ) : q_Ct E y_Fo_partPlaces m_Fo_partPlaces (q_rm 3) (q_cells E c d x) [.ref f, .int a1, .ref 14] (q_rP E c d x ρ) := by
  rcases hf with rfl | rfl
  · unfold f_Fo_partPlaces at h
    refine q_Ct.of (lv := [(0, .ref 16), (1, .int a1), (2, .ref 14)]) (by decide) ⟨rfl, rfl⟩ rfl (Nat.le_of_ble_eq_true rfl) ?_
    refine q_aloadn 1 d_Fo_partPlaces_0 rfl 2 rfl ?_
    refine q_xcallP (as := [.ref 14]) (rest := []) 4 h (fun z e => t_Gw_allPlaces e) (q_xinvV (Y := m_Gw_allPlaces) d_Fo_partPlaces_1 ml_Fo_62 ms_Gw_allPlaces.1 ms_Gw_allPlaces.2 k_Gw_allPlaces.1 (by decide) n_Gw_allPlaces (by decide) rfl rfl) k_Gw_allPlaces (q_ro (by decide) (by decide)) (Nat.le_of_ble_eq_true rfl) d_Fo_partPlaces_1 rfl rfl rfl (fun w1 ew1 h => ?_)
    refine q_istoren (lv' := [(3, .int w1), (0, .ref 16), (1, .int a1), (2, .ref 14)]) 5 d_Fo_partPlaces_4 rfl (by decide) rfl ?_
    refine q_aloadn 6 d_Fo_partPlaces_5 rfl 1 rfl ?_
    refine q_xget 9 d_Fo_partPlaces_6 rfl fl_Fo_30 (by decide) rfl rfl ?_
    refine q_aloadn 10 d_Fo_partPlaces_9 rfl 1 rfl ?_
    refine q_xget 13 d_Fo_partPlaces_10 rfl fl_Fo_15 (by decide) rfl rfl ?_
    refine q_iloadn 14 d_Fo_partPlaces_13 rfl 2 rfl ?_
    refine q_xiald 15 d_Fo_partPlaces_14 rfl (by decide) (fun _ => rfl) h (fun w2 ew2 h => ?_)
    refine q_xiald 16 d_Fo_partPlaces_15 rfl (by decide) (fun _ => rfl) h (fun w3 ew3 h => ?_)
    refine q_istore (lv' := [(4, .int w3), (3, .int w1), (0, .ref 16), (1, .int a1), (2, .ref 14)]) 18 d_Fo_partPlaces_16 rfl (by decide) rfl ?_
    refine q_aloadn 19 d_Fo_partPlaces_18 rfl 2 rfl ?_
    refine q_xget 22 d_Fo_partPlaces_19 rfl fl_Fo_30 (by decide) rfl rfl ?_
    refine q_aloadn 23 d_Fo_partPlaces_22 rfl 2 rfl ?_
    refine q_xget 26 d_Fo_partPlaces_23 rfl fl_Fo_18 (by decide) rfl rfl ?_
    refine q_iloadn 27 d_Fo_partPlaces_26 rfl 3 rfl ?_
    refine q_xiald 28 d_Fo_partPlaces_27 rfl (by decide) (fun _ => rfl) h (fun w4 ew4 h => ?_)
    refine q_xiald 29 d_Fo_partPlaces_28 rfl (by decide) (fun _ => rfl) h (fun w5 ew5 h => ?_)
    refine q_istore (lv' := [(5, .int w5), (4, .int w3), (3, .int w1), (0, .ref 16), (1, .int a1), (2, .ref 14)]) 31 d_Fo_partPlaces_29 rfl (by decide) rfl ?_
    refine q_aloadn 32 d_Fo_partPlaces_31 rfl 3 rfl ?_
    refine q_xget 35 d_Fo_partPlaces_32 rfl fl_Fo_9 (by decide) rfl rfl ?_
    refine q_iloadn 36 d_Fo_partPlaces_35 rfl 4 rfl ?_
    refine q_xiald 37 d_Fo_partPlaces_36 rfl (by decide) (fun _ => rfl) h (fun w6 ew6 h => ?_)
    refine q_ite h (fun c7 h => ?_) (fun c7 h => ?_)
    · refine q_lookup 172 d_Fo_partPlaces_37 (by decide) (by rw [c7] <;> decide +kernel) (by decide) ?_
      refine q_iloadn 173 d_Fo_partPlaces_172 rfl 2 rfl ?_
      refine q_iload 175 d_Fo_partPlaces_173 rfl 0 rfl ?_
      refine q_iconst (v := (-1)) 176 d_Fo_partPlaces_175 rfl (by decide) ?_
      refine q_ixor 177 d_Fo_partPlaces_176 rfl ?_
      refine q_iand 178 d_Fo_partPlaces_177 rfl ?_
      cases h
      exact q_iret d_Fo_partPlaces_178 rfl (Nat.zero_le _) (Nat.zero_le _)
    · refine q_ite h (fun c8 h => ?_) (fun c8 h => ?_)
      · refine q_lookup 179 d_Fo_partPlaces_37 (by decide) (by rw [c8] <;> decide +kernel) (by decide) ?_
        refine q_iload 181 d_Fo_partPlaces_179 rfl 1 rfl ?_
        refine q_iload 183 d_Fo_partPlaces_181 rfl 0 rfl ?_
        refine q_iand 184 d_Fo_partPlaces_183 rfl ?_
        cases h
        exact q_iret d_Fo_partPlaces_184 rfl (Nat.zero_le _) (Nat.zero_le _)
      · refine q_ite h (fun c9 h => ?_) (fun c9 h => ?_)
        · refine q_lookup 152 d_Fo_partPlaces_37 (by decide) (by rw [c9] <;> decide +kernel) (by decide) ?_
          refine q_iloadn 153 d_Fo_partPlaces_152 rfl 2 rfl ?_
          cases h
          exact q_iret d_Fo_partPlaces_153 rfl (Nat.zero_le _) (Nat.zero_le _)
        · refine q_ite h (fun c10 h => ?_) (fun c10 h => ?_)
          · refine q_lookup 191 d_Fo_partPlaces_37 (by decide) (by rw [c10] <;> decide +kernel) (by decide) ?_
            refine q_iloadn 192 d_Fo_partPlaces_191 rfl 2 rfl ?_
            refine q_iload 194 d_Fo_partPlaces_192 rfl 1 rfl ?_
            refine q_iconst (v := (-1)) 195 d_Fo_partPlaces_194 rfl (by decide) ?_
            refine q_ixor 196 d_Fo_partPlaces_195 rfl ?_
            refine q_iand 197 d_Fo_partPlaces_196 rfl ?_
            refine q_iload 199 d_Fo_partPlaces_197 rfl 0 rfl ?_
            refine q_ior 200 d_Fo_partPlaces_199 rfl ?_
            cases h
            exact q_iret d_Fo_partPlaces_200 rfl (Nat.zero_le _) (Nat.zero_le _)
          · refine q_ite h (fun c11 h => ?_) (fun c11 h => ?_)
            · refine q_lookup 208 d_Fo_partPlaces_37 (by decide) (by rw [c11] <;> decide +kernel) (by decide) ?_
              refine q_aloadn 209 d_Fo_partPlaces_208 rfl 5 rfl ?_
              refine q_iloadn 210 d_Fo_partPlaces_209 rfl 2 rfl ?_
              refine q_iload 212 d_Fo_partPlaces_210 rfl 0 rfl ?_
              refine q_xcallP (as := [.ref 14, .int w1, .int w5]) (rest := []) 215 h (fun z e => t_Gw_placesUntil e) (q_xinvV (Y := m_Gw_placesUntil) d_Fo_partPlaces_212 ml_Fo_75 ms_Gw_placesUntil.1 ms_Gw_placesUntil.2 k_Gw_placesUntil.1 (by decide) n_Gw_placesUntil (by decide) rfl rfl) k_Gw_placesUntil (q_ro (by decide) (by decide)) (Nat.le_of_ble_eq_true rfl) d_Fo_partPlaces_212 rfl rfl rfl (fun w12 ew12 h => ?_)
              cases h
              exact q_iret d_Fo_partPlaces_215 rfl (Nat.zero_le _) (Nat.zero_le _)
            · refine q_ite h (fun c13 h => ?_) (fun c13 h => ?_)
              · refine q_lookup 216 d_Fo_partPlaces_37 (by decide) (by rw [c13] <;> decide +kernel) (by decide) ?_
                refine q_iloadn 217 d_Fo_partPlaces_216 rfl 2 rfl ?_
                refine q_aloadn 218 d_Fo_partPlaces_217 rfl 5 rfl ?_
                refine q_iloadn 219 d_Fo_partPlaces_218 rfl 2 rfl ?_
                refine q_iloadn 220 d_Fo_partPlaces_219 rfl 2 rfl ?_
                refine q_iload 222 d_Fo_partPlaces_220 rfl 0 rfl ?_
                refine q_iconst (v := (-1)) 223 d_Fo_partPlaces_222 rfl (by decide) ?_
                refine q_ixor 224 d_Fo_partPlaces_223 rfl ?_
                refine q_iand 225 d_Fo_partPlaces_224 rfl ?_
                refine q_xcallP (as := [.ref 14, .int w1, .int (w1 &&& (w5 ^^^ (-1)))]) (rest := [.int w1]) 228 h (fun z e => t_Gw_placesUntil e) (q_xinvV (Y := m_Gw_placesUntil) d_Fo_partPlaces_225 ml_Fo_75 ms_Gw_placesUntil.1 ms_Gw_placesUntil.2 k_Gw_placesUntil.1 (by decide) n_Gw_placesUntil (by decide) rfl rfl) k_Gw_placesUntil (q_ro (by decide) (by decide)) (Nat.le_of_ble_eq_true rfl) d_Fo_partPlaces_225 rfl rfl rfl (fun w14 ew14 h => ?_)
                refine q_iconst (v := (-1)) 229 d_Fo_partPlaces_228 rfl (by decide) ?_
                refine q_ixor 230 d_Fo_partPlaces_229 rfl ?_
                refine q_iand 231 d_Fo_partPlaces_230 rfl ?_
                cases h
                exact q_iret d_Fo_partPlaces_231 rfl (Nat.zero_le _) (Nat.zero_le _)
              · refine q_ite h (fun c15 h => ?_) (fun c15 h => ?_)
                · refine q_lookup 241 d_Fo_partPlaces_37 (by decide) (by rw [c15] <;> decide +kernel) (by decide) ?_
                  refine q_iloadn 242 d_Fo_partPlaces_241 rfl 2 rfl ?_
                  refine q_aloadn 243 d_Fo_partPlaces_242 rfl 5 rfl ?_
                  refine q_iloadn 244 d_Fo_partPlaces_243 rfl 2 rfl ?_
                  refine q_iload 246 d_Fo_partPlaces_244 rfl 1 rfl ?_
                  refine q_iconst (v := (-1)) 247 d_Fo_partPlaces_246 rfl (by decide) ?_
                  refine q_ixor 248 d_Fo_partPlaces_247 rfl ?_
                  refine q_iand 249 d_Fo_partPlaces_248 rfl ?_
                  refine q_iloadn 250 d_Fo_partPlaces_249 rfl 2 rfl ?_
                  refine q_iload 252 d_Fo_partPlaces_250 rfl 0 rfl ?_
                  refine q_iconst (v := (-1)) 253 d_Fo_partPlaces_252 rfl (by decide) ?_
                  refine q_ixor 254 d_Fo_partPlaces_253 rfl ?_
                  refine q_iand 255 d_Fo_partPlaces_254 rfl ?_
                  refine q_xcallP (as := [.ref 14, .int (w1 &&& (w3 ^^^ (-1))), .int (w1 &&& (w5 ^^^ (-1)))]) (rest := [.int w1]) 258 h (fun z e => t_Gw_placesUntil e) (q_xinvV (Y := m_Gw_placesUntil) d_Fo_partPlaces_255 ml_Fo_75 ms_Gw_placesUntil.1 ms_Gw_placesUntil.2 k_Gw_placesUntil.1 (by decide) n_Gw_placesUntil (by decide) rfl rfl) k_Gw_placesUntil (q_ro (by decide) (by decide)) (Nat.le_of_ble_eq_true rfl) d_Fo_partPlaces_255 rfl rfl rfl (fun w16 ew16 h => ?_)
                  refine q_iconst (v := (-1)) 259 d_Fo_partPlaces_258 rfl (by decide) ?_
                  refine q_ixor 260 d_Fo_partPlaces_259 rfl ?_
                  refine q_iand 261 d_Fo_partPlaces_260 rfl ?_
                  cases h
                  exact q_iret d_Fo_partPlaces_261 rfl (Nat.zero_le _) (Nat.zero_le _)
                · refine q_ite h (fun c17 h => ?_) (fun c17 h => ?_)
                  · refine q_lookup 232 d_Fo_partPlaces_37 (by decide) (by rw [c17] <;> decide +kernel) (by decide) ?_
                    refine q_aloadn 233 d_Fo_partPlaces_232 rfl 5 rfl ?_
                    refine q_iload 235 d_Fo_partPlaces_233 rfl 1 rfl ?_
                    refine q_iload 237 d_Fo_partPlaces_235 rfl 0 rfl ?_
                    refine q_xcallP (as := [.ref 14, .int w3, .int w5]) (rest := []) 240 h (fun z e => t_Gw_placesUntil e) (q_xinvV (Y := m_Gw_placesUntil) d_Fo_partPlaces_237 ml_Fo_75 ms_Gw_placesUntil.1 ms_Gw_placesUntil.2 k_Gw_placesUntil.1 (by decide) n_Gw_placesUntil (by decide) rfl rfl) k_Gw_placesUntil (q_ro (by decide) (by decide)) (Nat.le_of_ble_eq_true rfl) d_Fo_partPlaces_237 rfl rfl rfl (fun w18 ew18 h => ?_)
                    cases h
                    exact q_iret d_Fo_partPlaces_240 rfl (Nat.zero_le _) (Nat.zero_le _)
                  · refine q_ite h (fun c19 h => ?_) (fun c19 h => ?_)
                    · refine q_lookup 201 d_Fo_partPlaces_37 (by decide) (by rw [c19] <;> decide +kernel) (by decide) ?_
                      refine q_aloadn 202 d_Fo_partPlaces_201 rfl 5 rfl ?_
                      refine q_iload 204 d_Fo_partPlaces_202 rfl 0 rfl ?_
                      refine q_xcallP (as := [.ref 14, .int w5]) (rest := []) 207 h (fun z e => t_Gw_placesBefore e) (q_xinvV (Y := m_Gw_placesBefore) d_Fo_partPlaces_204 ml_Fo_72 ms_Gw_placesBefore.1 ms_Gw_placesBefore.2 k_Gw_placesBefore.1 (by decide) n_Gw_placesBefore (by decide) rfl rfl) k_Gw_placesBefore (q_ro (by decide) (by decide)) (Nat.le_of_ble_eq_true rfl) d_Fo_partPlaces_204 rfl rfl rfl (fun w20 ew20 h => ?_)
                      cases h
                      exact q_iret d_Fo_partPlaces_207 rfl (Nat.zero_le _) (Nat.zero_le _)
                    · refine q_ite h (fun c21 h => ?_) (fun c21 h => ?_)
                      · refine q_lookup 154 d_Fo_partPlaces_37 (by decide) (by rw [c21] <;> decide +kernel) (by decide) ?_
                        refine q_aloadn 155 d_Fo_partPlaces_154 rfl 5 rfl ?_
                        refine q_iconst (v := 0) 156 d_Fo_partPlaces_155 rfl (by decide) ?_
                        refine q_xcallP (as := [.ref 14, .int 0]) (rest := []) 159 h (fun z e => t_Gw_placesWith e) (q_xinvV (Y := m_Gw_placesWith) d_Fo_partPlaces_156 ml_Fo_68 ms_Gw_placesWith.1 ms_Gw_placesWith.2 k_Gw_placesWith.1 (by decide) n_Gw_placesWith (by decide) rfl rfl) k_Gw_placesWith (q_ro (by decide) (by decide)) (Nat.le_of_ble_eq_true rfl) d_Fo_partPlaces_156 rfl rfl rfl (fun w22 ew22 h => ?_)
                        cases h
                        exact q_iret d_Fo_partPlaces_159 rfl (Nat.zero_le _) (Nat.zero_le _)
                      · refine q_ite h (fun c23 h => ?_) (fun c23 h => ?_)
                        · refine q_lookup 160 d_Fo_partPlaces_37 (by decide) (by rw [c23] <;> decide +kernel) (by decide) ?_
                          refine q_aloadn 161 d_Fo_partPlaces_160 rfl 5 rfl ?_
                          refine q_iconst (v := 1) 162 d_Fo_partPlaces_161 rfl (by decide) ?_
                          refine q_xcallP (as := [.ref 14, .int 1]) (rest := []) 165 h (fun z e => t_Gw_placesWith e) (q_xinvV (Y := m_Gw_placesWith) d_Fo_partPlaces_162 ml_Fo_68 ms_Gw_placesWith.1 ms_Gw_placesWith.2 k_Gw_placesWith.1 (by decide) n_Gw_placesWith (by decide) rfl rfl) k_Gw_placesWith (q_ro (by decide) (by decide)) (Nat.le_of_ble_eq_true rfl) d_Fo_partPlaces_162 rfl rfl rfl (fun w24 ew24 h => ?_)
                          cases h
                          exact q_iret d_Fo_partPlaces_165 rfl (Nat.zero_le _) (Nat.zero_le _)
                        · refine q_ite h (fun c25 h => ?_) (fun c25 h => ?_)
                          · refine q_lookup 166 d_Fo_partPlaces_37 (by decide) (by rw [c25] <;> decide +kernel) (by decide) ?_
                            refine q_aloadn 167 d_Fo_partPlaces_166 rfl 5 rfl ?_
                            refine q_iconst (v := 2) 168 d_Fo_partPlaces_167 rfl (by decide) ?_
                            refine q_xcallP (as := [.ref 14, .int 2]) (rest := []) 171 h (fun z e => t_Gw_placesWith e) (q_xinvV (Y := m_Gw_placesWith) d_Fo_partPlaces_168 ml_Fo_68 ms_Gw_placesWith.1 ms_Gw_placesWith.2 k_Gw_placesWith.1 (by decide) n_Gw_placesWith (by decide) rfl rfl) k_Gw_placesWith (q_ro (by decide) (by decide)) (Nat.le_of_ble_eq_true rfl) d_Fo_partPlaces_168 rfl rfl rfl (fun w26 ew26 h => ?_)
                            cases h
                            exact q_iret d_Fo_partPlaces_171 rfl (Nat.zero_le _) (Nat.zero_le _)
                          · refine q_ite h (fun c27 h => ?_) (fun c27 h => ?_)
                            · refine q_lookup 185 d_Fo_partPlaces_37 (by decide) (by rw [c27] <;> decide +kernel) (by decide) ?_
                              refine q_iload 187 d_Fo_partPlaces_185 rfl 1 rfl ?_
                              refine q_iload 189 d_Fo_partPlaces_187 rfl 0 rfl ?_
                              refine q_ior 190 d_Fo_partPlaces_189 rfl ?_
                              cases h
                              exact q_iret d_Fo_partPlaces_190 rfl (Nat.zero_le _) (Nat.zero_le _)
                            · refine q_lookup (off := 225) 262 d_Fo_partPlaces_37 (by decide) (by rw [lv_osw c7 (by decide : (33 : Int32).toInt = 33), lv_osw c8 (by decide : (38 : Int32).toInt = 38), lv_osw c9 (by decide : (49 : Int32).toInt = 49), lv_osw c10 (by decide : (62 : Int32).toInt = 62), lv_osw c11 (by decide : (70 : Int32).toInt = 70), lv_osw c13 (by decide : (71 : Int32).toInt = 71), lv_osw c15 (by decide : (82 : Int32).toInt = 82), lv_osw c17 (by decide : (85 : Int32).toInt = 85), lv_osw c19 (by decide : (88 : Int32).toInt = 88), lv_osw c21 (by decide : (97 : Int32).toInt = 97), lv_osw c23 (by decide : (98 : Int32).toInt = 98), lv_osw c25 (by decide : (99 : Int32).toInt = 99), lv_osw c27 (by decide : (124 : Int32).toInt = 124)] <;> rfl) (by decide) ?_
                              refine q_iconst (v := 0) 263 d_Fo_partPlaces_262 rfl (by decide) ?_
                              cases h
                              exact q_iret d_Fo_partPlaces_263 rfl (Nat.zero_le _) (Nat.zero_le _)
  · unfold f_Fo_partPlaces at h
    refine q_Ct.of (lv := [(0, .ref 24), (1, .int a1), (2, .ref 14)]) (by decide) ⟨rfl, rfl⟩ rfl (Nat.le_of_ble_eq_true rfl) ?_
    refine q_aloadn 1 d_Fo_partPlaces_0 rfl 2 rfl ?_
    refine q_xcallP (as := [.ref 14]) (rest := []) 4 h (fun z e => t_Gw_allPlaces e) (q_xinvV (Y := m_Gw_allPlaces) d_Fo_partPlaces_1 ml_Fo_62 ms_Gw_allPlaces.1 ms_Gw_allPlaces.2 k_Gw_allPlaces.1 (by decide) n_Gw_allPlaces (by decide) rfl rfl) k_Gw_allPlaces (q_ro (by decide) (by decide)) (Nat.le_of_ble_eq_true rfl) d_Fo_partPlaces_1 rfl rfl rfl (fun w1 ew1 h => ?_)
    refine q_istoren (lv' := [(3, .int w1), (0, .ref 24), (1, .int a1), (2, .ref 14)]) 5 d_Fo_partPlaces_4 rfl (by decide) rfl ?_
    refine q_aloadn 6 d_Fo_partPlaces_5 rfl 1 rfl ?_
    refine q_xget 9 d_Fo_partPlaces_6 rfl fl_Fo_30 (by decide) rfl rfl ?_
    refine q_aloadn 10 d_Fo_partPlaces_9 rfl 1 rfl ?_
    refine q_xget 13 d_Fo_partPlaces_10 rfl fl_Fo_15 (by decide) rfl rfl ?_
    refine q_iloadn 14 d_Fo_partPlaces_13 rfl 2 rfl ?_
    refine q_xiald 15 d_Fo_partPlaces_14 rfl (by decide) (fun _ => rfl) h (fun w2 ew2 h => ?_)
    refine q_xiald 16 d_Fo_partPlaces_15 rfl (by decide) (fun _ => rfl) h (fun w3 ew3 h => ?_)
    refine q_istore (lv' := [(4, .int w3), (3, .int w1), (0, .ref 24), (1, .int a1), (2, .ref 14)]) 18 d_Fo_partPlaces_16 rfl (by decide) rfl ?_
    refine q_aloadn 19 d_Fo_partPlaces_18 rfl 2 rfl ?_
    refine q_xget 22 d_Fo_partPlaces_19 rfl fl_Fo_30 (by decide) rfl rfl ?_
    refine q_aloadn 23 d_Fo_partPlaces_22 rfl 2 rfl ?_
    refine q_xget 26 d_Fo_partPlaces_23 rfl fl_Fo_18 (by decide) rfl rfl ?_
    refine q_iloadn 27 d_Fo_partPlaces_26 rfl 3 rfl ?_
    refine q_xiald 28 d_Fo_partPlaces_27 rfl (by decide) (fun _ => rfl) h (fun w4 ew4 h => ?_)
    refine q_xiald 29 d_Fo_partPlaces_28 rfl (by decide) (fun _ => rfl) h (fun w5 ew5 h => ?_)
    refine q_istore (lv' := [(5, .int w5), (4, .int w3), (3, .int w1), (0, .ref 24), (1, .int a1), (2, .ref 14)]) 31 d_Fo_partPlaces_29 rfl (by decide) rfl ?_
    refine q_aloadn 32 d_Fo_partPlaces_31 rfl 3 rfl ?_
    refine q_xget 35 d_Fo_partPlaces_32 rfl fl_Fo_9 (by decide) rfl rfl ?_
    refine q_iloadn 36 d_Fo_partPlaces_35 rfl 4 rfl ?_
    refine q_xiald 37 d_Fo_partPlaces_36 rfl (by decide) (fun _ => rfl) h (fun w6 ew6 h => ?_)
    refine q_ite h (fun c7 h => ?_) (fun c7 h => ?_)
    · refine q_lookup 172 d_Fo_partPlaces_37 (by decide) (by rw [c7] <;> decide +kernel) (by decide) ?_
      refine q_iloadn 173 d_Fo_partPlaces_172 rfl 2 rfl ?_
      refine q_iload 175 d_Fo_partPlaces_173 rfl 0 rfl ?_
      refine q_iconst (v := (-1)) 176 d_Fo_partPlaces_175 rfl (by decide) ?_
      refine q_ixor 177 d_Fo_partPlaces_176 rfl ?_
      refine q_iand 178 d_Fo_partPlaces_177 rfl ?_
      cases h
      exact q_iret d_Fo_partPlaces_178 rfl (Nat.zero_le _) (Nat.zero_le _)
    · refine q_ite h (fun c8 h => ?_) (fun c8 h => ?_)
      · refine q_lookup 179 d_Fo_partPlaces_37 (by decide) (by rw [c8] <;> decide +kernel) (by decide) ?_
        refine q_iload 181 d_Fo_partPlaces_179 rfl 1 rfl ?_
        refine q_iload 183 d_Fo_partPlaces_181 rfl 0 rfl ?_
        refine q_iand 184 d_Fo_partPlaces_183 rfl ?_
        cases h
        exact q_iret d_Fo_partPlaces_184 rfl (Nat.zero_le _) (Nat.zero_le _)
      · refine q_ite h (fun c9 h => ?_) (fun c9 h => ?_)
        · refine q_lookup 152 d_Fo_partPlaces_37 (by decide) (by rw [c9] <;> decide +kernel) (by decide) ?_
          refine q_iloadn 153 d_Fo_partPlaces_152 rfl 2 rfl ?_
          cases h
          exact q_iret d_Fo_partPlaces_153 rfl (Nat.zero_le _) (Nat.zero_le _)
        · refine q_ite h (fun c10 h => ?_) (fun c10 h => ?_)
          · refine q_lookup 191 d_Fo_partPlaces_37 (by decide) (by rw [c10] <;> decide +kernel) (by decide) ?_
            refine q_iloadn 192 d_Fo_partPlaces_191 rfl 2 rfl ?_
            refine q_iload 194 d_Fo_partPlaces_192 rfl 1 rfl ?_
            refine q_iconst (v := (-1)) 195 d_Fo_partPlaces_194 rfl (by decide) ?_
            refine q_ixor 196 d_Fo_partPlaces_195 rfl ?_
            refine q_iand 197 d_Fo_partPlaces_196 rfl ?_
            refine q_iload 199 d_Fo_partPlaces_197 rfl 0 rfl ?_
            refine q_ior 200 d_Fo_partPlaces_199 rfl ?_
            cases h
            exact q_iret d_Fo_partPlaces_200 rfl (Nat.zero_le _) (Nat.zero_le _)
          · refine q_ite h (fun c11 h => ?_) (fun c11 h => ?_)
            · refine q_lookup 208 d_Fo_partPlaces_37 (by decide) (by rw [c11] <;> decide +kernel) (by decide) ?_
              refine q_aloadn 209 d_Fo_partPlaces_208 rfl 5 rfl ?_
              refine q_iloadn 210 d_Fo_partPlaces_209 rfl 2 rfl ?_
              refine q_iload 212 d_Fo_partPlaces_210 rfl 0 rfl ?_
              refine q_xcallP (as := [.ref 14, .int w1, .int w5]) (rest := []) 215 h (fun z e => t_Gw_placesUntil e) (q_xinvV (Y := m_Gw_placesUntil) d_Fo_partPlaces_212 ml_Fo_75 ms_Gw_placesUntil.1 ms_Gw_placesUntil.2 k_Gw_placesUntil.1 (by decide) n_Gw_placesUntil (by decide) rfl rfl) k_Gw_placesUntil (q_ro (by decide) (by decide)) (Nat.le_of_ble_eq_true rfl) d_Fo_partPlaces_212 rfl rfl rfl (fun w12 ew12 h => ?_)
              cases h
              exact q_iret d_Fo_partPlaces_215 rfl (Nat.zero_le _) (Nat.zero_le _)
            · refine q_ite h (fun c13 h => ?_) (fun c13 h => ?_)
              · refine q_lookup 216 d_Fo_partPlaces_37 (by decide) (by rw [c13] <;> decide +kernel) (by decide) ?_
                refine q_iloadn 217 d_Fo_partPlaces_216 rfl 2 rfl ?_
                refine q_aloadn 218 d_Fo_partPlaces_217 rfl 5 rfl ?_
                refine q_iloadn 219 d_Fo_partPlaces_218 rfl 2 rfl ?_
                refine q_iloadn 220 d_Fo_partPlaces_219 rfl 2 rfl ?_
                refine q_iload 222 d_Fo_partPlaces_220 rfl 0 rfl ?_
                refine q_iconst (v := (-1)) 223 d_Fo_partPlaces_222 rfl (by decide) ?_
                refine q_ixor 224 d_Fo_partPlaces_223 rfl ?_
                refine q_iand 225 d_Fo_partPlaces_224 rfl ?_
                refine q_xcallP (as := [.ref 14, .int w1, .int (w1 &&& (w5 ^^^ (-1)))]) (rest := [.int w1]) 228 h (fun z e => t_Gw_placesUntil e) (q_xinvV (Y := m_Gw_placesUntil) d_Fo_partPlaces_225 ml_Fo_75 ms_Gw_placesUntil.1 ms_Gw_placesUntil.2 k_Gw_placesUntil.1 (by decide) n_Gw_placesUntil (by decide) rfl rfl) k_Gw_placesUntil (q_ro (by decide) (by decide)) (Nat.le_of_ble_eq_true rfl) d_Fo_partPlaces_225 rfl rfl rfl (fun w14 ew14 h => ?_)
                refine q_iconst (v := (-1)) 229 d_Fo_partPlaces_228 rfl (by decide) ?_
                refine q_ixor 230 d_Fo_partPlaces_229 rfl ?_
                refine q_iand 231 d_Fo_partPlaces_230 rfl ?_
                cases h
                exact q_iret d_Fo_partPlaces_231 rfl (Nat.zero_le _) (Nat.zero_le _)
              · refine q_ite h (fun c15 h => ?_) (fun c15 h => ?_)
                · refine q_lookup 241 d_Fo_partPlaces_37 (by decide) (by rw [c15] <;> decide +kernel) (by decide) ?_
                  refine q_iloadn 242 d_Fo_partPlaces_241 rfl 2 rfl ?_
                  refine q_aloadn 243 d_Fo_partPlaces_242 rfl 5 rfl ?_
                  refine q_iloadn 244 d_Fo_partPlaces_243 rfl 2 rfl ?_
                  refine q_iload 246 d_Fo_partPlaces_244 rfl 1 rfl ?_
                  refine q_iconst (v := (-1)) 247 d_Fo_partPlaces_246 rfl (by decide) ?_
                  refine q_ixor 248 d_Fo_partPlaces_247 rfl ?_
                  refine q_iand 249 d_Fo_partPlaces_248 rfl ?_
                  refine q_iloadn 250 d_Fo_partPlaces_249 rfl 2 rfl ?_
                  refine q_iload 252 d_Fo_partPlaces_250 rfl 0 rfl ?_
                  refine q_iconst (v := (-1)) 253 d_Fo_partPlaces_252 rfl (by decide) ?_
                  refine q_ixor 254 d_Fo_partPlaces_253 rfl ?_
                  refine q_iand 255 d_Fo_partPlaces_254 rfl ?_
                  refine q_xcallP (as := [.ref 14, .int (w1 &&& (w3 ^^^ (-1))), .int (w1 &&& (w5 ^^^ (-1)))]) (rest := [.int w1]) 258 h (fun z e => t_Gw_placesUntil e) (q_xinvV (Y := m_Gw_placesUntil) d_Fo_partPlaces_255 ml_Fo_75 ms_Gw_placesUntil.1 ms_Gw_placesUntil.2 k_Gw_placesUntil.1 (by decide) n_Gw_placesUntil (by decide) rfl rfl) k_Gw_placesUntil (q_ro (by decide) (by decide)) (Nat.le_of_ble_eq_true rfl) d_Fo_partPlaces_255 rfl rfl rfl (fun w16 ew16 h => ?_)
                  refine q_iconst (v := (-1)) 259 d_Fo_partPlaces_258 rfl (by decide) ?_
                  refine q_ixor 260 d_Fo_partPlaces_259 rfl ?_
                  refine q_iand 261 d_Fo_partPlaces_260 rfl ?_
                  cases h
                  exact q_iret d_Fo_partPlaces_261 rfl (Nat.zero_le _) (Nat.zero_le _)
                · refine q_ite h (fun c17 h => ?_) (fun c17 h => ?_)
                  · refine q_lookup 232 d_Fo_partPlaces_37 (by decide) (by rw [c17] <;> decide +kernel) (by decide) ?_
                    refine q_aloadn 233 d_Fo_partPlaces_232 rfl 5 rfl ?_
                    refine q_iload 235 d_Fo_partPlaces_233 rfl 1 rfl ?_
                    refine q_iload 237 d_Fo_partPlaces_235 rfl 0 rfl ?_
                    refine q_xcallP (as := [.ref 14, .int w3, .int w5]) (rest := []) 240 h (fun z e => t_Gw_placesUntil e) (q_xinvV (Y := m_Gw_placesUntil) d_Fo_partPlaces_237 ml_Fo_75 ms_Gw_placesUntil.1 ms_Gw_placesUntil.2 k_Gw_placesUntil.1 (by decide) n_Gw_placesUntil (by decide) rfl rfl) k_Gw_placesUntil (q_ro (by decide) (by decide)) (Nat.le_of_ble_eq_true rfl) d_Fo_partPlaces_237 rfl rfl rfl (fun w18 ew18 h => ?_)
                    cases h
                    exact q_iret d_Fo_partPlaces_240 rfl (Nat.zero_le _) (Nat.zero_le _)
                  · refine q_ite h (fun c19 h => ?_) (fun c19 h => ?_)
                    · refine q_lookup 201 d_Fo_partPlaces_37 (by decide) (by rw [c19] <;> decide +kernel) (by decide) ?_
                      refine q_aloadn 202 d_Fo_partPlaces_201 rfl 5 rfl ?_
                      refine q_iload 204 d_Fo_partPlaces_202 rfl 0 rfl ?_
                      refine q_xcallP (as := [.ref 14, .int w5]) (rest := []) 207 h (fun z e => t_Gw_placesBefore e) (q_xinvV (Y := m_Gw_placesBefore) d_Fo_partPlaces_204 ml_Fo_72 ms_Gw_placesBefore.1 ms_Gw_placesBefore.2 k_Gw_placesBefore.1 (by decide) n_Gw_placesBefore (by decide) rfl rfl) k_Gw_placesBefore (q_ro (by decide) (by decide)) (Nat.le_of_ble_eq_true rfl) d_Fo_partPlaces_204 rfl rfl rfl (fun w20 ew20 h => ?_)
                      cases h
                      exact q_iret d_Fo_partPlaces_207 rfl (Nat.zero_le _) (Nat.zero_le _)
                    · refine q_ite h (fun c21 h => ?_) (fun c21 h => ?_)
                      · refine q_lookup 154 d_Fo_partPlaces_37 (by decide) (by rw [c21] <;> decide +kernel) (by decide) ?_
                        refine q_aloadn 155 d_Fo_partPlaces_154 rfl 5 rfl ?_
                        refine q_iconst (v := 0) 156 d_Fo_partPlaces_155 rfl (by decide) ?_
                        refine q_xcallP (as := [.ref 14, .int 0]) (rest := []) 159 h (fun z e => t_Gw_placesWith e) (q_xinvV (Y := m_Gw_placesWith) d_Fo_partPlaces_156 ml_Fo_68 ms_Gw_placesWith.1 ms_Gw_placesWith.2 k_Gw_placesWith.1 (by decide) n_Gw_placesWith (by decide) rfl rfl) k_Gw_placesWith (q_ro (by decide) (by decide)) (Nat.le_of_ble_eq_true rfl) d_Fo_partPlaces_156 rfl rfl rfl (fun w22 ew22 h => ?_)
                        cases h
                        exact q_iret d_Fo_partPlaces_159 rfl (Nat.zero_le _) (Nat.zero_le _)
                      · refine q_ite h (fun c23 h => ?_) (fun c23 h => ?_)
                        · refine q_lookup 160 d_Fo_partPlaces_37 (by decide) (by rw [c23] <;> decide +kernel) (by decide) ?_
                          refine q_aloadn 161 d_Fo_partPlaces_160 rfl 5 rfl ?_
                          refine q_iconst (v := 1) 162 d_Fo_partPlaces_161 rfl (by decide) ?_
                          refine q_xcallP (as := [.ref 14, .int 1]) (rest := []) 165 h (fun z e => t_Gw_placesWith e) (q_xinvV (Y := m_Gw_placesWith) d_Fo_partPlaces_162 ml_Fo_68 ms_Gw_placesWith.1 ms_Gw_placesWith.2 k_Gw_placesWith.1 (by decide) n_Gw_placesWith (by decide) rfl rfl) k_Gw_placesWith (q_ro (by decide) (by decide)) (Nat.le_of_ble_eq_true rfl) d_Fo_partPlaces_162 rfl rfl rfl (fun w24 ew24 h => ?_)
                          cases h
                          exact q_iret d_Fo_partPlaces_165 rfl (Nat.zero_le _) (Nat.zero_le _)
                        · refine q_ite h (fun c25 h => ?_) (fun c25 h => ?_)
                          · refine q_lookup 166 d_Fo_partPlaces_37 (by decide) (by rw [c25] <;> decide +kernel) (by decide) ?_
                            refine q_aloadn 167 d_Fo_partPlaces_166 rfl 5 rfl ?_
                            refine q_iconst (v := 2) 168 d_Fo_partPlaces_167 rfl (by decide) ?_
                            refine q_xcallP (as := [.ref 14, .int 2]) (rest := []) 171 h (fun z e => t_Gw_placesWith e) (q_xinvV (Y := m_Gw_placesWith) d_Fo_partPlaces_168 ml_Fo_68 ms_Gw_placesWith.1 ms_Gw_placesWith.2 k_Gw_placesWith.1 (by decide) n_Gw_placesWith (by decide) rfl rfl) k_Gw_placesWith (q_ro (by decide) (by decide)) (Nat.le_of_ble_eq_true rfl) d_Fo_partPlaces_168 rfl rfl rfl (fun w26 ew26 h => ?_)
                            cases h
                            exact q_iret d_Fo_partPlaces_171 rfl (Nat.zero_le _) (Nat.zero_le _)
                          · refine q_ite h (fun c27 h => ?_) (fun c27 h => ?_)
                            · refine q_lookup 185 d_Fo_partPlaces_37 (by decide) (by rw [c27] <;> decide +kernel) (by decide) ?_
                              refine q_iload 187 d_Fo_partPlaces_185 rfl 1 rfl ?_
                              refine q_iload 189 d_Fo_partPlaces_187 rfl 0 rfl ?_
                              refine q_ior 190 d_Fo_partPlaces_189 rfl ?_
                              cases h
                              exact q_iret d_Fo_partPlaces_190 rfl (Nat.zero_le _) (Nat.zero_le _)
                            · refine q_lookup (off := 225) 262 d_Fo_partPlaces_37 (by decide) (by rw [lv_osw c7 (by decide : (33 : Int32).toInt = 33), lv_osw c8 (by decide : (38 : Int32).toInt = 38), lv_osw c9 (by decide : (49 : Int32).toInt = 49), lv_osw c10 (by decide : (62 : Int32).toInt = 62), lv_osw c11 (by decide : (70 : Int32).toInt = 70), lv_osw c13 (by decide : (71 : Int32).toInt = 71), lv_osw c15 (by decide : (82 : Int32).toInt = 82), lv_osw c17 (by decide : (85 : Int32).toInt = 85), lv_osw c19 (by decide : (88 : Int32).toInt = 88), lv_osw c21 (by decide : (97 : Int32).toInt = 97), lv_osw c23 (by decide : (98 : Int32).toInt = 98), lv_osw c25 (by decide : (99 : Int32).toInt = 99), lv_osw c27 (by decide : (124 : Int32).toInt = 124)] <;> rfl) (by decide) ?_
                              refine q_iconst (v := 0) 263 d_Fo_partPlaces_262 rfl (by decide) ?_
                              cases h
                              exact q_iret d_Fo_partPlaces_263 rfl (Nat.zero_le _) (Nat.zero_le _)
