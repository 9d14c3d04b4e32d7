set_option maxHeartbeats 4000000 in
set_option maxRecDepth 100000 in
theorem t_Lw_isAt {E : q_E} {c d : Nat} (hcd : q_cd c d) {x : q_W} {a1 : Int32} {ρ : Int32 × q_W} (h : f_Lw_isAt c d x a1 = some ρ) : q_Ct E y_Lw_isAt m_Lw_isAt (q_rm 8) (q_cells E c d x) [.ref 0, .int a1, .ref 59] (q_rL E c d ρ) := by
  unfold f_Lw_isAt at h
  refine q_Ct.of (lv := [(0, .ref 0), (1, .int a1), (2, .ref 59)]) (by decide) ⟨rfl, rfl⟩ rfl (Nat.le_of_ble_eq_true rfl) ?_
  refine q_aloadn 1 d_Lw_isAt_0 rfl 2 rfl ?_
  refine q_iconst (v := 0) 2 d_Lw_isAt_1 rfl (by decide) ?_
  refine q_aloadn 3 d_Lw_isAt_2 rfl 0 rfl ?_
  refine q_iloadn 4 d_Lw_isAt_3 rfl 1 rfl ?_
  refine q_xcatP (as := [.ref 0, .int a1]) (rest := [.int 0, .ref 59]) 7 h (fun z e => t_D_isAt hcd e) (q_xinvV (Y := m_D_isAt) d_Lw_isAt_4 ml_Lw_24 ms_D_isAt.1 ms_D_isAt.2 k_D_isAt.1 (by decide) n_D_isAt (by decide) rfl rfl) k_D_isAt (q_ro (by decide) (by decide)) (Nat.le_of_ble_eq_true rfl) d_Lw_isAt_4 rfl rfl rfl (fun w1  ew1 h => ?_) (fun k6  ek6 h => ?_)
  · refine q_ite h (fun c5 h => ?_) (fun c5 h => ?_)
    · refine q_if_eq_t 14 d_Lw_isAt_7 (by decide) c5 ?_
      refine q_lconst (v := 0) 15 d_Lw_isAt_14 rfl (by decide) ?_
      refine q_xlast 16 d_Lw_isAt_15 rfl h (fun x3 ex3 h => ?_)
      refine q_goto 25 d_Lw_isAt_16 (by decide) ?_
      refine q_iconst (v := 0) 26 d_Lw_isAt_25 rfl (by decide) ?_
      cases h
      exact q_iret d_Lw_isAt_26 rfl (by decide) (by decide)
    · refine q_if_eq_f 10 d_Lw_isAt_7 rfl 14 (by decide) c5 ?_
      refine q_lconst (v := 1) 11 d_Lw_isAt_10 rfl (by decide) ?_
      refine q_goto 15 d_Lw_isAt_11 (by decide) ?_
      refine q_xlast 16 d_Lw_isAt_15 rfl h (fun x4 ex4 h => ?_)
      refine q_goto 25 d_Lw_isAt_16 (by decide) ?_
      refine q_iconst (v := 0) 26 d_Lw_isAt_25 rfl (by decide) ?_
      cases h
      exact q_iret d_Lw_isAt_26 rfl (by decide) (by decide)
  · refine q_ite h (fun c8 h => ?_) (fun c8 h => ?_)
    · subst c8
      refine q_callC (lv := [(0, .ref 0), (1, .int a1), (2, .ref 59)]) (as := [.ref 0, .int a1]) (rest := [.int 0, .ref 59]) (i := 3) (name := "java/lang/IllegalStateException") 20 (t_D_isAt hcd ek6) (q_xinvV (Y := m_D_isAt) d_Lw_isAt_4 ml_Lw_24 ms_D_isAt.1 ms_D_isAt.2 k_D_isAt.1 (by decide) n_D_isAt (by decide) rfl rfl) k_D_isAt (q_ro (by decide) (by decide)) (Nat.le_of_ble_eq_true rfl) d_Lw_isAt_4 rfl [] (0, 16, 19, 22) [(0, 16, 22, 27)] rfl (fun q hq => nomatch hq) (by decide) (by decide) (q_tb 327 (by decide +kernel)) (q_tb 338 (by decide +kernel)) d_Lw_isAt_19 rfl (by decide) rfl ?_
      refine q_iconst (v := 1) 21 d_Lw_isAt_20 rfl (by decide) ?_
      cases h
      exact q_iret d_Lw_isAt_21 rfl (by decide) (by decide)
    · refine q_ite h (fun c9 h => ?_) (fun c9 h => ?_)
      · subst c9
        refine q_callC (lv := [(0, .ref 0), (1, .int a1), (2, .ref 59)]) (as := [.ref 0, .int a1]) (rest := [.int 0, .ref 59]) (i := 3) (name := "java/lang/IndexOutOfBoundsException") 23 (t_D_isAt hcd ek6) (q_xinvV (Y := m_D_isAt) d_Lw_isAt_4 ml_Lw_24 ms_D_isAt.1 ms_D_isAt.2 k_D_isAt.1 (by decide) n_D_isAt (by decide) rfl rfl) k_D_isAt (q_ro (by decide) (by decide)) (Nat.le_of_ble_eq_true rfl) d_Lw_isAt_4 rfl [(0, 16, 19, 22)] (0, 16, 22, 27) [] rfl (by intro q hq; rw [List.mem_singleton.mp hq]; exact Or.inr ⟨by decide, "java/lang/IllegalStateException", q_tb 327 (by decide +kernel), by decide +kernel⟩) (by decide) (by decide) (q_tb 359 (by decide +kernel)) (q_tb 370 (by decide +kernel)) d_Lw_isAt_22 rfl (by decide) rfl ?_
        refine q_iconst (v := 2) 24 d_Lw_isAt_23 rfl (by decide) ?_
        cases h
        exact q_iret d_Lw_isAt_24 rfl (by decide) (by decide)
      · cases h
set_option maxHeartbeats 4000000 in
set_option maxRecDepth 100000 in
theorem t_Lw_leads {E : q_E} {c d : Nat} (hcd : q_cd c d) {x : q_W} {a1 : Int32} {a2 : Int32} {ρ : Int32 × q_W} (h : f_Lw_leads c d x a1 a2 = some ρ) : q_Ct E y_Lw_leads m_Lw_leads (q_rm 8) (q_cells E c d x) [.ref 0, .int a1, .int a2, .ref 59] (q_rL E c d ρ) := by
  unfold f_Lw_leads at h
  refine q_Ct.of (lv := [(0, .ref 0), (1, .int a1), (2, .int a2), (3, .ref 59)]) (by decide) ⟨rfl, rfl⟩ rfl (Nat.le_of_ble_eq_true rfl) ?_
  refine q_aloadn 1 d_Lw_leads_0 rfl 3 rfl ?_
  refine q_iconst (v := 0) 2 d_Lw_leads_1 rfl (by decide) ?_
  refine q_aloadn 3 d_Lw_leads_2 rfl 0 rfl ?_
  refine q_iloadn 4 d_Lw_leads_3 rfl 1 rfl ?_
  refine q_iloadn 5 d_Lw_leads_4 rfl 2 rfl ?_
  refine q_xcatP (as := [.ref 0, .int a1, .int a2]) (rest := [.int 0, .ref 59]) 8 h (fun z e => t_D_leads hcd e) (q_xinvV (Y := m_D_leads) d_Lw_leads_5 ml_Lw_29 ms_D_leads.1 ms_D_leads.2 k_D_leads.1 (by decide) n_D_leads (by decide) rfl rfl) k_D_leads (q_ro (by decide) (by decide)) (Nat.le_of_ble_eq_true rfl) d_Lw_leads_5 rfl rfl rfl (fun w1  ew1 h => ?_) (fun k6  ek6 h => ?_)
  · refine q_ite h (fun c5 h => ?_) (fun c5 h => ?_)
    · refine q_if_eq_t 15 d_Lw_leads_8 (by decide) c5 ?_
      refine q_lconst (v := 0) 16 d_Lw_leads_15 rfl (by decide) ?_
      refine q_xlast 17 d_Lw_leads_16 rfl h (fun x3 ex3 h => ?_)
      refine q_goto 28 d_Lw_leads_17 (by decide) ?_
      refine q_iconst (v := 0) 29 d_Lw_leads_28 rfl (by decide) ?_
      cases h
      exact q_iret d_Lw_leads_29 rfl (by decide) (by decide)
    · refine q_if_eq_f 11 d_Lw_leads_8 rfl 15 (by decide) c5 ?_
      refine q_lconst (v := 1) 12 d_Lw_leads_11 rfl (by decide) ?_
      refine q_goto 16 d_Lw_leads_12 (by decide) ?_
      refine q_xlast 17 d_Lw_leads_16 rfl h (fun x4 ex4 h => ?_)
      refine q_goto 28 d_Lw_leads_17 (by decide) ?_
      refine q_iconst (v := 0) 29 d_Lw_leads_28 rfl (by decide) ?_
      cases h
      exact q_iret d_Lw_leads_29 rfl (by decide) (by decide)
  · refine q_ite h (fun c8 h => ?_) (fun c8 h => ?_)
    · subst c8
      refine q_callC2 (lv := [(0, .ref 0), (1, .int a1), (2, .int a2), (3, .ref 59)]) (as := [.ref 0, .int a1, .int a2]) (rest := [.int 0, .ref 59]) (i := 4) (name := "java/lang/IllegalStateException") 22 (t_D_leads hcd ek6) (q_xinvV (Y := m_D_leads) d_Lw_leads_5 ml_Lw_29 ms_D_leads.1 ms_D_leads.2 k_D_leads.1 (by decide) n_D_leads (by decide) rfl rfl) k_D_leads (q_ro (by decide) (by decide)) (Nat.le_of_ble_eq_true rfl) d_Lw_leads_5 rfl [] (0, 17, 20, 22) [(0, 17, 24, 27)] rfl (fun q hq => nomatch hq) (by decide) (by decide) (q_tb 327 (by decide +kernel)) (q_tb 338 (by decide +kernel)) d_Lw_leads_20 rfl (by decide) rfl ?_
      refine q_iconst (v := 1) 23 d_Lw_leads_22 rfl (by decide) ?_
      cases h
      exact q_iret d_Lw_leads_23 rfl (by decide) (by decide)
    · refine q_ite h (fun c9 h => ?_) (fun c9 h => ?_)
      · subst c9
        refine q_callC2 (lv := [(0, .ref 0), (1, .int a1), (2, .int a2), (3, .ref 59)]) (as := [.ref 0, .int a1, .int a2]) (rest := [.int 0, .ref 59]) (i := 4) (name := "java/lang/IndexOutOfBoundsException") 26 (t_D_leads hcd ek6) (q_xinvV (Y := m_D_leads) d_Lw_leads_5 ml_Lw_29 ms_D_leads.1 ms_D_leads.2 k_D_leads.1 (by decide) n_D_leads (by decide) rfl rfl) k_D_leads (q_ro (by decide) (by decide)) (Nat.le_of_ble_eq_true rfl) d_Lw_leads_5 rfl [(0, 17, 20, 22)] (0, 17, 24, 27) [] rfl (by intro q hq; rw [List.mem_singleton.mp hq]; exact Or.inr ⟨by decide, "java/lang/IllegalStateException", q_tb 327 (by decide +kernel), by decide +kernel⟩) (by decide) (by decide) (q_tb 359 (by decide +kernel)) (q_tb 370 (by decide +kernel)) d_Lw_leads_24 rfl (by decide) rfl ?_
        refine q_iconst (v := 2) 27 d_Lw_leads_26 rfl (by decide) ?_
        cases h
        exact q_iret d_Lw_leads_27 rfl (by decide) (by decide)
      · cases h
set_option maxHeartbeats 4000000 in
set_option maxRecDepth 100000 in
theorem t_Lw_lasts {E : q_E} {c d : Nat} (hcd : q_cd c d) {x : q_W} {a1 : Int32} {ρ : Int32 × q_W} (h : f_Lw_lasts c d x a1 = some ρ) : q_Ct E y_Lw_lasts m_Lw_lasts (q_rm 8) (q_cells E c d x) [.ref 0, .int a1, .ref 59] (q_rL E c d ρ) := by
  unfold f_Lw_lasts at h
  refine q_Ct.of (lv := [(0, .ref 0), (1, .int a1), (2, .ref 59)]) (by decide) ⟨rfl, rfl⟩ rfl (Nat.le_of_ble_eq_true rfl) ?_
  refine q_aloadn 1 d_Lw_lasts_0 rfl 2 rfl ?_
  refine q_iconst (v := 0) 2 d_Lw_lasts_1 rfl (by decide) ?_
  refine q_aloadn 3 d_Lw_lasts_2 rfl 0 rfl ?_
  refine q_iloadn 4 d_Lw_lasts_3 rfl 1 rfl ?_
  refine q_xcatT (as := [.ref 0, .int a1]) (rest := [.int 0, .ref 59]) 7 h (fun z e => t_D_lasts hcd e) (q_xinvV (Y := m_D_lasts) d_Lw_lasts_4 ml_Lw_33 ms_D_lasts.1 ms_D_lasts.2 k_D_lasts.1 (by decide) n_D_lasts (by decide) rfl rfl) k_D_lasts (q_ro (by decide) (by decide)) (Nat.le_of_ble_eq_true rfl) d_Lw_lasts_4 rfl rfl rfl (fun w1 x2 ew1 h => ?_) (fun k6 x7 ek6 h => ?_)
  · refine q_ite h (fun c5 h => ?_) (fun c5 h => ?_)
    · refine q_if_eq_t 14 d_Lw_lasts_7 (by decide) c5 ?_
      refine q_lconst (v := 0) 15 d_Lw_lasts_14 rfl (by decide) ?_
      refine q_xlast 16 d_Lw_lasts_15 rfl h (fun x3 ex3 h => ?_)
      refine q_goto 25 d_Lw_lasts_16 (by decide) ?_
      refine q_iconst (v := 0) 26 d_Lw_lasts_25 rfl (by decide) ?_
      cases h
      exact q_iret d_Lw_lasts_26 rfl (by decide) (by decide)
    · refine q_if_eq_f 10 d_Lw_lasts_7 rfl 14 (by decide) c5 ?_
      refine q_lconst (v := 1) 11 d_Lw_lasts_10 rfl (by decide) ?_
      refine q_goto 15 d_Lw_lasts_11 (by decide) ?_
      refine q_xlast 16 d_Lw_lasts_15 rfl h (fun x4 ex4 h => ?_)
      refine q_goto 25 d_Lw_lasts_16 (by decide) ?_
      refine q_iconst (v := 0) 26 d_Lw_lasts_25 rfl (by decide) ?_
      cases h
      exact q_iret d_Lw_lasts_26 rfl (by decide) (by decide)
  · refine q_ite h (fun c8 h => ?_) (fun c8 h => ?_)
    · subst c8
      refine q_callC (lv := [(0, .ref 0), (1, .int a1), (2, .ref 59)]) (as := [.ref 0, .int a1]) (rest := [.int 0, .ref 59]) (i := 3) (name := "java/lang/IllegalStateException") 20 (t_D_lasts hcd ek6) (q_xinvV (Y := m_D_lasts) d_Lw_lasts_4 ml_Lw_33 ms_D_lasts.1 ms_D_lasts.2 k_D_lasts.1 (by decide) n_D_lasts (by decide) rfl rfl) k_D_lasts (q_ro (by decide) (by decide)) (Nat.le_of_ble_eq_true rfl) d_Lw_lasts_4 rfl [] (0, 16, 19, 22) [(0, 16, 22, 27)] rfl (fun q hq => nomatch hq) (by decide) (by decide) (q_tb 327 (by decide +kernel)) (q_tb 338 (by decide +kernel)) d_Lw_lasts_19 rfl (by decide) rfl ?_
      refine q_iconst (v := 1) 21 d_Lw_lasts_20 rfl (by decide) ?_
      cases h
      exact q_iret d_Lw_lasts_21 rfl (by decide) (by decide)
    · refine q_ite h (fun c9 h => ?_) (fun c9 h => ?_)
      · subst c9
        refine q_callC (lv := [(0, .ref 0), (1, .int a1), (2, .ref 59)]) (as := [.ref 0, .int a1]) (rest := [.int 0, .ref 59]) (i := 3) (name := "java/lang/IndexOutOfBoundsException") 23 (t_D_lasts hcd ek6) (q_xinvV (Y := m_D_lasts) d_Lw_lasts_4 ml_Lw_33 ms_D_lasts.1 ms_D_lasts.2 k_D_lasts.1 (by decide) n_D_lasts (by decide) rfl rfl) k_D_lasts (q_ro (by decide) (by decide)) (Nat.le_of_ble_eq_true rfl) d_Lw_lasts_4 rfl [(0, 16, 19, 22)] (0, 16, 22, 27) [] rfl (by intro q hq; rw [List.mem_singleton.mp hq]; exact Or.inr ⟨by decide, "java/lang/IllegalStateException", q_tb 327 (by decide +kernel), by decide +kernel⟩) (by decide) (by decide) (q_tb 359 (by decide +kernel)) (q_tb 370 (by decide +kernel)) d_Lw_lasts_22 rfl (by decide) rfl ?_
        refine q_iconst (v := 2) 24 d_Lw_lasts_23 rfl (by decide) ?_
        cases h
        exact q_iret d_Lw_lasts_24 rfl (by decide) (by decide)
      · cases h
set_option maxHeartbeats 4000000 in
set_option maxRecDepth 100000 in
theorem t_Lw_lasting {E : q_E} {c d : Nat} (hcd : q_cd c d) {x : q_W} {ρ : Int32 × q_W} (h : f_Lw_lasting c d x = some ρ) : q_Ct E y_Lw_lasting m_Lw_lasting (q_rm 8) (q_cells E c d x) [.ref 0, .ref 59] (q_rL E c d ρ) := by
  unfold f_Lw_lasting at h
  refine q_Ct.of (lv := [(0, .ref 0), (1, .ref 59)]) (by decide) ⟨rfl, rfl⟩ rfl (Nat.le_of_ble_eq_true rfl) ?_
  refine q_aloadn 1 d_Lw_lasting_0 rfl 1 rfl ?_
  refine q_iconst (v := 0) 2 d_Lw_lasting_1 rfl (by decide) ?_
  refine q_aloadn 3 d_Lw_lasting_2 rfl 0 rfl ?_
  refine q_xcatT (as := [.ref 0]) (rest := [.int 0, .ref 59]) 6 h (fun z e => t_D_lasting hcd e) (q_xinvV (Y := m_D_lasting) d_Lw_lasting_3 ml_Lw_36 ms_D_lasting.1 ms_D_lasting.2 k_D_lasting.1 (by decide) n_D_lasting (by decide) rfl rfl) k_D_lasting (q_ro (by decide) (by decide)) (Nat.le_of_ble_eq_true rfl) d_Lw_lasting_3 rfl rfl rfl (fun w1 x2 ew1 h => ?_) (fun k4 x5 ek4 h => ?_)
  · refine q_i2l 7 d_Lw_lasting_6 rfl ?_
    refine q_xlast 8 d_Lw_lasting_7 rfl h (fun x3 ex3 h => ?_)
    refine q_goto 14 d_Lw_lasting_8 (by decide) ?_
    refine q_iconst (v := 0) 15 d_Lw_lasting_14 rfl (by decide) ?_
    cases h
    exact q_iret d_Lw_lasting_15 rfl (by decide) (by decide)
  · refine q_ite h (fun c6 h => ?_) (fun c6 h => ?_)
    · subst c6
      refine q_callC (lv := [(0, .ref 0), (1, .ref 59)]) (as := [.ref 0]) (rest := [.int 0, .ref 59]) (i := 2) (name := "java/lang/IllegalStateException") 12 (t_D_lasting hcd ek4) (q_xinvV (Y := m_D_lasting) d_Lw_lasting_3 ml_Lw_36 ms_D_lasting.1 ms_D_lasting.2 k_D_lasting.1 (by decide) n_D_lasting (by decide) rfl rfl) k_D_lasting (q_ro (by decide) (by decide)) (Nat.le_of_ble_eq_true rfl) d_Lw_lasting_3 rfl [] (0, 8, 11, 22) [] rfl (fun q hq => nomatch hq) (by decide) (by decide) (q_tb 327 (by decide +kernel)) (q_tb 338 (by decide +kernel)) d_Lw_lasting_11 rfl (by decide) rfl ?_
      refine q_iconst (v := 1) 13 d_Lw_lasting_12 rfl (by decide) ?_
      cases h
      exact q_iret d_Lw_lasting_13 rfl (by decide) (by decide)
    · cases h
set_option maxHeartbeats 4000000 in
set_option maxRecDepth 100000 in
theorem t_Lw_promises {E : q_E} {c d : Nat} (hcd : q_cd c d) {x : q_W} {ρ : Int32 × q_W} (h : f_Lw_promises c d x = some ρ) : q_Ct E y_Lw_promises m_Lw_promises (q_rm 8) (q_cells E c d x) [.ref 0, .ref 59] (q_rL E c d ρ) := by
  unfold f_Lw_promises at h
  refine q_Ct.of (lv := [(0, .ref 0), (1, .ref 59)]) (by decide) ⟨rfl, rfl⟩ rfl (Nat.le_of_ble_eq_true rfl) ?_
  refine q_aloadn 1 d_Lw_promises_0 rfl 1 rfl ?_
  refine q_iconst (v := 0) 2 d_Lw_promises_1 rfl (by decide) ?_
  refine q_aloadn 3 d_Lw_promises_2 rfl 0 rfl ?_
  refine q_xcatP (as := [.ref 0]) (rest := [.int 0, .ref 59]) 6 h (fun z e => t_D_promises hcd e) (q_xinvV (Y := m_D_promises) d_Lw_promises_3 ml_Lw_39 ms_D_promises.1 ms_D_promises.2 k_D_promises.1 (by decide) n_D_promises (by decide) rfl rfl) k_D_promises (q_ro (by decide) (by decide)) (Nat.le_of_ble_eq_true rfl) d_Lw_promises_3 rfl rfl rfl (fun w1  ew1 h => ?_) (fun k4  ek4 h => ?_)
  · refine q_i2l 7 d_Lw_promises_6 rfl ?_
    refine q_xlast 8 d_Lw_promises_7 rfl h (fun x3 ex3 h => ?_)
    refine q_goto 14 d_Lw_promises_8 (by decide) ?_
    refine q_iconst (v := 0) 15 d_Lw_promises_14 rfl (by decide) ?_
    cases h
    exact q_iret d_Lw_promises_15 rfl (by decide) (by decide)
  · refine q_ite h (fun c6 h => ?_) (fun c6 h => ?_)
    · subst c6
      refine q_callC (lv := [(0, .ref 0), (1, .ref 59)]) (as := [.ref 0]) (rest := [.int 0, .ref 59]) (i := 2) (name := "java/lang/IllegalStateException") 12 (t_D_promises hcd ek4) (q_xinvV (Y := m_D_promises) d_Lw_promises_3 ml_Lw_39 ms_D_promises.1 ms_D_promises.2 k_D_promises.1 (by decide) n_D_promises (by decide) rfl rfl) k_D_promises (q_ro (by decide) (by decide)) (Nat.le_of_ble_eq_true rfl) d_Lw_promises_3 rfl [] (0, 8, 11, 22) [] rfl (fun q hq => nomatch hq) (by decide) (by decide) (q_tb 327 (by decide +kernel)) (q_tb 338 (by decide +kernel)) d_Lw_promises_11 rfl (by decide) rfl ?_
      refine q_iconst (v := 1) 13 d_Lw_promises_12 rfl (by decide) ?_
      cases h
      exact q_iret d_Lw_promises_13 rfl (by decide) (by decide)
    · cases h
set_option maxHeartbeats 4000000 in
set_option maxRecDepth 100000 in
theorem t_Lw_can {E : q_E} {c d : Nat} (hcd : q_cd c d) {x : q_W} {ρ : Int32 × q_W} (h : f_Lw_can c d x = some ρ) : q_Ct E y_Lw_can m_Lw_can (q_rm 8) (q_cells E c d x) [.ref 0, .ref 59] (q_rL E c d ρ) := by
  unfold f_Lw_can at h
  refine q_Ct.of (lv := [(0, .ref 0), (1, .ref 59)]) (by decide) ⟨rfl, rfl⟩ rfl (Nat.le_of_ble_eq_true rfl) ?_
  refine q_aloadn 1 d_Lw_can_0 rfl 1 rfl ?_
  refine q_iconst (v := 0) 2 d_Lw_can_1 rfl (by decide) ?_
  refine q_aloadn 3 d_Lw_can_2 rfl 0 rfl ?_
  refine q_xcatT (as := [.ref 0]) (rest := [.int 0, .ref 59]) 6 h (fun z e => t_D_can hcd e) (q_xinvV (Y := m_D_can) d_Lw_can_3 ml_Lw_42 ms_D_can.1 ms_D_can.2 k_D_can.1 (by decide) n_D_can (by decide) rfl rfl) k_D_can (q_ro (by decide) (by decide)) (Nat.le_of_ble_eq_true rfl) d_Lw_can_3 rfl rfl rfl (fun w1 x2 ew1 h => ?_) (fun k6 x7 ek6 h => ?_)
  · refine q_ite h (fun c5 h => ?_) (fun c5 h => ?_)
    · refine q_if_eq_t 13 d_Lw_can_6 (by decide) c5 ?_
      refine q_lconst (v := 0) 14 d_Lw_can_13 rfl (by decide) ?_
      refine q_xlast 15 d_Lw_can_14 rfl h (fun x3 ex3 h => ?_)
      refine q_goto 21 d_Lw_can_15 (by decide) ?_
      refine q_iconst (v := 0) 22 d_Lw_can_21 rfl (by decide) ?_
      cases h
      exact q_iret d_Lw_can_22 rfl (by decide) (by decide)
    · refine q_if_eq_f 9 d_Lw_can_6 rfl 13 (by decide) c5 ?_
      refine q_lconst (v := 1) 10 d_Lw_can_9 rfl (by decide) ?_
      refine q_goto 14 d_Lw_can_10 (by decide) ?_
      refine q_xlast 15 d_Lw_can_14 rfl h (fun x4 ex4 h => ?_)
      refine q_goto 21 d_Lw_can_15 (by decide) ?_
      refine q_iconst (v := 0) 22 d_Lw_can_21 rfl (by decide) ?_
      cases h
      exact q_iret d_Lw_can_22 rfl (by decide) (by decide)
  · refine q_ite h (fun c8 h => ?_) (fun c8 h => ?_)
    · subst c8
      refine q_callC (lv := [(0, .ref 0), (1, .ref 59)]) (as := [.ref 0]) (rest := [.int 0, .ref 59]) (i := 2) (name := "java/lang/IllegalStateException") 19 (t_D_can hcd ek6) (q_xinvV (Y := m_D_can) d_Lw_can_3 ml_Lw_42 ms_D_can.1 ms_D_can.2 k_D_can.1 (by decide) n_D_can (by decide) rfl rfl) k_D_can (q_ro (by decide) (by decide)) (Nat.le_of_ble_eq_true rfl) d_Lw_can_3 rfl [] (0, 15, 18, 22) [] rfl (fun q hq => nomatch hq) (by decide) (by decide) (q_tb 327 (by decide +kernel)) (q_tb 338 (by decide +kernel)) d_Lw_can_18 rfl (by decide) rfl ?_
      refine q_iconst (v := 1) 20 d_Lw_can_19 rfl (by decide) ?_
      cases h
      exact q_iret d_Lw_can_20 rfl (by decide) (by decide)
    · cases h
set_option maxHeartbeats 4000000 in
set_option maxRecDepth 100000 in
theorem t_Lw_stem {E : q_E} {c d : Nat} (hcd : q_cd c d) {x : q_W} {ρ : Int32 × q_W} (h : f_Lw_stem c d x = some ρ) : q_Ct E y_Lw_stem m_Lw_stem (q_rm 8) (q_cells E c d x) [.ref 0, .ref 59] (q_rL E c d ρ) := by
  unfold f_Lw_stem at h
  refine q_Ct.of (lv := [(0, .ref 0), (1, .ref 59)]) (by decide) ⟨rfl, rfl⟩ rfl (Nat.le_of_ble_eq_true rfl) ?_
  refine q_aloadn 1 d_Lw_stem_0 rfl 1 rfl ?_
  refine q_iconst (v := 0) 2 d_Lw_stem_1 rfl (by decide) ?_
  refine q_aloadn 3 d_Lw_stem_2 rfl 0 rfl ?_
  refine q_xcatT (as := [.ref 0]) (rest := [.int 0, .ref 59]) 6 h (fun z e => t_D_stem hcd e) (q_xinvV (Y := m_D_stem) d_Lw_stem_3 ml_Lw_46 ms_D_stem.1 ms_D_stem.2 k_D_stem.1 (by decide) n_D_stem (by decide) rfl rfl) k_D_stem (q_ro (by decide) (by decide)) (Nat.le_of_ble_eq_true rfl) d_Lw_stem_3 rfl rfl rfl (fun w1 x2 ew1 h => ?_) (fun k4 x5 ek4 h => ?_)
  · refine q_i2l 7 d_Lw_stem_6 rfl ?_
    refine q_xlast 8 d_Lw_stem_7 rfl h (fun x3 ex3 h => ?_)
    refine q_goto 14 d_Lw_stem_8 (by decide) ?_
    refine q_iconst (v := 0) 15 d_Lw_stem_14 rfl (by decide) ?_
    cases h
    exact q_iret d_Lw_stem_15 rfl (by decide) (by decide)
  · refine q_ite h (fun c6 h => ?_) (fun c6 h => ?_)
    · subst c6
      refine q_callC (lv := [(0, .ref 0), (1, .ref 59)]) (as := [.ref 0]) (rest := [.int 0, .ref 59]) (i := 2) (name := "java/lang/IllegalStateException") 12 (t_D_stem hcd ek4) (q_xinvV (Y := m_D_stem) d_Lw_stem_3 ml_Lw_46 ms_D_stem.1 ms_D_stem.2 k_D_stem.1 (by decide) n_D_stem (by decide) rfl rfl) k_D_stem (q_ro (by decide) (by decide)) (Nat.le_of_ble_eq_true rfl) d_Lw_stem_3 rfl [] (0, 8, 11, 22) [] rfl (fun q hq => nomatch hq) (by decide) (by decide) (q_tb 327 (by decide +kernel)) (q_tb 338 (by decide +kernel)) d_Lw_stem_11 rfl (by decide) rfl ?_
      refine q_iconst (v := 1) 13 d_Lw_stem_12 rfl (by decide) ?_
      cases h
      exact q_iret d_Lw_stem_13 rfl (by decide) (by decide)
    · cases h
set_option maxHeartbeats 4000000 in
set_option maxRecDepth 100000 in
theorem t_Lw_loop {E : q_E} {c d : Nat} (hcd : q_cd c d) {x : q_W} {ρ : Int32 × q_W} (h : f_Lw_loop c d x = some ρ) : q_Ct E y_Lw_loop m_Lw_loop (q_rm 8) (q_cells E c d x) [.ref 0, .ref 59] (q_rL E c d ρ) := by
  unfold f_Lw_loop at h
  refine q_Ct.of (lv := [(0, .ref 0), (1, .ref 59)]) (by decide) ⟨rfl, rfl⟩ rfl (Nat.le_of_ble_eq_true rfl) ?_
  refine q_aloadn 1 d_Lw_loop_0 rfl 1 rfl ?_
  refine q_iconst (v := 0) 2 d_Lw_loop_1 rfl (by decide) ?_
  refine q_aloadn 3 d_Lw_loop_2 rfl 0 rfl ?_
  refine q_xcatT (as := [.ref 0]) (rest := [.int 0, .ref 59]) 6 h (fun z e => t_D_loop hcd e) (q_xinvV (Y := m_D_loop) d_Lw_loop_3 ml_Lw_49 ms_D_loop.1 ms_D_loop.2 k_D_loop.1 (by decide) n_D_loop (by decide) rfl rfl) k_D_loop (q_ro (by decide) (by decide)) (Nat.le_of_ble_eq_true rfl) d_Lw_loop_3 rfl rfl rfl (fun w1 x2 ew1 h => ?_) (fun k4 x5 ek4 h => ?_)
  · refine q_i2l 7 d_Lw_loop_6 rfl ?_
    refine q_xlast 8 d_Lw_loop_7 rfl h (fun x3 ex3 h => ?_)
    refine q_goto 14 d_Lw_loop_8 (by decide) ?_
    refine q_iconst (v := 0) 15 d_Lw_loop_14 rfl (by decide) ?_
    cases h
    exact q_iret d_Lw_loop_15 rfl (by decide) (by decide)
  · refine q_ite h (fun c6 h => ?_) (fun c6 h => ?_)
    · subst c6
      refine q_callC (lv := [(0, .ref 0), (1, .ref 59)]) (as := [.ref 0]) (rest := [.int 0, .ref 59]) (i := 2) (name := "java/lang/IllegalStateException") 12 (t_D_loop hcd ek4) (q_xinvV (Y := m_D_loop) d_Lw_loop_3 ml_Lw_49 ms_D_loop.1 ms_D_loop.2 k_D_loop.1 (by decide) n_D_loop (by decide) rfl rfl) k_D_loop (q_ro (by decide) (by decide)) (Nat.le_of_ble_eq_true rfl) d_Lw_loop_3 rfl [] (0, 8, 11, 22) [] rfl (fun q hq => nomatch hq) (by decide) (by decide) (q_tb 327 (by decide +kernel)) (q_tb 338 (by decide +kernel)) d_Lw_loop_11 rfl (by decide) rfl ?_
      refine q_iconst (v := 1) 13 d_Lw_loop_12 rfl (by decide) ?_
      cases h
      exact q_iret d_Lw_loop_13 rfl (by decide) (by decide)
    · cases h
set_option maxHeartbeats 4000000 in
set_option maxRecDepth 100000 in
theorem t_Lw_step {E : q_E} {c d : Nat} (hcd : q_cd c d) {x : q_W} {a1 : Int32} {ρ : Int32 × q_W} (h : f_Lw_step c d x a1 = some ρ) : q_Ct E y_Lw_step m_Lw_step (q_rm 8) (q_cells E c d x) [.ref 0, .int a1, .ref 59] (q_rL E c d ρ) := by
  unfold f_Lw_step at h
  refine q_Ct.of (lv := [(0, .ref 0), (1, .int a1), (2, .ref 59)]) (by decide) ⟨rfl, rfl⟩ rfl (Nat.le_of_ble_eq_true rfl) ?_
  refine q_aloadn 1 d_Lw_step_0 rfl 2 rfl ?_
  refine q_iconst (v := 0) 2 d_Lw_step_1 rfl (by decide) ?_
  refine q_aloadn 3 d_Lw_step_2 rfl 0 rfl ?_
  refine q_iloadn 4 d_Lw_step_3 rfl 1 rfl ?_
  refine q_xcatT (as := [.ref 0, .int a1]) (rest := [.int 0, .ref 59]) 7 h (fun z e => t_D_step hcd e) (q_xinvV (Y := m_D_step) d_Lw_step_4 ml_Lw_52 ms_D_step.1 ms_D_step.2 k_D_step.1 (by decide) n_D_step (by decide) rfl rfl) k_D_step (q_ro (by decide) (by decide)) (Nat.le_of_ble_eq_true rfl) d_Lw_step_4 rfl rfl rfl (fun w1 x2 ew1 h => ?_) (fun k4 x5 ek4 h => ?_)
  · refine q_i2l 8 d_Lw_step_7 rfl ?_
    refine q_xlast 9 d_Lw_step_8 rfl h (fun x3 ex3 h => ?_)
    refine q_goto 18 d_Lw_step_9 (by decide) ?_
    refine q_iconst (v := 0) 19 d_Lw_step_18 rfl (by decide) ?_
    cases h
    exact q_iret d_Lw_step_19 rfl (by decide) (by decide)
  · refine q_ite h (fun c6 h => ?_) (fun c6 h => ?_)
    · subst c6
      refine q_callC (lv := [(0, .ref 0), (1, .int a1), (2, .ref 59)]) (as := [.ref 0, .int a1]) (rest := [.int 0, .ref 59]) (i := 3) (name := "java/lang/IllegalStateException") 13 (t_D_step hcd ek4) (q_xinvV (Y := m_D_step) d_Lw_step_4 ml_Lw_52 ms_D_step.1 ms_D_step.2 k_D_step.1 (by decide) n_D_step (by decide) rfl rfl) k_D_step (q_ro (by decide) (by decide)) (Nat.le_of_ble_eq_true rfl) d_Lw_step_4 rfl [] (0, 9, 12, 22) [(0, 9, 15, 27)] rfl (fun q hq => nomatch hq) (by decide) (by decide) (q_tb 327 (by decide +kernel)) (q_tb 338 (by decide +kernel)) d_Lw_step_12 rfl (by decide) rfl ?_
      refine q_iconst (v := 1) 14 d_Lw_step_13 rfl (by decide) ?_
      cases h
      exact q_iret d_Lw_step_14 rfl (by decide) (by decide)
    · refine q_ite h (fun c7 h => ?_) (fun c7 h => ?_)
      · subst c7
        refine q_callC (lv := [(0, .ref 0), (1, .int a1), (2, .ref 59)]) (as := [.ref 0, .int a1]) (rest := [.int 0, .ref 59]) (i := 3) (name := "java/lang/IndexOutOfBoundsException") 16 (t_D_step hcd ek4) (q_xinvV (Y := m_D_step) d_Lw_step_4 ml_Lw_52 ms_D_step.1 ms_D_step.2 k_D_step.1 (by decide) n_D_step (by decide) rfl rfl) k_D_step (q_ro (by decide) (by decide)) (Nat.le_of_ble_eq_true rfl) d_Lw_step_4 rfl [(0, 9, 12, 22)] (0, 9, 15, 27) [] rfl (by intro q hq; rw [List.mem_singleton.mp hq]; exact Or.inr ⟨by decide, "java/lang/IllegalStateException", q_tb 327 (by decide +kernel), by decide +kernel⟩) (by decide) (by decide) (q_tb 359 (by decide +kernel)) (q_tb 370 (by decide +kernel)) d_Lw_step_15 rfl (by decide) rfl ?_
        refine q_iconst (v := 2) 17 d_Lw_step_16 rfl (by decide) ?_
        cases h
        exact q_iret d_Lw_step_17 rfl (by decide) (by decide)
      · cases h
set_option maxHeartbeats 4000000 in
set_option maxRecDepth 100000 in
theorem t_Lw_shape {E : q_E} {c d : Nat} (hcd : q_cd c d) {x : q_W} {a1 : Int32} {a2 : Int32} {ρ : Int32 × q_W} (h : f_Lw_shape c d x a1 a2 = some ρ) : q_Ct E y_Lw_shape m_Lw_shape (q_rm 7) (q_cells E c d x) [.ref 0, .int a1, .int a2] (q_rL E c d ρ) := by
  unfold f_Lw_shape at h
  refine q_Ct.of (lv := [(0, .ref 0), (1, .int a1), (2, .int a2)]) (by decide) ⟨rfl, rfl⟩ rfl (Nat.le_of_ble_eq_true rfl) ?_
  refine q_aloadn 1 d_Lw_shape_0 rfl 0 rfl ?_
  refine q_iloadn 2 d_Lw_shape_1 rfl 1 rfl ?_
  refine q_iloadn 3 d_Lw_shape_2 rfl 2 rfl ?_
  refine q_xcatT (as := [.ref 0, .int a1, .int a2]) (rest := []) 6 h (fun z e => t_D_shape hcd e) (q_xinvV (Y := m_D_shape) d_Lw_shape_3 ml_Lw_56 ms_D_shape.1 ms_D_shape.2 k_D_shape.1 (by decide) n_D_shape (by decide) rfl rfl) k_D_shape (q_ro (by decide) (by decide)) (Nat.le_of_ble_eq_true rfl) d_Lw_shape_3 rfl rfl rfl (fun w1 x2 ew1 h => ?_) (fun k3 x4 ek3 h => ?_)
  · refine q_goto 12 d_Lw_shape_6 (by decide) ?_
    refine q_iconst (v := 0) 13 d_Lw_shape_12 rfl (by decide) ?_
    cases h
    exact q_iret d_Lw_shape_13 rfl (by decide) (by decide)
  · refine q_ite h (fun c5 h => ?_) (fun c5 h => ?_)
    · subst c5
      refine q_callC (lv := [(0, .ref 0), (1, .int a1), (2, .int a2)]) (as := [.ref 0, .int a1, .int a2]) (rest := []) (i := 3) (name := "java/lang/IllegalArgumentException") 10 (t_D_shape hcd ek3) (q_xinvV (Y := m_D_shape) d_Lw_shape_3 ml_Lw_56 ms_D_shape.1 ms_D_shape.2 k_D_shape.1 (by decide) n_D_shape (by decide) rfl rfl) k_D_shape (q_ro (by decide) (by decide)) (Nat.le_of_ble_eq_true rfl) d_Lw_shape_3 rfl [] (0, 6, 9, 13) [] rfl (fun q hq => nomatch hq) (by decide) (by decide) (q_tb 179 (by decide +kernel)) (q_tb 195 (by decide +kernel)) d_Lw_shape_9 rfl (by decide) rfl ?_
      refine q_iconst (v := 1) 11 d_Lw_shape_10 rfl (by decide) ?_
      cases h
      exact q_iret d_Lw_shape_11 rfl (by decide) (by decide)
    · cases h
set_option maxHeartbeats 4000000 in
set_option maxRecDepth 100000 in
theorem t_Lw_set {E : q_E} {c d : Nat} (hcd : q_cd c d) {x : q_W} {a1 : Int32} {a2 : Int32} {ρ : Int32 × q_W} (h : f_Lw_set c d x a1 a2 = some ρ) : q_Ct E y_Lw_set m_Lw_set (q_rm 7) (q_cells E c d x) [.ref 0, .int a1, .int a2, .ref 59] (q_rL E c d ρ) := by
  unfold f_Lw_set at h
  refine q_Ct.of (lv := [(0, .ref 0), (1, .int a1), (2, .int a2), (3, .ref 59)]) (by decide) ⟨rfl, rfl⟩ rfl (Nat.le_of_ble_eq_true rfl) ?_
  refine q_aloadn 1 d_Lw_set_0 rfl 3 rfl ?_
  refine q_iconst (v := 0) 2 d_Lw_set_1 rfl (by decide) ?_
  refine q_aloadn 3 d_Lw_set_2 rfl 0 rfl ?_
  refine q_iloadn 4 d_Lw_set_3 rfl 1 rfl ?_
  refine q_iloadn 5 d_Lw_set_4 rfl 2 rfl ?_
  refine q_xcatT (as := [.ref 0, .int a1, .int a2]) (rest := [.int 0, .ref 59]) 8 h (fun z e => t_D_set hcd e) (q_xinvV (Y := m_D_set) d_Lw_set_5 ml_Lw_60 ms_D_set.1 ms_D_set.2 k_D_set.1 (by decide) n_D_set (by decide) rfl rfl) k_D_set (q_ro (by decide) (by decide)) (Nat.le_of_ble_eq_true rfl) d_Lw_set_5 rfl rfl rfl (fun w1 x2 ew1 h => ?_) (fun k4 x5 ek4 h => ?_)
  · refine q_i2l 9 d_Lw_set_8 rfl ?_
    refine q_xlast 10 d_Lw_set_9 rfl h (fun x3 ex3 h => ?_)
    refine q_goto 17 d_Lw_set_10 (by decide) ?_
    refine q_iconst (v := 0) 18 d_Lw_set_17 rfl (by decide) ?_
    cases h
    exact q_iret d_Lw_set_18 rfl (by decide) (by decide)
  · refine q_ite h (fun c6 h => ?_) (fun c6 h => ?_)
    · subst c6
      refine q_callC2 (lv := [(0, .ref 0), (1, .int a1), (2, .int a2), (3, .ref 59)]) (as := [.ref 0, .int a1, .int a2]) (rest := [.int 0, .ref 59]) (i := 4) (name := "java/lang/IndexOutOfBoundsException") 15 (t_D_set hcd ek4) (q_xinvV (Y := m_D_set) d_Lw_set_5 ml_Lw_60 ms_D_set.1 ms_D_set.2 k_D_set.1 (by decide) n_D_set (by decide) rfl rfl) k_D_set (q_ro (by decide) (by decide)) (Nat.le_of_ble_eq_true rfl) d_Lw_set_5 rfl [] (0, 10, 13, 27) [] rfl (fun q hq => nomatch hq) (by decide) (by decide) (q_tb 359 (by decide +kernel)) (q_tb 370 (by decide +kernel)) d_Lw_set_13 rfl (by decide) rfl ?_
      refine q_iconst (v := 1) 16 d_Lw_set_15 rfl (by decide) ?_
      cases h
      exact q_iret d_Lw_set_16 rfl (by decide) (by decide)
    · cases h
set_option maxHeartbeats 4000000 in
set_option maxRecDepth 100000 in
theorem t_Lw_adopt {E : q_E} {c d : Nat} (hcd : q_cd c d) {x : q_W} {ρ : Int32 × q_W} (h : f_Lw_adopt c d x = some ρ) : q_Ct E y_Lw_adopt m_Lw_adopt (q_rm 8) (q_cells E c d x) [.ref 0, .ref 59] (q_rL E c d ρ) := by
  unfold f_Lw_adopt at h
  refine q_Ct.of (lv := [(0, .ref 0), (1, .ref 59)]) (by decide) ⟨rfl, rfl⟩ rfl (Nat.le_of_ble_eq_true rfl) ?_
  refine q_aloadn 1 d_Lw_adopt_0 rfl 1 rfl ?_
  refine q_iconst (v := 0) 2 d_Lw_adopt_1 rfl (by decide) ?_
  refine q_aloadn 3 d_Lw_adopt_2 rfl 0 rfl ?_
  refine q_xcatT (as := [.ref 0]) (rest := [.int 0, .ref 59]) 6 h (fun z e => t_D_adopt hcd e) (q_xinvV (Y := m_D_adopt) d_Lw_adopt_3 ml_Lw_64 ms_D_adopt.1 ms_D_adopt.2 k_D_adopt.1 (by decide) n_D_adopt (by decide) rfl rfl) k_D_adopt (q_ro (by decide) (by decide)) (Nat.le_of_ble_eq_true rfl) d_Lw_adopt_3 rfl rfl rfl (fun w1 x2 ew1 h => ?_) (fun k6 x7 ek6 h => ?_)
  · refine q_ite h (fun c5 h => ?_) (fun c5 h => ?_)
    · refine q_if_eq_t 13 d_Lw_adopt_6 (by decide) c5 ?_
      refine q_lconst (v := 0) 14 d_Lw_adopt_13 rfl (by decide) ?_
      refine q_xlast 15 d_Lw_adopt_14 rfl h (fun x3 ex3 h => ?_)
      refine q_goto 21 d_Lw_adopt_15 (by decide) ?_
      refine q_iconst (v := 0) 22 d_Lw_adopt_21 rfl (by decide) ?_
      cases h
      exact q_iret d_Lw_adopt_22 rfl (by decide) (by decide)
    · refine q_if_eq_f 9 d_Lw_adopt_6 rfl 13 (by decide) c5 ?_
      refine q_lconst (v := 1) 10 d_Lw_adopt_9 rfl (by decide) ?_
      refine q_goto 14 d_Lw_adopt_10 (by decide) ?_
      refine q_xlast 15 d_Lw_adopt_14 rfl h (fun x4 ex4 h => ?_)
      refine q_goto 21 d_Lw_adopt_15 (by decide) ?_
      refine q_iconst (v := 0) 22 d_Lw_adopt_21 rfl (by decide) ?_
      cases h
      exact q_iret d_Lw_adopt_22 rfl (by decide) (by decide)
  · refine q_ite h (fun c8 h => ?_) (fun c8 h => ?_)
    · subst c8
      refine q_callC (lv := [(0, .ref 0), (1, .ref 59)]) (as := [.ref 0]) (rest := [.int 0, .ref 59]) (i := 2) (name := "java/lang/IllegalStateException") 19 (t_D_adopt hcd ek6) (q_xinvV (Y := m_D_adopt) d_Lw_adopt_3 ml_Lw_64 ms_D_adopt.1 ms_D_adopt.2 k_D_adopt.1 (by decide) n_D_adopt (by decide) rfl rfl) k_D_adopt (q_ro (by decide) (by decide)) (Nat.le_of_ble_eq_true rfl) d_Lw_adopt_3 rfl [] (0, 15, 18, 22) [] rfl (fun q hq => nomatch hq) (by decide) (by decide) (q_tb 327 (by decide +kernel)) (q_tb 338 (by decide +kernel)) d_Lw_adopt_18 rfl (by decide) rfl ?_
      refine q_iconst (v := 1) 20 d_Lw_adopt_19 rfl (by decide) ?_
      cases h
      exact q_iret d_Lw_adopt_20 rfl (by decide) (by decide)
    · cases h
set_option maxHeartbeats 4000000 in
set_option maxRecDepth 100000 in
theorem t_Lw_letter {E : q_E} {c d : Nat} (hcd : q_cd c d) {x : q_W} {a1 : Int32} {ρ : Int32 × q_W} (h : f_Lw_letter c d x a1 = some ρ) : q_Ct E y_Lw_letter m_Lw_letter (q_rm 8) (q_cells E c d x) [.ref 0, .int a1, .ref 59] (q_rL E c d ρ) := by
  unfold f_Lw_letter at h
  refine q_Ct.of (lv := [(0, .ref 0), (1, .int a1), (2, .ref 59)]) (by decide) ⟨rfl, rfl⟩ rfl (Nat.le_of_ble_eq_true rfl) ?_
  refine q_aloadn 1 d_Lw_letter_0 rfl 2 rfl ?_
  refine q_iconst (v := 0) 2 d_Lw_letter_1 rfl (by decide) ?_
  refine q_aloadn 3 d_Lw_letter_2 rfl 0 rfl ?_
  refine q_iloadn 4 d_Lw_letter_3 rfl 1 rfl ?_
  refine q_xcatP (as := [.ref 0, .int a1]) (rest := [.int 0, .ref 59]) 7 h (fun z e => t_D_letter hcd e) (q_xinvV (Y := m_D_letter) d_Lw_letter_4 ml_Lw_67 ms_D_letter.1 ms_D_letter.2 k_D_letter.1 (by decide) n_D_letter (by decide) rfl rfl) k_D_letter (q_ro (by decide) (by decide)) (Nat.le_of_ble_eq_true rfl) d_Lw_letter_4 rfl rfl rfl (fun w1  ew1 h => ?_) (fun k4  ek4 h => ?_)
  · refine q_i2l 8 d_Lw_letter_7 rfl ?_
    refine q_xlast 9 d_Lw_letter_8 rfl h (fun x3 ex3 h => ?_)
    refine q_goto 15 d_Lw_letter_9 (by decide) ?_
    refine q_iconst (v := 0) 16 d_Lw_letter_15 rfl (by decide) ?_
    cases h
    exact q_iret d_Lw_letter_16 rfl (by decide) (by decide)
  · refine q_ite h (fun c6 h => ?_) (fun c6 h => ?_)
    · subst c6
      refine q_callC (lv := [(0, .ref 0), (1, .int a1), (2, .ref 59)]) (as := [.ref 0, .int a1]) (rest := [.int 0, .ref 59]) (i := 3) (name := "java/lang/IndexOutOfBoundsException") 13 (t_D_letter hcd ek4) (q_xinvV (Y := m_D_letter) d_Lw_letter_4 ml_Lw_67 ms_D_letter.1 ms_D_letter.2 k_D_letter.1 (by decide) n_D_letter (by decide) rfl rfl) k_D_letter (q_ro (by decide) (by decide)) (Nat.le_of_ble_eq_true rfl) d_Lw_letter_4 rfl [] (0, 9, 12, 27) [] rfl (fun q hq => nomatch hq) (by decide) (by decide) (q_tb 359 (by decide +kernel)) (q_tb 370 (by decide +kernel)) d_Lw_letter_12 rfl (by decide) rfl ?_
      refine q_iconst (v := 1) 14 d_Lw_letter_13 rfl (by decide) ?_
      cases h
      exact q_iret d_Lw_letter_14 rfl (by decide) (by decide)
    · cases h
set_option maxHeartbeats 4000000 in
set_option maxRecDepth 100000 in
theorem t_Lw_holds {E : q_E} {c d : Nat} (hcd : q_cd c d) {x : q_W} {a1 : Int32} {ρ : Int32 × q_W} (h : f_Lw_holds c d x a1 = some ρ) : q_Ct E y_Lw_holds m_Lw_holds (q_rm 8) (q_cells E c d x) [.ref 0, .int a1, .ref 59] (q_rL E c d ρ) := by
  unfold f_Lw_holds at h
  refine q_Ct.of (lv := [(0, .ref 0), (1, .int a1), (2, .ref 59)]) (by decide) ⟨rfl, rfl⟩ rfl (Nat.le_of_ble_eq_true rfl) ?_
  refine q_aloadn 1 d_Lw_holds_0 rfl 2 rfl ?_
  refine q_iconst (v := 0) 2 d_Lw_holds_1 rfl (by decide) ?_
  refine q_aloadn 3 d_Lw_holds_2 rfl 0 rfl ?_
  refine q_iloadn 4 d_Lw_holds_3 rfl 1 rfl ?_
  refine q_xcatT (as := [.ref 0, .int a1]) (rest := [.int 0, .ref 59]) 7 h (fun z e => t_D_holds hcd e) (q_xinvV (Y := m_D_holds) d_Lw_holds_4 ml_Lw_70 ms_D_holds.1 ms_D_holds.2 k_D_holds.1 (by decide) n_D_holds (by decide) rfl rfl) k_D_holds (q_ro (by decide) (by decide)) (Nat.le_of_ble_eq_true rfl) d_Lw_holds_4 rfl rfl rfl (fun w1 x2 ew1 h => ?_) (fun k6 x7 ek6 h => ?_)
  · refine q_ite h (fun c5 h => ?_) (fun c5 h => ?_)
    · refine q_if_eq_t 14 d_Lw_holds_7 (by decide) c5 ?_
      refine q_lconst (v := 0) 15 d_Lw_holds_14 rfl (by decide) ?_
      refine q_xlast 16 d_Lw_holds_15 rfl h (fun x3 ex3 h => ?_)
      refine q_goto 25 d_Lw_holds_16 (by decide) ?_
      refine q_iconst (v := 0) 26 d_Lw_holds_25 rfl (by decide) ?_
      cases h
      exact q_iret d_Lw_holds_26 rfl (by decide) (by decide)
    · refine q_if_eq_f 10 d_Lw_holds_7 rfl 14 (by decide) c5 ?_
      refine q_lconst (v := 1) 11 d_Lw_holds_10 rfl (by decide) ?_
      refine q_goto 15 d_Lw_holds_11 (by decide) ?_
      refine q_xlast 16 d_Lw_holds_15 rfl h (fun x4 ex4 h => ?_)
      refine q_goto 25 d_Lw_holds_16 (by decide) ?_
      refine q_iconst (v := 0) 26 d_Lw_holds_25 rfl (by decide) ?_
      cases h
      exact q_iret d_Lw_holds_26 rfl (by decide) (by decide)
  · refine q_ite h (fun c8 h => ?_) (fun c8 h => ?_)
    · subst c8
      refine q_callC (lv := [(0, .ref 0), (1, .int a1), (2, .ref 59)]) (as := [.ref 0, .int a1]) (rest := [.int 0, .ref 59]) (i := 3) (name := "java/lang/IllegalStateException") 20 (t_D_holds hcd ek6) (q_xinvV (Y := m_D_holds) d_Lw_holds_4 ml_Lw_70 ms_D_holds.1 ms_D_holds.2 k_D_holds.1 (by decide) n_D_holds (by decide) rfl rfl) k_D_holds (q_ro (by decide) (by decide)) (Nat.le_of_ble_eq_true rfl) d_Lw_holds_4 rfl [] (0, 16, 19, 22) [(0, 16, 22, 27)] rfl (fun q hq => nomatch hq) (by decide) (by decide) (q_tb 327 (by decide +kernel)) (q_tb 338 (by decide +kernel)) d_Lw_holds_19 rfl (by decide) rfl ?_
      refine q_iconst (v := 1) 21 d_Lw_holds_20 rfl (by decide) ?_
      cases h
      exact q_iret d_Lw_holds_21 rfl (by decide) (by decide)
    · refine q_ite h (fun c9 h => ?_) (fun c9 h => ?_)
      · subst c9
        refine q_callC (lv := [(0, .ref 0), (1, .int a1), (2, .ref 59)]) (as := [.ref 0, .int a1]) (rest := [.int 0, .ref 59]) (i := 3) (name := "java/lang/IndexOutOfBoundsException") 23 (t_D_holds hcd ek6) (q_xinvV (Y := m_D_holds) d_Lw_holds_4 ml_Lw_70 ms_D_holds.1 ms_D_holds.2 k_D_holds.1 (by decide) n_D_holds (by decide) rfl rfl) k_D_holds (q_ro (by decide) (by decide)) (Nat.le_of_ble_eq_true rfl) d_Lw_holds_4 rfl [(0, 16, 19, 22)] (0, 16, 22, 27) [] rfl (by intro q hq; rw [List.mem_singleton.mp hq]; exact Or.inr ⟨by decide, "java/lang/IllegalStateException", q_tb 327 (by decide +kernel), by decide +kernel⟩) (by decide) (by decide) (q_tb 359 (by decide +kernel)) (q_tb 370 (by decide +kernel)) d_Lw_holds_22 rfl (by decide) rfl ?_
        refine q_iconst (v := 2) 24 d_Lw_holds_23 rfl (by decide) ?_
        cases h
        exact q_iret d_Lw_holds_24 rfl (by decide) (by decide)
      · cases h
