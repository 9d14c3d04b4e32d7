set_option maxHeartbeats 4000000 in
set_option maxRecDepth 100000 in
theorem t_Li_readLevel {E : q_E} {c d : Nat} {REC : Nat → Int32 → Int32 → q_W → Option (Int32 × q_W)} {nn : Nat} {f : Nat} (hREC : q_hREC E c d f REC (2 + nn)) (hf : f = 16 ∨ f = 24) {x : q_W} {a2 : Int32} {a3 : Int32} {ρ : Int32 × q_W} (h : f_Li_readLevel REC f x a2 a3 = some ρ) : q_Ct E y_Li_readLevel m_Li_readLevel (q_rm (2 + nn + 1)) (q_cells E c d x) [.ref 1, .ref f, .int a2, .int a3] (q_rS E c d ρ) := by
  rcases hf with rfl | rfl
  · unfold f_Li_readLevel at h
    refine q_Ct.of (lv := [(0, .ref 1), (1, .ref 16), (2, .int a2), (3, .int a3)]) (by decide) ⟨rfl, rfl⟩ rfl (Nat.le_of_ble_eq_true rfl) ?_
    refine q_iloadn 1 d_Li_readLevel_0 rfl 2 rfl ?_
    refine q_iconst (v := 4) 2 d_Li_readLevel_1 rfl (by decide) ?_
    refine q_ite h (fun c12 h => ?_) (fun c12 h => ?_)
    · refine q_icmp_lt_t 12 d_Li_readLevel_2 (by decide) c12 ?_
      refine q_aloadn 13 d_Li_readLevel_12 rfl 0 rfl ?_
      refine q_aloadn 14 d_Li_readLevel_13 rfl 1 rfl ?_
      refine q_iloadn 15 d_Li_readLevel_14 rfl 2 rfl ?_
      refine q_iconst (v := 1) 16 d_Li_readLevel_15 rfl (by decide) ?_
      refine q_iadd 17 d_Li_readLevel_16 rfl ?_
      refine q_iloadn 18 d_Li_readLevel_17 rfl 3 rfl ?_
      refine q_xcallS (as := [.ref 1, .ref 16, .int (a2 + 1), .int a3]) (rest := []) 21 h (fun z e => hREC 0 _ _ _ _ e) (q_xinvV (Y := m_Li_readLevel) d_Li_readLevel_18 ml_Li_42 ms_Li_readLevel.1 ms_Li_readLevel.2 k_Li_readLevel.1 (by decide) n_Li_readLevel (by decide) rfl rfl) k_Li_readLevel (q_ro (by omega) (by decide)) (Nat.le_of_ble_eq_true rfl) d_Li_readLevel_18 rfl rfl rfl (fun q1 eq1 h => ?_)
      refine q_istore (lv' := [(4, .int q1.1), (0, .ref 1), (1, .ref 16), (2, .int a2), (3, .int a3)]) 23 d_Li_readLevel_21 rfl (by decide) rfl ?_
      refine q_aloadn 24 d_Li_readLevel_23 rfl 1 rfl ?_
      refine q_aloadn 25 d_Li_readLevel_24 rfl 1 rfl ?_
      refine q_xget 28 d_Li_readLevel_25 rfl fl_Li_19 (by decide) rfl rfl ?_
      refine q_xcallP (as := [.ref 1, .int (q1.2.2 1 2)]) (rest := []) 31 h (fun z e => t_Li_signAt e) (q_xinvV (Y := m_Li_signAt) d_Li_readLevel_28 ml_Li_26 ms_Li_signAt.1 ms_Li_signAt.2 k_Li_signAt.1 (by decide) n_Li_signAt (by decide) rfl rfl) k_Li_signAt (q_ro (by omega) (by decide)) (Nat.le_of_ble_eq_true rfl) d_Li_readLevel_28 rfl rfl rfl (fun w2 ew2 h => ?_)
      refine q_istore (lv' := [(5, .int w2), (4, .int q1.1), (0, .ref 1), (1, .ref 16), (2, .int a2), (3, .int a3)]) 33 d_Li_readLevel_31 rfl (by decide) rfl ?_
      refine q_iload 35 d_Li_readLevel_33 rfl 1 rfl ?_
      refine q_iconst (v := (-1)) 36 d_Li_readLevel_35 rfl (by decide) ?_
      refine q_ite h (fun c10 h => ?_) (fun c10 h => ?_)
      · refine q_icmp_eq_t 48 d_Li_readLevel_36 (by decide) c10 ?_
        refine q_iload 50 d_Li_readLevel_48 rfl 1 rfl ?_
        cases h
        exact q_iret d_Li_readLevel_50 rfl (Nat.zero_le _) (Nat.zero_le _)
      · refine q_icmp_eq_f 39 d_Li_readLevel_36 rfl 48 (by decide) c10 ?_
        refine q_iload 41 d_Li_readLevel_39 rfl 0 rfl ?_
        refine q_xcallP (as := [.int w2]) (rest := []) 44 h (fun z e => t_Li_levelJoinedBy e) (q_invS (Y := m_Li_levelJoinedBy) d_Li_readLevel_41 ml_Li_53 ms_Li_levelJoinedBy k_Li_levelJoinedBy.2 k_Li_levelJoinedBy.1 (by decide) n_Li_levelJoinedBy) k_Li_levelJoinedBy (q_ro (by omega) (by decide)) (Nat.le_of_ble_eq_true rfl) d_Li_readLevel_41 rfl rfl rfl (fun w3 ew3 h => ?_)
        refine q_iloadn 45 d_Li_readLevel_44 rfl 4 rfl ?_
        refine q_ite h (fun c9 h => ?_) (fun c9 h => ?_)
        · refine q_icmp_eq_t 51 d_Li_readLevel_45 (by decide) c9 ?_
          refine q_aloadn 52 d_Li_readLevel_51 rfl 2 rfl ?_
          refine q_aloadn 53 d_Li_readLevel_52 rfl 2 rfl ?_
          refine q_xget 56 d_Li_readLevel_53 rfl fl_Li_19 (by decide) rfl rfl ?_
          refine q_xcallP (as := [.ref 1, .int (q1.2.2 1 2)]) (rest := []) 59 h (fun z e => t_Li_temporalsBefore e) (q_xinvV (Y := m_Li_temporalsBefore) d_Li_readLevel_56 ml_Li_39 ms_Li_temporalsBefore.1 ms_Li_temporalsBefore.2 k_Li_temporalsBefore.1 (by decide) n_Li_temporalsBefore (by decide) rfl rfl) k_Li_temporalsBefore (q_ro (by omega) (by decide)) (Nat.le_of_ble_eq_true rfl) d_Li_readLevel_56 rfl rfl rfl (fun w4 ew4 h => ?_)
          refine q_istore (lv' := [(6, .int w4), (5, .int w2), (4, .int q1.1), (0, .ref 1), (1, .ref 16), (2, .int a2), (3, .int a3)]) 61 d_Li_readLevel_59 rfl (by decide) rfl ?_
          refine q_aloadn 62 d_Li_readLevel_61 rfl 3 rfl ?_
          refine q_dup 63 d_Li_readLevel_62 rfl rfl ?_
          refine q_xget 66 d_Li_readLevel_63 rfl fl_Li_19 (by decide) rfl rfl ?_
          refine q_iconst (v := 1) 67 d_Li_readLevel_66 rfl (by decide) ?_
          refine q_iadd 68 d_Li_readLevel_67 rfl ?_
          refine q_xput 71 d_Li_readLevel_68 rfl fl_Li_19 (by decide) rfl rfl rfl rfl (Nat.le_of_ble_eq_true rfl) (fun _ => rfl) h (fun x5 ex5 h => ?_)
          refine q_aloadn 72 d_Li_readLevel_71 rfl 3 rfl ?_
          refine q_aloadn 73 d_Li_readLevel_72 rfl 4 rfl ?_
          refine q_iloadn 74 d_Li_readLevel_73 rfl 5 rfl ?_
          refine q_iloadn 75 d_Li_readLevel_74 rfl 6 rfl ?_
          refine q_xcallS (as := [.ref 1, .ref 16, .int a2, .int a3]) (rest := []) 78 h (fun z e => hREC 0 _ _ _ _ e) (q_xinvV (Y := m_Li_readLevel) d_Li_readLevel_75 ml_Li_42 ms_Li_readLevel.1 ms_Li_readLevel.2 k_Li_readLevel.1 (by decide) n_Li_readLevel (by decide) rfl rfl) k_Li_readLevel (q_ro (by omega) (by decide)) (Nat.le_of_ble_eq_true rfl) d_Li_readLevel_75 rfl rfl rfl (fun q6 eq6 h => ?_)
          refine q_istore (lv' := [(7, .int q6.1), (6, .int w4), (5, .int w2), (4, .int q1.1), (0, .ref 1), (1, .ref 16), (2, .int a2), (3, .int a3)]) 80 d_Li_readLevel_78 rfl (by decide) rfl ?_
          refine q_iload 82 d_Li_readLevel_80 rfl 0 rfl ?_
          refine q_iconst (v := (-1)) 83 d_Li_readLevel_82 rfl (by decide) ?_
          refine q_ite h (fun c8 h => ?_) (fun c8 h => ?_)
          · refine q_icmp_ne_t 90 d_Li_readLevel_83 (by decide) c8 ?_
            refine q_aloadn 91 d_Li_readLevel_90 rfl 5 rfl ?_
            refine q_iload 93 d_Li_readLevel_91 rfl 2 rfl ?_
            refine q_iload 95 d_Li_readLevel_93 rfl 3 rfl ?_
            refine q_iload 97 d_Li_readLevel_95 rfl 0 rfl ?_
            refine q_iload 99 d_Li_readLevel_97 rfl 1 rfl ?_
            refine q_xcallS (as := [.ref 16, .int w2, .int q1.1, .int q6.1, .int w4]) (rest := []) 102 h (fun z e => t_Fo_add (by decide) e) (q_xinvV (Y := m_Fo_add) d_Li_readLevel_99 ml_Li_56 ms_Fo_add.1 ms_Fo_add.2 k_Fo_add.1 (by decide) n_Fo_add (by decide) rfl rfl) k_Fo_add (q_ro (by omega) (by decide)) (Nat.le_of_ble_eq_true rfl) d_Li_readLevel_99 rfl rfl rfl (fun q7 eq7 h => ?_)
            cases h
            exact q_iret d_Li_readLevel_102 rfl (Nat.zero_le _) (Nat.zero_le _)
          · refine q_icmp_ne_f 86 d_Li_readLevel_83 rfl 90 (by decide) (Classical.not_not.mp c8) ?_
            refine q_iconst (v := (-1)) 87 d_Li_readLevel_86 rfl (by decide) ?_
            refine q_goto 102 d_Li_readLevel_87 (by decide) ?_
            cases h
            exact q_iret d_Li_readLevel_102 rfl (Nat.zero_le _) (Nat.zero_le _)
        · refine q_icmp_eq_f 48 d_Li_readLevel_45 rfl 51 (by decide) c9 ?_
          refine q_iload 50 d_Li_readLevel_48 rfl 1 rfl ?_
          cases h
          exact q_iret d_Li_readLevel_50 rfl (Nat.zero_le _) (Nat.zero_le _)
    · refine q_icmp_lt_f 5 d_Li_readLevel_2 rfl 12 (by decide) c12 ?_
      refine q_aloadn 6 d_Li_readLevel_5 rfl 0 rfl ?_
      refine q_aloadn 7 d_Li_readLevel_6 rfl 1 rfl ?_
      refine q_iloadn 8 d_Li_readLevel_7 rfl 3 rfl ?_
      refine q_xcallS (as := [.ref 1, .ref 16, .int a3]) (rest := []) 11 h (fun z e => hREC 1 _ _ _ _ e) (q_xinvV (Y := m_Li_readSimple) d_Li_readLevel_8 ml_Li_49 ms_Li_readSimple.1 ms_Li_readSimple.2 k_Li_readSimple.1 (by decide) n_Li_readSimple (by decide) rfl rfl) k_Li_readSimple (q_ro (by omega) (by decide)) (Nat.le_of_ble_eq_true rfl) d_Li_readLevel_8 rfl rfl rfl (fun q11 eq11 h => ?_)
      cases h
      exact q_iret d_Li_readLevel_11 rfl (Nat.zero_le _) (Nat.zero_le _)
  · unfold f_Li_readLevel at h
    refine q_Ct.of (lv := [(0, .ref 1), (1, .ref 24), (2, .int a2), (3, .int a3)]) (by decide) ⟨rfl, rfl⟩ rfl (Nat.le_of_ble_eq_true rfl) ?_
    refine q_iloadn 1 d_Li_readLevel_0 rfl 2 rfl ?_
    refine q_iconst (v := 4) 2 d_Li_readLevel_1 rfl (by decide) ?_
    refine q_ite h (fun c12 h => ?_) (fun c12 h => ?_)
    · refine q_icmp_lt_t 12 d_Li_readLevel_2 (by decide) c12 ?_
      refine q_aloadn 13 d_Li_readLevel_12 rfl 0 rfl ?_
      refine q_aloadn 14 d_Li_readLevel_13 rfl 1 rfl ?_
      refine q_iloadn 15 d_Li_readLevel_14 rfl 2 rfl ?_
      refine q_iconst (v := 1) 16 d_Li_readLevel_15 rfl (by decide) ?_
      refine q_iadd 17 d_Li_readLevel_16 rfl ?_
      refine q_iloadn 18 d_Li_readLevel_17 rfl 3 rfl ?_
      refine q_xcallS (as := [.ref 1, .ref 24, .int (a2 + 1), .int a3]) (rest := []) 21 h (fun z e => hREC 0 _ _ _ _ e) (q_xinvV (Y := m_Li_readLevel) d_Li_readLevel_18 ml_Li_42 ms_Li_readLevel.1 ms_Li_readLevel.2 k_Li_readLevel.1 (by decide) n_Li_readLevel (by decide) rfl rfl) k_Li_readLevel (q_ro (by omega) (by decide)) (Nat.le_of_ble_eq_true rfl) d_Li_readLevel_18 rfl rfl rfl (fun q1 eq1 h => ?_)
      refine q_istore (lv' := [(4, .int q1.1), (0, .ref 1), (1, .ref 24), (2, .int a2), (3, .int a3)]) 23 d_Li_readLevel_21 rfl (by decide) rfl ?_
      refine q_aloadn 24 d_Li_readLevel_23 rfl 1 rfl ?_
      refine q_aloadn 25 d_Li_readLevel_24 rfl 1 rfl ?_
      refine q_xget 28 d_Li_readLevel_25 rfl fl_Li_19 (by decide) rfl rfl ?_
      refine q_xcallP (as := [.ref 1, .int (q1.2.2 1 2)]) (rest := []) 31 h (fun z e => t_Li_signAt e) (q_xinvV (Y := m_Li_signAt) d_Li_readLevel_28 ml_Li_26 ms_Li_signAt.1 ms_Li_signAt.2 k_Li_signAt.1 (by decide) n_Li_signAt (by decide) rfl rfl) k_Li_signAt (q_ro (by omega) (by decide)) (Nat.le_of_ble_eq_true rfl) d_Li_readLevel_28 rfl rfl rfl (fun w2 ew2 h => ?_)
      refine q_istore (lv' := [(5, .int w2), (4, .int q1.1), (0, .ref 1), (1, .ref 24), (2, .int a2), (3, .int a3)]) 33 d_Li_readLevel_31 rfl (by decide) rfl ?_
      refine q_iload 35 d_Li_readLevel_33 rfl 1 rfl ?_
      refine q_iconst (v := (-1)) 36 d_Li_readLevel_35 rfl (by decide) ?_
      refine q_ite h (fun c10 h => ?_) (fun c10 h => ?_)
      · refine q_icmp_eq_t 48 d_Li_readLevel_36 (by decide) c10 ?_
        refine q_iload 50 d_Li_readLevel_48 rfl 1 rfl ?_
        cases h
        exact q_iret d_Li_readLevel_50 rfl (Nat.zero_le _) (Nat.zero_le _)
      · refine q_icmp_eq_f 39 d_Li_readLevel_36 rfl 48 (by decide) c10 ?_
        refine q_iload 41 d_Li_readLevel_39 rfl 0 rfl ?_
        refine q_xcallP (as := [.int w2]) (rest := []) 44 h (fun z e => t_Li_levelJoinedBy e) (q_invS (Y := m_Li_levelJoinedBy) d_Li_readLevel_41 ml_Li_53 ms_Li_levelJoinedBy k_Li_levelJoinedBy.2 k_Li_levelJoinedBy.1 (by decide) n_Li_levelJoinedBy) k_Li_levelJoinedBy (q_ro (by omega) (by decide)) (Nat.le_of_ble_eq_true rfl) d_Li_readLevel_41 rfl rfl rfl (fun w3 ew3 h => ?_)
        refine q_iloadn 45 d_Li_readLevel_44 rfl 4 rfl ?_
        refine q_ite h (fun c9 h => ?_) (fun c9 h => ?_)
        · refine q_icmp_eq_t 51 d_Li_readLevel_45 (by decide) c9 ?_
          refine q_aloadn 52 d_Li_readLevel_51 rfl 2 rfl ?_
          refine q_aloadn 53 d_Li_readLevel_52 rfl 2 rfl ?_
          refine q_xget 56 d_Li_readLevel_53 rfl fl_Li_19 (by decide) rfl rfl ?_
          refine q_xcallP (as := [.ref 1, .int (q1.2.2 1 2)]) (rest := []) 59 h (fun z e => t_Li_temporalsBefore e) (q_xinvV (Y := m_Li_temporalsBefore) d_Li_readLevel_56 ml_Li_39 ms_Li_temporalsBefore.1 ms_Li_temporalsBefore.2 k_Li_temporalsBefore.1 (by decide) n_Li_temporalsBefore (by decide) rfl rfl) k_Li_temporalsBefore (q_ro (by omega) (by decide)) (Nat.le_of_ble_eq_true rfl) d_Li_readLevel_56 rfl rfl rfl (fun w4 ew4 h => ?_)
          refine q_istore (lv' := [(6, .int w4), (5, .int w2), (4, .int q1.1), (0, .ref 1), (1, .ref 24), (2, .int a2), (3, .int a3)]) 61 d_Li_readLevel_59 rfl (by decide) rfl ?_
          refine q_aloadn 62 d_Li_readLevel_61 rfl 3 rfl ?_
          refine q_dup 63 d_Li_readLevel_62 rfl rfl ?_
          refine q_xget 66 d_Li_readLevel_63 rfl fl_Li_19 (by decide) rfl rfl ?_
          refine q_iconst (v := 1) 67 d_Li_readLevel_66 rfl (by decide) ?_
          refine q_iadd 68 d_Li_readLevel_67 rfl ?_
          refine q_xput 71 d_Li_readLevel_68 rfl fl_Li_19 (by decide) rfl rfl rfl rfl (Nat.le_of_ble_eq_true rfl) (fun _ => rfl) h (fun x5 ex5 h => ?_)
          refine q_aloadn 72 d_Li_readLevel_71 rfl 3 rfl ?_
          refine q_aloadn 73 d_Li_readLevel_72 rfl 4 rfl ?_
          refine q_iloadn 74 d_Li_readLevel_73 rfl 5 rfl ?_
          refine q_iloadn 75 d_Li_readLevel_74 rfl 6 rfl ?_
          refine q_xcallS (as := [.ref 1, .ref 24, .int a2, .int a3]) (rest := []) 78 h (fun z e => hREC 0 _ _ _ _ e) (q_xinvV (Y := m_Li_readLevel) d_Li_readLevel_75 ml_Li_42 ms_Li_readLevel.1 ms_Li_readLevel.2 k_Li_readLevel.1 (by decide) n_Li_readLevel (by decide) rfl rfl) k_Li_readLevel (q_ro (by omega) (by decide)) (Nat.le_of_ble_eq_true rfl) d_Li_readLevel_75 rfl rfl rfl (fun q6 eq6 h => ?_)
          refine q_istore (lv' := [(7, .int q6.1), (6, .int w4), (5, .int w2), (4, .int q1.1), (0, .ref 1), (1, .ref 24), (2, .int a2), (3, .int a3)]) 80 d_Li_readLevel_78 rfl (by decide) rfl ?_
          refine q_iload 82 d_Li_readLevel_80 rfl 0 rfl ?_
          refine q_iconst (v := (-1)) 83 d_Li_readLevel_82 rfl (by decide) ?_
          refine q_ite h (fun c8 h => ?_) (fun c8 h => ?_)
          · refine q_icmp_ne_t 90 d_Li_readLevel_83 (by decide) c8 ?_
            refine q_aloadn 91 d_Li_readLevel_90 rfl 5 rfl ?_
            refine q_iload 93 d_Li_readLevel_91 rfl 2 rfl ?_
            refine q_iload 95 d_Li_readLevel_93 rfl 3 rfl ?_
            refine q_iload 97 d_Li_readLevel_95 rfl 0 rfl ?_
            refine q_iload 99 d_Li_readLevel_97 rfl 1 rfl ?_
            refine q_xcallS (as := [.ref 24, .int w2, .int q1.1, .int q6.1, .int w4]) (rest := []) 102 h (fun z e => t_Fo_add (by decide) e) (q_xinvV (Y := m_Fo_add) d_Li_readLevel_99 ml_Li_56 ms_Fo_add.1 ms_Fo_add.2 k_Fo_add.1 (by decide) n_Fo_add (by decide) rfl rfl) k_Fo_add (q_ro (by omega) (by decide)) (Nat.le_of_ble_eq_true rfl) d_Li_readLevel_99 rfl rfl rfl (fun q7 eq7 h => ?_)
            cases h
            exact q_iret d_Li_readLevel_102 rfl (Nat.zero_le _) (Nat.zero_le _)
          · refine q_icmp_ne_f 86 d_Li_readLevel_83 rfl 90 (by decide) (Classical.not_not.mp c8) ?_
            refine q_iconst (v := (-1)) 87 d_Li_readLevel_86 rfl (by decide) ?_
            refine q_goto 102 d_Li_readLevel_87 (by decide) ?_
            cases h
            exact q_iret d_Li_readLevel_102 rfl (Nat.zero_le _) (Nat.zero_le _)
        · refine q_icmp_eq_f 48 d_Li_readLevel_45 rfl 51 (by decide) c9 ?_
          refine q_iload 50 d_Li_readLevel_48 rfl 1 rfl ?_
          cases h
          exact q_iret d_Li_readLevel_50 rfl (Nat.zero_le _) (Nat.zero_le _)
    · refine q_icmp_lt_f 5 d_Li_readLevel_2 rfl 12 (by decide) c12 ?_
      refine q_aloadn 6 d_Li_readLevel_5 rfl 0 rfl ?_
      refine q_aloadn 7 d_Li_readLevel_6 rfl 1 rfl ?_
      refine q_iloadn 8 d_Li_readLevel_7 rfl 3 rfl ?_
      refine q_xcallS (as := [.ref 1, .ref 24, .int a3]) (rest := []) 11 h (fun z e => hREC 1 _ _ _ _ e) (q_xinvV (Y := m_Li_readSimple) d_Li_readLevel_8 ml_Li_49 ms_Li_readSimple.1 ms_Li_readSimple.2 k_Li_readSimple.1 (by decide) n_Li_readSimple (by decide) rfl rfl) k_Li_readSimple (q_ro (by omega) (by decide)) (Nat.le_of_ble_eq_true rfl) d_Li_readLevel_8 rfl rfl rfl (fun q11 eq11 h => ?_)
      cases h
      exact q_iret d_Li_readLevel_11 rfl (Nat.zero_le _) (Nat.zero_le _)
set_option maxRecDepth 100000 in
theorem t_read0 {E : q_E} {c d f : Nat} (hf : f = 16 ∨ f = 24) : ∀ n, q_hREC E c d f (f_read f n) (2 + n)
  | 0 => fun tag a b x v h => by cases h
  | n + 1 => fun tag a b x v h => match tag, h with
    | 0, h => t_Li_readLevel (t_read0 hf n) hf h
    | 1, h => t_Li_readSimple (t_read0 hf n) hf h
    | _ + 2, h => t_Li_readBracket (t_read0 hf n) hf h
theorem t_read {E : q_E} {c d f : Nat} (hf : f = 16 ∨ f = 24) (n : Nat) : q_hREC E c d f (f_read f n) (2 + n) := t_read0 hf n
set_option maxHeartbeats 4000000 in
set_option maxRecDepth 100000 in
theorem t_Li_readInto {E : q_E} {c d : Nat} {f : Nat} (hf : f = 16 ∨ f = 24) {x : q_W} {ρ : Int32 × q_W} (h : f_Li_readInto f x = some ρ) : q_Ct E y_Li_readInto m_Li_readInto (q_rm 73) (q_cells E c d x) [.ref 1, .ref f] (q_rS E c d ρ) := by
  rcases hf with rfl | rfl
  · unfold f_Li_readInto at h
    refine q_Ct.of (lv := [(0, .ref 1), (1, .ref 16)]) (by decide) ⟨rfl, rfl⟩ rfl (Nat.le_of_ble_eq_true rfl) ?_
    refine q_aloadn 1 d_Li_readInto_0 rfl 1 rfl ?_
    refine q_xcallV (as := [.ref 16]) (rest := []) 4 h (fun z e => t_Fo_clear (by decide) e) (q_xinvV (Y := m_Fo_clear) d_Li_readInto_1 ml_Li_34 ms_Fo_clear.1 ms_Fo_clear.2 k_Fo_clear.1 (by decide) n_Fo_clear (by decide) rfl rfl) k_Fo_clear (q_ro (by decide) (by decide)) (Nat.le_of_ble_eq_true rfl) d_Li_readInto_1 rfl rfl rfl (fun x1 ex1 h => ?_)
    refine q_aloadn 5 d_Li_readInto_4 rfl 0 rfl ?_
    refine q_iconst (v := 0) 6 d_Li_readInto_5 rfl (by decide) ?_
    refine q_xput 9 d_Li_readInto_6 rfl fl_Li_19 (by decide) rfl rfl rfl rfl (Nat.le_of_ble_eq_true rfl) (fun _ => rfl) h (fun x2 ex2 h => ?_)
    refine q_aloadn 10 d_Li_readInto_9 rfl 0 rfl ?_
    refine q_aloadn 11 d_Li_readInto_10 rfl 0 rfl ?_
    refine q_xget 14 d_Li_readInto_11 rfl fl_Li_15 (by decide) rfl rfl ?_
    refine q_xcallP (as := [.ref 1, .int (x2.2 1 1)]) (rest := []) 17 h (fun z e => t_Li_temporalsBefore e) (q_xinvV (Y := m_Li_temporalsBefore) d_Li_readInto_14 ml_Li_39 ms_Li_temporalsBefore.1 ms_Li_temporalsBefore.2 k_Li_temporalsBefore.1 (by decide) n_Li_temporalsBefore (by decide) rfl rfl) k_Li_temporalsBefore (q_ro (by decide) (by decide)) (Nat.le_of_ble_eq_true rfl) d_Li_readInto_14 rfl rfl rfl (fun w3 ew3 h => ?_)
    refine q_iconst (v := 5) 18 d_Li_readInto_17 rfl (by decide) ?_
    refine q_ite h (fun c8 h => ?_) (fun c8 h => ?_)
    · refine q_icmp_le_t 23 d_Li_readInto_18 (by decide) c8 ?_
      refine q_aloadn 24 d_Li_readInto_23 rfl 0 rfl ?_
      refine q_aloadn 25 d_Li_readInto_24 rfl 1 rfl ?_
      refine q_iconst (v := 0) 26 d_Li_readInto_25 rfl (by decide) ?_
      refine q_iconst (v := 0) 27 d_Li_readInto_26 rfl (by decide) ?_
      refine q_xcallS (as := [.ref 1, .ref 16, .int 0, .int 0]) (rest := []) 30 h (fun z e => t_read (by decide) 70 0 _ _ _ _ e) (q_xinvV (Y := m_Li_readLevel) d_Li_readInto_27 ml_Li_42 ms_Li_readLevel.1 ms_Li_readLevel.2 k_Li_readLevel.1 (by decide) n_Li_readLevel (by decide) rfl rfl) k_Li_readLevel (q_ro (by decide) (by decide)) (Nat.le_of_ble_eq_true rfl) d_Li_readInto_27 rfl rfl rfl (fun q4 eq4 h => ?_)
      refine q_istoren (lv' := [(2, .int q4.1), (0, .ref 1), (1, .ref 16)]) 31 d_Li_readInto_30 rfl (by decide) rfl ?_
      refine q_iloadn 32 d_Li_readInto_31 rfl 0 rfl ?_
      refine q_iconst (v := (-1)) 33 d_Li_readInto_32 rfl (by decide) ?_
      refine q_ite h (fun c7 h => ?_) (fun c7 h => ?_)
      · refine q_icmp_eq_t 47 d_Li_readInto_33 (by decide) c7 ?_
        refine q_iconst (v := 0) 48 d_Li_readInto_47 rfl (by decide) ?_
        cases h
        exact q_zret d_Li_readInto_48 rfl (Nat.zero_le _) (Nat.zero_le _)
      · refine q_icmp_eq_f 36 d_Li_readInto_33 rfl 47 (by decide) c7 ?_
        refine q_aloadn 37 d_Li_readInto_36 rfl 1 rfl ?_
        refine q_xget 40 d_Li_readInto_37 rfl fl_Li_19 (by decide) rfl rfl ?_
        refine q_aloadn 41 d_Li_readInto_40 rfl 1 rfl ?_
        refine q_xget 44 d_Li_readInto_41 rfl fl_Li_15 (by decide) rfl rfl ?_
        refine q_ite h (fun c6 h => ?_) (fun c6 h => ?_)
        · refine q_icmp_eq_t 49 d_Li_readInto_44 (by decide) c6 ?_
          refine q_aloadn 50 d_Li_readInto_49 rfl 2 rfl ?_
          refine q_xcallV (as := [.ref 16]) (rest := []) 53 h (fun z e => t_Fo_listPromises (by decide) e) (q_xinvV (Y := m_Fo_listPromises) d_Li_readInto_50 ml_Li_46 ms_Fo_listPromises.1 ms_Fo_listPromises.2 k_Fo_listPromises.1 (by decide) n_Fo_listPromises (by decide) rfl rfl) k_Fo_listPromises (q_ro (by decide) (by decide)) (Nat.le_of_ble_eq_true rfl) d_Li_readInto_50 rfl rfl rfl (fun x5 ex5 h => ?_)
          refine q_iconst (v := 1) 54 d_Li_readInto_53 rfl (by decide) ?_
          cases h
          exact q_zret d_Li_readInto_54 rfl (Nat.zero_le _) (Nat.zero_le _)
        · refine q_icmp_eq_f 47 d_Li_readInto_44 rfl 49 (by decide) c6 ?_
          refine q_iconst (v := 0) 48 d_Li_readInto_47 rfl (by decide) ?_
          cases h
          exact q_zret d_Li_readInto_48 rfl (Nat.zero_le _) (Nat.zero_le _)
    · refine q_icmp_le_f 21 d_Li_readInto_18 rfl 23 (by decide) c8 ?_
      refine q_iconst (v := 0) 22 d_Li_readInto_21 rfl (by decide) ?_
      cases h
      exact q_zret d_Li_readInto_22 rfl (Nat.zero_le _) (Nat.zero_le _)
  · unfold f_Li_readInto at h
    refine q_Ct.of (lv := [(0, .ref 1), (1, .ref 24)]) (by decide) ⟨rfl, rfl⟩ rfl (Nat.le_of_ble_eq_true rfl) ?_
    refine q_aloadn 1 d_Li_readInto_0 rfl 1 rfl ?_
    refine q_xcallV (as := [.ref 24]) (rest := []) 4 h (fun z e => t_Fo_clear (by decide) e) (q_xinvV (Y := m_Fo_clear) d_Li_readInto_1 ml_Li_34 ms_Fo_clear.1 ms_Fo_clear.2 k_Fo_clear.1 (by decide) n_Fo_clear (by decide) rfl rfl) k_Fo_clear (q_ro (by decide) (by decide)) (Nat.le_of_ble_eq_true rfl) d_Li_readInto_1 rfl rfl rfl (fun x1 ex1 h => ?_)
    refine q_aloadn 5 d_Li_readInto_4 rfl 0 rfl ?_
    refine q_iconst (v := 0) 6 d_Li_readInto_5 rfl (by decide) ?_
    refine q_xput 9 d_Li_readInto_6 rfl fl_Li_19 (by decide) rfl rfl rfl rfl (Nat.le_of_ble_eq_true rfl) (fun _ => rfl) h (fun x2 ex2 h => ?_)
    refine q_aloadn 10 d_Li_readInto_9 rfl 0 rfl ?_
    refine q_aloadn 11 d_Li_readInto_10 rfl 0 rfl ?_
    refine q_xget 14 d_Li_readInto_11 rfl fl_Li_15 (by decide) rfl rfl ?_
    refine q_xcallP (as := [.ref 1, .int (x2.2 1 1)]) (rest := []) 17 h (fun z e => t_Li_temporalsBefore e) (q_xinvV (Y := m_Li_temporalsBefore) d_Li_readInto_14 ml_Li_39 ms_Li_temporalsBefore.1 ms_Li_temporalsBefore.2 k_Li_temporalsBefore.1 (by decide) n_Li_temporalsBefore (by decide) rfl rfl) k_Li_temporalsBefore (q_ro (by decide) (by decide)) (Nat.le_of_ble_eq_true rfl) d_Li_readInto_14 rfl rfl rfl (fun w3 ew3 h => ?_)
    refine q_iconst (v := 5) 18 d_Li_readInto_17 rfl (by decide) ?_
    refine q_ite h (fun c8 h => ?_) (fun c8 h => ?_)
    · refine q_icmp_le_t 23 d_Li_readInto_18 (by decide) c8 ?_
      refine q_aloadn 24 d_Li_readInto_23 rfl 0 rfl ?_
      refine q_aloadn 25 d_Li_readInto_24 rfl 1 rfl ?_
      refine q_iconst (v := 0) 26 d_Li_readInto_25 rfl (by decide) ?_
      refine q_iconst (v := 0) 27 d_Li_readInto_26 rfl (by decide) ?_
      refine q_xcallS (as := [.ref 1, .ref 24, .int 0, .int 0]) (rest := []) 30 h (fun z e => t_read (by decide) 70 0 _ _ _ _ e) (q_xinvV (Y := m_Li_readLevel) d_Li_readInto_27 ml_Li_42 ms_Li_readLevel.1 ms_Li_readLevel.2 k_Li_readLevel.1 (by decide) n_Li_readLevel (by decide) rfl rfl) k_Li_readLevel (q_ro (by decide) (by decide)) (Nat.le_of_ble_eq_true rfl) d_Li_readInto_27 rfl rfl rfl (fun q4 eq4 h => ?_)
      refine q_istoren (lv' := [(2, .int q4.1), (0, .ref 1), (1, .ref 24)]) 31 d_Li_readInto_30 rfl (by decide) rfl ?_
      refine q_iloadn 32 d_Li_readInto_31 rfl 0 rfl ?_
      refine q_iconst (v := (-1)) 33 d_Li_readInto_32 rfl (by decide) ?_
      refine q_ite h (fun c7 h => ?_) (fun c7 h => ?_)
      · refine q_icmp_eq_t 47 d_Li_readInto_33 (by decide) c7 ?_
        refine q_iconst (v := 0) 48 d_Li_readInto_47 rfl (by decide) ?_
        cases h
        exact q_zret d_Li_readInto_48 rfl (Nat.zero_le _) (Nat.zero_le _)
      · refine q_icmp_eq_f 36 d_Li_readInto_33 rfl 47 (by decide) c7 ?_
        refine q_aloadn 37 d_Li_readInto_36 rfl 1 rfl ?_
        refine q_xget 40 d_Li_readInto_37 rfl fl_Li_19 (by decide) rfl rfl ?_
        refine q_aloadn 41 d_Li_readInto_40 rfl 1 rfl ?_
        refine q_xget 44 d_Li_readInto_41 rfl fl_Li_15 (by decide) rfl rfl ?_
        refine q_ite h (fun c6 h => ?_) (fun c6 h => ?_)
        · refine q_icmp_eq_t 49 d_Li_readInto_44 (by decide) c6 ?_
          refine q_aloadn 50 d_Li_readInto_49 rfl 2 rfl ?_
          refine q_xcallV (as := [.ref 24]) (rest := []) 53 h (fun z e => t_Fo_listPromises (by decide) e) (q_xinvV (Y := m_Fo_listPromises) d_Li_readInto_50 ml_Li_46 ms_Fo_listPromises.1 ms_Fo_listPromises.2 k_Fo_listPromises.1 (by decide) n_Fo_listPromises (by decide) rfl rfl) k_Fo_listPromises (q_ro (by decide) (by decide)) (Nat.le_of_ble_eq_true rfl) d_Li_readInto_50 rfl rfl rfl (fun x5 ex5 h => ?_)
          refine q_iconst (v := 1) 54 d_Li_readInto_53 rfl (by decide) ?_
          cases h
          exact q_zret d_Li_readInto_54 rfl (Nat.zero_le _) (Nat.zero_le _)
        · refine q_icmp_eq_f 47 d_Li_readInto_44 rfl 49 (by decide) c6 ?_
          refine q_iconst (v := 0) 48 d_Li_readInto_47 rfl (by decide) ?_
          cases h
          exact q_zret d_Li_readInto_48 rfl (Nat.zero_le _) (Nat.zero_le _)
    · refine q_icmp_le_f 21 d_Li_readInto_18 rfl 23 (by decide) c8 ?_
      refine q_iconst (v := 0) 22 d_Li_readInto_21 rfl (by decide) ?_
      cases h
      exact q_zret d_Li_readInto_22 rfl (Nat.zero_le _) (Nat.zero_le _)
set_option maxHeartbeats 4000000 in
set_option maxRecDepth 100000 in
theorem t_D_formula {E : q_E} {c d : Nat} (hcd : q_cd c d) {x : q_W} {ρ : (Int32 ⊕ Nat) × (Nat × Nat × q_W)} (h : f_D_formula c d x = some ρ) : q_Ct E y_D_formula m_D_formula (q_rm 74) (q_cells E c d x) [.ref 0] (q_rTF E ρ) := by
  rcases hcd with ⟨rfl, rfl⟩ | ⟨rfl, rfl⟩
  · unfold f_D_formula at h
    refine q_Ct.of (lv := [(0, .ref 0)]) (by decide) ⟨rfl, rfl⟩ rfl (Nat.le_of_ble_eq_true rfl) ?_
    refine q_aloadn 1 d_D_formula_0 rfl 0 rfl ?_
    refine q_xget 4 d_D_formula_1 rfl fl_D_12 (by decide) rfl rfl ?_
    refine q_aloadn 5 d_D_formula_4 rfl 0 rfl ?_
    refine q_xget 8 d_D_formula_5 rfl fl_D_44 (by decide) rfl rfl ?_
    refine q_xcallS (as := [.ref 1, .ref 24]) (rest := []) 11 h (fun z e => t_Li_readInto (by decide) e) (q_xinvV (Y := m_Li_readInto) d_D_formula_8 ml_D_72 ms_Li_readInto.1 ms_Li_readInto.2 k_Li_readInto.1 (by decide) n_Li_readInto (by decide) rfl rfl) k_Li_readInto (q_ro (by decide) (by decide)) (Nat.le_of_ble_eq_true rfl) d_D_formula_8 rfl rfl rfl (fun q1 eq1 h => ?_)
    refine q_istoren (lv' := [(1, .int q1.1), (0, .ref 0)]) 12 d_D_formula_11 rfl (by decide) rfl ?_
    refine q_aloadn 13 d_D_formula_12 rfl 1 rfl ?_
    refine q_xget 16 d_D_formula_13 rfl fl_D_12 (by decide) rfl rfl ?_
    refine q_xcallV (as := [.ref 1]) (rest := []) 19 h (fun z e => t_Li_clear e) (q_xinvV (Y := m_Li_clear) d_D_formula_16 ml_D_76 ms_Li_clear.1 ms_Li_clear.2 k_Li_clear.1 (by decide) n_Li_clear (by decide) rfl rfl) k_Li_clear (q_ro (by decide) (by decide)) (Nat.le_of_ble_eq_true rfl) d_D_formula_16 rfl rfl rfl (fun x2 ex2 h => ?_)
    refine q_iloadn 20 d_D_formula_19 rfl 0 rfl ?_
    refine q_ite h (fun c6 h => ?_) (fun c6 h => ?_)
    · refine q_if_ne_t 33 d_D_formula_20 (by decide) c6 ?_
      refine q_aloadn 34 d_D_formula_33 rfl 1 rfl ?_
      refine q_xget 37 d_D_formula_34 rfl fl_D_40 (by decide) rfl rfl ?_
      refine q_astoren (lv' := [(2, .ref 16), (1, .int q1.1), (0, .ref 0)]) 38 d_D_formula_37 rfl (by decide) rfl ?_
      refine q_aloadn 39 d_D_formula_38 rfl 2 rfl ?_
      refine q_aloadn 40 d_D_formula_39 rfl 2 rfl ?_
      refine q_xget 43 d_D_formula_40 rfl fl_D_44 (by decide) rfl rfl ?_
      refine q_xputc 46 d_D_formula_43 rfl fl_D_40 rfl ?_
      refine q_aloadn 47 d_D_formula_46 rfl 2 rfl ?_
      refine q_aloadn 48 d_D_formula_47 rfl 0 rfl ?_
      refine q_xputd 51 d_D_formula_48 rfl fl_D_44 rfl ?_
      refine q_aloadn 52 d_D_formula_51 rfl 2 rfl ?_
      refine q_iconst (v := 1) 53 d_D_formula_52 rfl (by decide) ?_
      refine q_xput 56 d_D_formula_53 rfl fl_D_47 (by decide) rfl rfl rfl rfl (Nat.le_of_ble_eq_true rfl) (fun _ => rfl) h (fun x3 ex3 h => ?_)
      refine q_aloadn 57 d_D_formula_56 rfl 2 rfl ?_
      refine q_iconst (v := 0) 58 d_D_formula_57 rfl (by decide) ?_
      refine q_xput 61 d_D_formula_58 rfl fl_D_51 (by decide) rfl rfl rfl rfl (Nat.le_of_ble_eq_true rfl) (fun _ => rfl) h (fun x4 ex4 h => ?_)
      refine q_aloadn 62 d_D_formula_61 rfl 2 rfl ?_
      refine q_xget 65 d_D_formula_62 rfl fl_D_40 (by decide) rfl rfl ?_
      refine q_xcallP (as := [.ref 24]) (rest := []) 68 h (fun z e => t_Fo_size (by decide) e) (q_xinvV (Y := m_Fo_size) d_D_formula_65 ml_D_81 ms_Fo_size.1 ms_Fo_size.2 k_Fo_size.1 (by decide) n_Fo_size (by decide) rfl rfl) k_Fo_size (q_ro (by decide) (by decide)) (Nat.le_of_ble_eq_true rfl) d_D_formula_65 rfl rfl rfl (fun w5 ew5 h => ?_)
      cases h
      exact q_iret d_D_formula_68 rfl (Nat.zero_le _) (Nat.zero_le _)
    · refine q_if_ne_f 23 d_D_formula_20 rfl 33 (by decide) (Classical.not_not.mp c6) ?_
      cases h
      exact q_throw_D_formula_23
  · unfold f_D_formula at h
    refine q_Ct.of (lv := [(0, .ref 0)]) (by decide) ⟨rfl, rfl⟩ rfl (Nat.le_of_ble_eq_true rfl) ?_
    refine q_aloadn 1 d_D_formula_0 rfl 0 rfl ?_
    refine q_xget 4 d_D_formula_1 rfl fl_D_12 (by decide) rfl rfl ?_
    refine q_aloadn 5 d_D_formula_4 rfl 0 rfl ?_
    refine q_xget 8 d_D_formula_5 rfl fl_D_44 (by decide) rfl rfl ?_
    refine q_xcallS (as := [.ref 1, .ref 16]) (rest := []) 11 h (fun z e => t_Li_readInto (by decide) e) (q_xinvV (Y := m_Li_readInto) d_D_formula_8 ml_D_72 ms_Li_readInto.1 ms_Li_readInto.2 k_Li_readInto.1 (by decide) n_Li_readInto (by decide) rfl rfl) k_Li_readInto (q_ro (by decide) (by decide)) (Nat.le_of_ble_eq_true rfl) d_D_formula_8 rfl rfl rfl (fun q1 eq1 h => ?_)
    refine q_istoren (lv' := [(1, .int q1.1), (0, .ref 0)]) 12 d_D_formula_11 rfl (by decide) rfl ?_
    refine q_aloadn 13 d_D_formula_12 rfl 1 rfl ?_
    refine q_xget 16 d_D_formula_13 rfl fl_D_12 (by decide) rfl rfl ?_
    refine q_xcallV (as := [.ref 1]) (rest := []) 19 h (fun z e => t_Li_clear e) (q_xinvV (Y := m_Li_clear) d_D_formula_16 ml_D_76 ms_Li_clear.1 ms_Li_clear.2 k_Li_clear.1 (by decide) n_Li_clear (by decide) rfl rfl) k_Li_clear (q_ro (by decide) (by decide)) (Nat.le_of_ble_eq_true rfl) d_D_formula_16 rfl rfl rfl (fun x2 ex2 h => ?_)
    refine q_iloadn 20 d_D_formula_19 rfl 0 rfl ?_
    refine q_ite h (fun c6 h => ?_) (fun c6 h => ?_)
    · refine q_if_ne_t 33 d_D_formula_20 (by decide) c6 ?_
      refine q_aloadn 34 d_D_formula_33 rfl 1 rfl ?_
      refine q_xget 37 d_D_formula_34 rfl fl_D_40 (by decide) rfl rfl ?_
      refine q_astoren (lv' := [(2, .ref 24), (1, .int q1.1), (0, .ref 0)]) 38 d_D_formula_37 rfl (by decide) rfl ?_
      refine q_aloadn 39 d_D_formula_38 rfl 2 rfl ?_
      refine q_aloadn 40 d_D_formula_39 rfl 2 rfl ?_
      refine q_xget 43 d_D_formula_40 rfl fl_D_44 (by decide) rfl rfl ?_
      refine q_xputc 46 d_D_formula_43 rfl fl_D_40 rfl ?_
      refine q_aloadn 47 d_D_formula_46 rfl 2 rfl ?_
      refine q_aloadn 48 d_D_formula_47 rfl 0 rfl ?_
      refine q_xputd 51 d_D_formula_48 rfl fl_D_44 rfl ?_
      refine q_aloadn 52 d_D_formula_51 rfl 2 rfl ?_
      refine q_iconst (v := 1) 53 d_D_formula_52 rfl (by decide) ?_
      refine q_xput 56 d_D_formula_53 rfl fl_D_47 (by decide) rfl rfl rfl rfl (Nat.le_of_ble_eq_true rfl) (fun _ => rfl) h (fun x3 ex3 h => ?_)
      refine q_aloadn 57 d_D_formula_56 rfl 2 rfl ?_
      refine q_iconst (v := 0) 58 d_D_formula_57 rfl (by decide) ?_
      refine q_xput 61 d_D_formula_58 rfl fl_D_51 (by decide) rfl rfl rfl rfl (Nat.le_of_ble_eq_true rfl) (fun _ => rfl) h (fun x4 ex4 h => ?_)
      refine q_aloadn 62 d_D_formula_61 rfl 2 rfl ?_
      refine q_xget 65 d_D_formula_62 rfl fl_D_40 (by decide) rfl rfl ?_
      refine q_xcallP (as := [.ref 16]) (rest := []) 68 h (fun z e => t_Fo_size (by decide) e) (q_xinvV (Y := m_Fo_size) d_D_formula_65 ml_D_81 ms_Fo_size.1 ms_Fo_size.2 k_Fo_size.1 (by decide) n_Fo_size (by decide) rfl rfl) k_Fo_size (q_ro (by decide) (by decide)) (Nat.le_of_ble_eq_true rfl) d_D_formula_65 rfl rfl rfl (fun w5 ew5 h => ?_)
      cases h
      exact q_iret d_D_formula_68 rfl (Nat.zero_le _) (Nat.zero_le _)
    · refine q_if_ne_f 23 d_D_formula_20 rfl 33 (by decide) (Classical.not_not.mp c6) ?_
      cases h
      exact q_throw_D_formula_23
set_option maxHeartbeats 4000000 in
set_option maxRecDepth 100000 in
theorem t_D_requireFormula {E : q_E} {c d : Nat} (hcd : q_cd c d) {x : q_W} {ρ : Int32 ⊕ Nat} (h : f_D_requireFormula c d x = some ρ) : q_Ct E y_D_requireFormula m_D_requireFormula (q_rm 6) (q_cells E c d x) [.ref 0] (q_rPT E c d true x ρ) := by
  rcases hcd with ⟨rfl, rfl⟩ | ⟨rfl, rfl⟩
  · unfold f_D_requireFormula at h
    refine q_Ct.of (lv := [(0, .ref 0)]) (by decide) ⟨rfl, rfl⟩ rfl (Nat.le_of_ble_eq_true rfl) ?_
    refine q_aloadn 1 d_D_requireFormula_0 rfl 0 rfl ?_
    refine q_xget 4 d_D_requireFormula_1 rfl fl_D_47 (by decide) rfl rfl ?_
    refine q_ite h (fun c1 h => ?_) (fun c1 h => ?_)
    · refine q_if_ne_t 17 d_D_requireFormula_4 (by decide) c1 ?_
      cases h
      exact q_vret d_D_requireFormula_17 rfl (Nat.zero_le _) (Nat.zero_le _)
    · refine q_if_ne_f 7 d_D_requireFormula_4 rfl 17 (by decide) (Classical.not_not.mp c1) ?_
      cases h
      exact q_throw_D_requireFormula_7
  · unfold f_D_requireFormula at h
    refine q_Ct.of (lv := [(0, .ref 0)]) (by decide) ⟨rfl, rfl⟩ rfl (Nat.le_of_ble_eq_true rfl) ?_
    refine q_aloadn 1 d_D_requireFormula_0 rfl 0 rfl ?_
    refine q_xget 4 d_D_requireFormula_1 rfl fl_D_47 (by decide) rfl rfl ?_
    refine q_ite h (fun c1 h => ?_) (fun c1 h => ?_)
    · refine q_if_ne_t 17 d_D_requireFormula_4 (by decide) c1 ?_
      cases h
      exact q_vret d_D_requireFormula_17 rfl (Nat.zero_le _) (Nat.zero_le _)
    · refine q_if_ne_f 7 d_D_requireFormula_4 rfl 17 (by decide) (Classical.not_not.mp c1) ?_
      cases h
      exact q_throw_D_requireFormula_7
set_option maxHeartbeats 4000000 in
set_option maxRecDepth 100000 in
theorem t_Fo_stateCount {E : q_E} {c d : Nat} {f : Nat} (hf : f = 16 ∨ f = 24) {x : q_W} {ρ : Int32} (h : f_Fo_stateCount f x = some ρ) : q_Ct E y_Fo_stateCount m_Fo_stateCount (q_rm 0) (q_cells E c d x) [.ref f] (q_rP E c d x ρ) := by
  rcases hf with rfl | rfl
  · unfold f_Fo_stateCount at h
    refine q_Ct.of (lv := [(0, .ref 16)]) (by decide) ⟨rfl, rfl⟩ rfl (Nat.le_of_ble_eq_true rfl) ?_
    refine q_bipush (v := 8) 2 d_Fo_stateCount_0 rfl (by decide) ?_
    refine q_aloadn 3 d_Fo_stateCount_2 rfl 0 rfl ?_
    refine q_xget 6 d_Fo_stateCount_3 rfl fl_Fo_37 (by decide) rfl rfl ?_
    refine q_ishl 7 d_Fo_stateCount_6 rfl ?_
    cases h
    exact q_iret d_Fo_stateCount_7 rfl (Nat.zero_le _) (Nat.zero_le _)
  · unfold f_Fo_stateCount at h
    refine q_Ct.of (lv := [(0, .ref 24)]) (by decide) ⟨rfl, rfl⟩ rfl (Nat.le_of_ble_eq_true rfl) ?_
    refine q_bipush (v := 8) 2 d_Fo_stateCount_0 rfl (by decide) ?_
    refine q_aloadn 3 d_Fo_stateCount_2 rfl 0 rfl ?_
    refine q_xget 6 d_Fo_stateCount_3 rfl fl_Fo_37 (by decide) rfl rfl ?_
    refine q_ishl 7 d_Fo_stateCount_6 rfl ?_
    cases h
    exact q_iret d_Fo_stateCount_7 rfl (Nat.zero_le _) (Nat.zero_le _)
set_option maxHeartbeats 4000000 in
set_option maxRecDepth 100000 in
theorem t_D_states {E : q_E} {c d : Nat} (hcd : q_cd c d) {x : q_W} {ρ : Int32 ⊕ Nat} (h : f_D_states c d x = some ρ) : q_Ct E y_D_states m_D_states (q_rm 7) (q_cells E c d x) [.ref 0] (q_rPT E c d false x ρ) := by
  rcases hcd with ⟨rfl, rfl⟩ | ⟨rfl, rfl⟩
  · unfold f_D_states at h
    refine q_Ct.of (lv := [(0, .ref 0)]) (by decide) ⟨rfl, rfl⟩ rfl (Nat.le_of_ble_eq_true rfl) ?_
    refine q_aloadn 1 d_D_states_0 rfl 0 rfl ?_
    refine q_xcallPP (as := [.ref 0]) (rest := []) 4 h (fun z e => t_D_requireFormula (Or.inl ⟨rfl, rfl⟩) e) (q_xinvV (Y := m_D_requireFormula) d_D_states_1 ml_D_85 ms_D_requireFormula.1 ms_D_requireFormula.2 k_D_requireFormula.1 (by decide) n_D_requireFormula (by decide) rfl rfl) k_D_requireFormula (q_ro (by decide) (by decide)) (Nat.le_of_ble_eq_true rfl) d_D_states_1 rfl rfl rfl rfl (fun w1 ew1 h => ?_)
    refine q_aloadn 5 d_D_states_4 rfl 0 rfl ?_
    refine q_xget 8 d_D_states_5 rfl fl_D_40 (by decide) rfl rfl ?_
    refine q_xcallP (as := [.ref 16]) (rest := []) 11 h (fun z e => t_Fo_stateCount (by decide) e) (q_xinvV (Y := m_Fo_stateCount) d_D_states_8 ml_D_88 ms_Fo_stateCount.1 ms_Fo_stateCount.2 k_Fo_stateCount.1 (by decide) n_Fo_stateCount (by decide) rfl rfl) k_Fo_stateCount (q_ro (by decide) (by decide)) (Nat.le_of_ble_eq_true rfl) d_D_states_8 rfl rfl rfl (fun w3 ew3 h => ?_)
    cases h
    exact q_iret d_D_states_11 rfl (Nat.zero_le _) (Nat.zero_le _)
  · unfold f_D_states at h
    refine q_Ct.of (lv := [(0, .ref 0)]) (by decide) ⟨rfl, rfl⟩ rfl (Nat.le_of_ble_eq_true rfl) ?_
    refine q_aloadn 1 d_D_states_0 rfl 0 rfl ?_
    refine q_xcallPP (as := [.ref 0]) (rest := []) 4 h (fun z e => t_D_requireFormula (Or.inr ⟨rfl, rfl⟩) e) (q_xinvV (Y := m_D_requireFormula) d_D_states_1 ml_D_85 ms_D_requireFormula.1 ms_D_requireFormula.2 k_D_requireFormula.1 (by decide) n_D_requireFormula (by decide) rfl rfl) k_D_requireFormula (q_ro (by decide) (by decide)) (Nat.le_of_ble_eq_true rfl) d_D_states_1 rfl rfl rfl rfl (fun w1 ew1 h => ?_)
    refine q_aloadn 5 d_D_states_4 rfl 0 rfl ?_
    refine q_xget 8 d_D_states_5 rfl fl_D_40 (by decide) rfl rfl ?_
    refine q_xcallP (as := [.ref 24]) (rest := []) 11 h (fun z e => t_Fo_stateCount (by decide) e) (q_xinvV (Y := m_Fo_stateCount) d_D_states_8 ml_D_88 ms_Fo_stateCount.1 ms_Fo_stateCount.2 k_Fo_stateCount.1 (by decide) n_Fo_stateCount (by decide) rfl rfl) k_Fo_stateCount (q_ro (by decide) (by decide)) (Nat.le_of_ble_eq_true rfl) d_D_states_8 rfl rfl rfl (fun w3 ew3 h => ?_)
    cases h
    exact q_iret d_D_states_11 rfl (Nat.zero_le _) (Nat.zero_le _)
set_option maxHeartbeats 4000000 in
set_option maxRecDepth 100000 in
theorem t_D_requireState {E : q_E} {c d : Nat} (hcd : q_cd c d) {x : q_W} {a1 : Int32} {ρ : Int32 ⊕ Nat} (h : f_D_requireState c d x a1 = some ρ) : q_Ct E y_D_requireState m_D_requireState (q_rm 6) (q_cells E c d x) [.ref 0, .int a1] (q_rPT E c d true x ρ) := by
  rcases hcd with ⟨rfl, rfl⟩ | ⟨rfl, rfl⟩
  · unfold f_D_requireState at h
    refine q_Ct.of (lv := [(0, .ref 0), (1, .int a1)]) (by decide) ⟨rfl, rfl⟩ rfl (Nat.le_of_ble_eq_true rfl) ?_
    refine q_iloadn 1 d_D_requireState_0 rfl 1 rfl ?_
    refine q_ite h (fun c3 h => ?_) (fun c3 h => ?_)
    · refine q_if_lt_t 15 d_D_requireState_1 (by decide) c3 ?_
      cases h
      exact q_throw_D_requireState_15
    · refine q_if_lt_f 4 d_D_requireState_1 rfl 15 (by decide) c3 ?_
      refine q_iloadn 5 d_D_requireState_4 rfl 1 rfl ?_
      refine q_aloadn 6 d_D_requireState_5 rfl 0 rfl ?_
      refine q_xget 9 d_D_requireState_6 rfl fl_D_40 (by decide) rfl rfl ?_
      refine q_xcallP (as := [.ref 16]) (rest := [.int a1]) 12 h (fun z e => t_Fo_stateCount (by decide) e) (q_xinvV (Y := m_Fo_stateCount) d_D_requireState_9 ml_D_88 ms_Fo_stateCount.1 ms_Fo_stateCount.2 k_Fo_stateCount.1 (by decide) n_Fo_stateCount (by decide) rfl rfl) k_Fo_stateCount (q_ro (by decide) (by decide)) (Nat.le_of_ble_eq_true rfl) d_D_requireState_9 rfl rfl rfl (fun w1 ew1 h => ?_)
      refine q_ite h (fun c2 h => ?_) (fun c2 h => ?_)
      · refine q_icmp_lt_t 25 d_D_requireState_12 (by decide) c2 ?_
        cases h
        exact q_vret d_D_requireState_25 rfl (Nat.zero_le _) (Nat.zero_le _)
      · refine q_icmp_lt_f 15 d_D_requireState_12 rfl 25 (by decide) c2 ?_
        cases h
        exact q_throw_D_requireState_15
  · unfold f_D_requireState at h
    refine q_Ct.of (lv := [(0, .ref 0), (1, .int a1)]) (by decide) ⟨rfl, rfl⟩ rfl (Nat.le_of_ble_eq_true rfl) ?_
    refine q_iloadn 1 d_D_requireState_0 rfl 1 rfl ?_
    refine q_ite h (fun c3 h => ?_) (fun c3 h => ?_)
    · refine q_if_lt_t 15 d_D_requireState_1 (by decide) c3 ?_
      cases h
      exact q_throw_D_requireState_15
    · refine q_if_lt_f 4 d_D_requireState_1 rfl 15 (by decide) c3 ?_
      refine q_iloadn 5 d_D_requireState_4 rfl 1 rfl ?_
      refine q_aloadn 6 d_D_requireState_5 rfl 0 rfl ?_
      refine q_xget 9 d_D_requireState_6 rfl fl_D_40 (by decide) rfl rfl ?_
      refine q_xcallP (as := [.ref 24]) (rest := [.int a1]) 12 h (fun z e => t_Fo_stateCount (by decide) e) (q_xinvV (Y := m_Fo_stateCount) d_D_requireState_9 ml_D_88 ms_Fo_stateCount.1 ms_Fo_stateCount.2 k_Fo_stateCount.1 (by decide) n_Fo_stateCount (by decide) rfl rfl) k_Fo_stateCount (q_ro (by decide) (by decide)) (Nat.le_of_ble_eq_true rfl) d_D_requireState_9 rfl rfl rfl (fun w1 ew1 h => ?_)
      refine q_ite h (fun c2 h => ?_) (fun c2 h => ?_)
      · refine q_icmp_lt_t 25 d_D_requireState_12 (by decide) c2 ?_
        cases h
        exact q_vret d_D_requireState_25 rfl (Nat.zero_le _) (Nat.zero_le _)
      · refine q_icmp_lt_f 15 d_D_requireState_12 rfl 25 (by decide) c2 ?_
        cases h
        exact q_throw_D_requireState_15
set_option maxHeartbeats 4000000 in
set_option maxRecDepth 100000 in
theorem t_D_hasBit {E : q_E} {c d : Nat} {x : q_W} {a0 : Int32} {a1 : Int32} {ρ : Int32} (h : f_D_hasBit x a0 a1 = some ρ) : q_Ct E y_D_hasBit m_D_hasBit (q_rm 0) (q_cells E c d x) [.int a0, .int a1] (q_rP E c d x ρ) := by
  unfold f_D_hasBit at h
  refine q_Ct.of (lv := [(0, .int a0), (1, .int a1)]) (by decide) ⟨rfl, rfl⟩ rfl (Nat.le_of_ble_eq_true rfl) ?_
  refine q_iloadn 1 d_D_hasBit_0 rfl 0 rfl ?_
  refine q_iloadn 2 d_D_hasBit_1 rfl 1 rfl ?_
  refine q_ishr 3 d_D_hasBit_2 rfl ?_
  refine q_iconst (v := 1) 4 d_D_hasBit_3 rfl (by decide) ?_
  refine q_iand 5 d_D_hasBit_4 rfl ?_
  refine q_ite h (fun c1 h => ?_) (fun c1 h => ?_)
  · refine q_if_eq_t 12 d_D_hasBit_5 (by decide) c1 ?_
    refine q_iconst (v := 0) 13 d_D_hasBit_12 rfl (by decide) ?_
    cases h
    exact q_zret d_D_hasBit_13 rfl (Nat.zero_le _) (Nat.zero_le _)
  · refine q_if_eq_f 8 d_D_hasBit_5 rfl 12 (by decide) c1 ?_
    refine q_iconst (v := 1) 9 d_D_hasBit_8 rfl (by decide) ?_
    refine q_goto 13 d_D_hasBit_9 (by decide) ?_
    cases h
    exact q_zret d_D_hasBit_13 rfl (Nat.zero_le _) (Nat.zero_le _)
set_option maxHeartbeats 4000000 in
set_option maxRecDepth 100000 in
theorem t_Fo_isWholeIn {E : q_E} {c d : Nat} {f : Nat} (hf : f = 16 ∨ f = 24) {x : q_W} {a1 : Int32} {ρ : Int32} (h : f_Fo_isWholeIn f x a1 = some ρ) : q_Ct E y_Fo_isWholeIn m_Fo_isWholeIn (q_rm 1) (q_cells E c d x) [.ref f, .int a1] (q_rP E c d x ρ) := by
  rcases hf with rfl | rfl
  · unfold f_Fo_isWholeIn at h
    refine q_Ct.of (lv := [(0, .ref 16), (1, .int a1)]) (by decide) ⟨rfl, rfl⟩ rfl (Nat.le_of_ble_eq_true rfl) ?_
    refine q_iloadn 1 d_Fo_isWholeIn_0 rfl 1 rfl ?_
    refine q_aloadn 2 d_Fo_isWholeIn_1 rfl 0 rfl ?_
    refine q_xget 5 d_Fo_isWholeIn_2 rfl fl_Fo_33 (by decide) rfl rfl ?_
    refine q_iconst (v := 1) 6 d_Fo_isWholeIn_5 rfl (by decide) ?_
    refine q_isub 7 d_Fo_isWholeIn_6 rfl ?_
    refine q_xcallP (as := [.int a1, .int ((x.2 16 7) - 1)]) (rest := []) 10 h (fun z e => t_D_hasBit e) (q_invSN (Y := m_D_hasBit) d_Fo_isWholeIn_7 ml_Fo_47 ms_D_hasBit k_D_hasBit.2 k_D_hasBit.1 (by decide) n_D_hasBit) k_D_hasBit (q_ro (by decide) (by decide)) (Nat.le_of_ble_eq_true rfl) d_Fo_isWholeIn_7 rfl rfl rfl (fun w1 ew1 h => ?_)
    cases h
    exact q_zret d_Fo_isWholeIn_10 rfl (Nat.zero_le _) (Nat.zero_le _)
  · unfold f_Fo_isWholeIn at h
    refine q_Ct.of (lv := [(0, .ref 24), (1, .int a1)]) (by decide) ⟨rfl, rfl⟩ rfl (Nat.le_of_ble_eq_true rfl) ?_
    refine q_iloadn 1 d_Fo_isWholeIn_0 rfl 1 rfl ?_
    refine q_aloadn 2 d_Fo_isWholeIn_1 rfl 0 rfl ?_
    refine q_xget 5 d_Fo_isWholeIn_2 rfl fl_Fo_33 (by decide) rfl rfl ?_
    refine q_iconst (v := 1) 6 d_Fo_isWholeIn_5 rfl (by decide) ?_
    refine q_isub 7 d_Fo_isWholeIn_6 rfl ?_
    refine q_xcallP (as := [.int a1, .int ((x.2 24 7) - 1)]) (rest := []) 10 h (fun z e => t_D_hasBit e) (q_invSN (Y := m_D_hasBit) d_Fo_isWholeIn_7 ml_Fo_47 ms_D_hasBit k_D_hasBit.2 k_D_hasBit.1 (by decide) n_D_hasBit) k_D_hasBit (q_ro (by decide) (by decide)) (Nat.le_of_ble_eq_true rfl) d_Fo_isWholeIn_7 rfl rfl rfl (fun w1 ew1 h => ?_)
    cases h
    exact q_zret d_Fo_isWholeIn_10 rfl (Nat.zero_le _) (Nat.zero_le _)
set_option maxHeartbeats 4000000 in
set_option maxRecDepth 100000 in
theorem t_Fo_isPartAt {E : q_E} {c d : Nat} {f : Nat} (hf : f = 16 ∨ f = 24) {x : q_W} {a1 : Int32} {a2 : Int32} {a3 : Int32} {ρ : Int32} (h : f_Fo_isPartAt f x a1 a2 a3 = some ρ) : q_Ct E y_Fo_isPartAt m_Fo_isPartAt (q_rm 1) (q_cells E c d x) [.ref f, .int a1, .int a2, .int a3] (q_rP E c d x ρ) := by
  rcases hf with rfl | rfl
  · unfold f_Fo_isPartAt at h
    refine q_Ct.of (lv := [(0, .ref 16), (1, .int a1), (2, .int a2), (3, .int a3)]) (by decide) ⟨rfl, rfl⟩ rfl (Nat.le_of_ble_eq_true rfl) ?_
    refine q_iloadn 1 d_Fo_isPartAt_0 rfl 3 rfl ?_
    refine q_aloadn 2 d_Fo_isPartAt_1 rfl 0 rfl ?_
    refine q_xget 5 d_Fo_isPartAt_2 rfl fl_Fo_15 (by decide) rfl rfl ?_
    refine q_iloadn 6 d_Fo_isPartAt_5 rfl 1 rfl ?_
    refine q_xiald 7 d_Fo_isPartAt_6 rfl (by decide) (fun _ => rfl) h (fun w1 ew1 h => ?_)
    refine q_xcallP (as := [.int a3, .int w1]) (rest := []) 10 h (fun z e => t_D_hasBit e) (q_invSN (Y := m_D_hasBit) d_Fo_isPartAt_7 ml_Fo_47 ms_D_hasBit k_D_hasBit.2 k_D_hasBit.1 (by decide) n_D_hasBit) k_D_hasBit (q_ro (by decide) (by decide)) (Nat.le_of_ble_eq_true rfl) d_Fo_isPartAt_7 rfl rfl rfl (fun w2 ew2 h => ?_)
    refine q_istore (lv' := [(4, .int w2), (0, .ref 16), (1, .int a1), (2, .int a2), (3, .int a3)]) 12 d_Fo_isPartAt_10 rfl (by decide) rfl ?_
    refine q_iloadn 13 d_Fo_isPartAt_12 rfl 4 rfl ?_
    refine q_aloadn 14 d_Fo_isPartAt_13 rfl 1 rfl ?_
    refine q_xget 17 d_Fo_isPartAt_14 rfl fl_Fo_18 (by decide) rfl rfl ?_
    refine q_iloadn 18 d_Fo_isPartAt_17 rfl 2 rfl ?_
    refine q_xiald 19 d_Fo_isPartAt_18 rfl (by decide) (fun _ => rfl) h (fun w3 ew3 h => ?_)
    refine q_xcallP (as := [.int a3, .int w3]) (rest := []) 22 h (fun z e => t_D_hasBit e) (q_invSN (Y := m_D_hasBit) d_Fo_isPartAt_19 ml_Fo_47 ms_D_hasBit k_D_hasBit.2 k_D_hasBit.1 (by decide) n_D_hasBit) k_D_hasBit (q_ro (by decide) (by decide)) (Nat.le_of_ble_eq_true rfl) d_Fo_isPartAt_19 rfl rfl rfl (fun w4 ew4 h => ?_)
    refine q_istore (lv' := [(5, .int w4), (4, .int w2), (0, .ref 16), (1, .int a1), (2, .int a2), (3, .int a3)]) 24 d_Fo_isPartAt_22 rfl (by decide) rfl ?_
    refine q_iloadn 25 d_Fo_isPartAt_24 rfl 4 rfl ?_
    refine q_iconst (v := 3) 26 d_Fo_isPartAt_25 rfl (by decide) ?_
    refine q_aloadn 27 d_Fo_isPartAt_26 rfl 2 rfl ?_
    refine q_xget 30 d_Fo_isPartAt_27 rfl fl_Fo_21 (by decide) rfl rfl ?_
    refine q_iloadn 31 d_Fo_isPartAt_30 rfl 3 rfl ?_
    refine q_xiald 32 d_Fo_isPartAt_31 rfl (by decide) (fun _ => rfl) h (fun w5 ew5 h => ?_)
    refine q_iadd 33 d_Fo_isPartAt_32 rfl ?_
    refine q_xcallP (as := [.int a2, .int (3 + w5)]) (rest := []) 36 h (fun z e => t_D_hasBit e) (q_invSN (Y := m_D_hasBit) d_Fo_isPartAt_33 ml_Fo_47 ms_D_hasBit k_D_hasBit.2 k_D_hasBit.1 (by decide) n_D_hasBit) k_D_hasBit (q_ro (by decide) (by decide)) (Nat.le_of_ble_eq_true rfl) d_Fo_isPartAt_33 rfl rfl rfl (fun w6 ew6 h => ?_)
    refine q_istore (lv' := [(6, .int w6), (5, .int w4), (4, .int w2), (0, .ref 16), (1, .int a1), (2, .int a2), (3, .int a3)]) 38 d_Fo_isPartAt_36 rfl (by decide) rfl ?_
    refine q_aloadn 39 d_Fo_isPartAt_38 rfl 3 rfl ?_
    refine q_xget 42 d_Fo_isPartAt_39 rfl fl_Fo_9 (by decide) rfl rfl ?_
    refine q_iloadn 43 d_Fo_isPartAt_42 rfl 4 rfl ?_
    refine q_xiald 44 d_Fo_isPartAt_43 rfl (by decide) (fun _ => rfl) h (fun w7 ew7 h => ?_)
    refine q_ite h (fun c8 h => ?_) (fun c8 h => ?_)
    · refine q_lookup 180 d_Fo_isPartAt_44 (by decide) (by rw [c8] <;> decide +kernel) (by decide) ?_
      refine q_iload 182 d_Fo_isPartAt_180 rfl 1 rfl ?_
      refine q_ite h (fun c9 h => ?_) (fun c9 h => ?_)
      · refine q_if_ne_t 189 d_Fo_isPartAt_182 (by decide) c9 ?_
        refine q_iconst (v := 0) 190 d_Fo_isPartAt_189 rfl (by decide) ?_
        cases h
        exact q_zret d_Fo_isPartAt_190 rfl (Nat.zero_le _) (Nat.zero_le _)
      · refine q_if_ne_f 185 d_Fo_isPartAt_182 rfl 189 (by decide) (Classical.not_not.mp c9) ?_
        refine q_iconst (v := 1) 186 d_Fo_isPartAt_185 rfl (by decide) ?_
        refine q_goto 190 d_Fo_isPartAt_186 (by decide) ?_
        cases h
        exact q_zret d_Fo_isPartAt_190 rfl (Nat.zero_le _) (Nat.zero_le _)
    · refine q_ite h (fun c10 h => ?_) (fun c10 h => ?_)
      · refine q_lookup 191 d_Fo_isPartAt_44 (by decide) (by rw [c10] <;> decide +kernel) (by decide) ?_
        refine q_iload 193 d_Fo_isPartAt_191 rfl 2 rfl ?_
        refine q_ite h (fun c12 h => ?_) (fun c12 h => ?_)
        · refine q_if_eq_t 205 d_Fo_isPartAt_193 (by decide) c12 ?_
          refine q_iconst (v := 0) 206 d_Fo_isPartAt_205 rfl (by decide) ?_
          cases h
          exact q_zret d_Fo_isPartAt_206 rfl (Nat.zero_le _) (Nat.zero_le _)
        · refine q_if_eq_f 196 d_Fo_isPartAt_193 rfl 205 (by decide) c12 ?_
          refine q_iload 198 d_Fo_isPartAt_196 rfl 1 rfl ?_
          refine q_ite h (fun c11 h => ?_) (fun c11 h => ?_)
          · refine q_if_eq_t 205 d_Fo_isPartAt_198 (by decide) c11 ?_
            refine q_iconst (v := 0) 206 d_Fo_isPartAt_205 rfl (by decide) ?_
            cases h
            exact q_zret d_Fo_isPartAt_206 rfl (Nat.zero_le _) (Nat.zero_le _)
          · refine q_if_eq_f 201 d_Fo_isPartAt_198 rfl 205 (by decide) c11 ?_
            refine q_iconst (v := 1) 202 d_Fo_isPartAt_201 rfl (by decide) ?_
            refine q_goto 206 d_Fo_isPartAt_202 (by decide) ?_
            cases h
            exact q_zret d_Fo_isPartAt_206 rfl (Nat.zero_le _) (Nat.zero_le _)
      · refine q_ite h (fun c13 h => ?_) (fun c13 h => ?_)
        · refine q_lookup 160 d_Fo_isPartAt_44 (by decide) (by rw [c13] <;> decide +kernel) (by decide) ?_
          refine q_iconst (v := 1) 161 d_Fo_isPartAt_160 rfl (by decide) ?_
          cases h
          exact q_zret d_Fo_isPartAt_161 rfl (Nat.zero_le _) (Nat.zero_le _)
        · refine q_ite h (fun c14 h => ?_) (fun c14 h => ?_)
          · refine q_lookup 223 d_Fo_isPartAt_44 (by decide) (by rw [c14] <;> decide +kernel) (by decide) ?_
            refine q_iload 225 d_Fo_isPartAt_223 rfl 2 rfl ?_
            refine q_ite h (fun c16 h => ?_) (fun c16 h => ?_)
            · refine q_if_eq_t 233 d_Fo_isPartAt_225 (by decide) c16 ?_
              refine q_iconst (v := 1) 234 d_Fo_isPartAt_233 rfl (by decide) ?_
              refine q_goto 238 d_Fo_isPartAt_234 (by decide) ?_
              cases h
              exact q_zret d_Fo_isPartAt_238 rfl (Nat.zero_le _) (Nat.zero_le _)
            · refine q_if_eq_f 228 d_Fo_isPartAt_225 rfl 233 (by decide) c16 ?_
              refine q_iload 230 d_Fo_isPartAt_228 rfl 1 rfl ?_
              refine q_ite h (fun c15 h => ?_) (fun c15 h => ?_)
              · refine q_if_eq_t 237 d_Fo_isPartAt_230 (by decide) c15 ?_
                refine q_iconst (v := 0) 238 d_Fo_isPartAt_237 rfl (by decide) ?_
                cases h
                exact q_zret d_Fo_isPartAt_238 rfl (Nat.zero_le _) (Nat.zero_le _)
              · refine q_if_eq_f 233 d_Fo_isPartAt_230 rfl 237 (by decide) c15 ?_
                refine q_iconst (v := 1) 234 d_Fo_isPartAt_233 rfl (by decide) ?_
                refine q_goto 238 d_Fo_isPartAt_234 (by decide) ?_
                cases h
                exact q_zret d_Fo_isPartAt_238 rfl (Nat.zero_le _) (Nat.zero_le _)
          · refine q_ite h (fun c17 h => ?_) (fun c17 h => ?_)
            · refine q_lookup 242 d_Fo_isPartAt_44 (by decide) (by rw [c17] <;> decide +kernel) (by decide) ?_
              refine q_iload 244 d_Fo_isPartAt_242 rfl 1 rfl ?_
              refine q_ite h (fun c19 h => ?_) (fun c19 h => ?_)
              · refine q_if_ne_t 252 d_Fo_isPartAt_244 (by decide) c19 ?_
                refine q_iconst (v := 1) 253 d_Fo_isPartAt_252 rfl (by decide) ?_
                refine q_goto 257 d_Fo_isPartAt_253 (by decide) ?_
                cases h
                exact q_zret d_Fo_isPartAt_257 rfl (Nat.zero_le _) (Nat.zero_le _)
              · refine q_if_ne_f 247 d_Fo_isPartAt_244 rfl 252 (by decide) (Classical.not_not.mp c19) ?_
                refine q_iload 249 d_Fo_isPartAt_247 rfl 0 rfl ?_
                refine q_ite h (fun c18 h => ?_) (fun c18 h => ?_)
                · refine q_if_eq_t 256 d_Fo_isPartAt_249 (by decide) c18 ?_
                  refine q_iconst (v := 0) 257 d_Fo_isPartAt_256 rfl (by decide) ?_
                  cases h
                  exact q_zret d_Fo_isPartAt_257 rfl (Nat.zero_le _) (Nat.zero_le _)
                · refine q_if_eq_f 252 d_Fo_isPartAt_249 rfl 256 (by decide) c18 ?_
                  refine q_iconst (v := 1) 253 d_Fo_isPartAt_252 rfl (by decide) ?_
                  refine q_goto 257 d_Fo_isPartAt_253 (by decide) ?_
                  cases h
                  exact q_zret d_Fo_isPartAt_257 rfl (Nat.zero_le _) (Nat.zero_le _)
            · refine q_ite h (fun c20 h => ?_) (fun c20 h => ?_)
              · refine q_lookup 258 d_Fo_isPartAt_44 (by decide) (by rw [c20] <;> decide +kernel) (by decide) ?_
                refine q_iload 260 d_Fo_isPartAt_258 rfl 1 rfl ?_
                refine q_ite h (fun c22 h => ?_) (fun c22 h => ?_)
                · refine q_if_eq_t 272 d_Fo_isPartAt_260 (by decide) c22 ?_
                  refine q_iconst (v := 0) 273 d_Fo_isPartAt_272 rfl (by decide) ?_
                  cases h
                  exact q_zret d_Fo_isPartAt_273 rfl (Nat.zero_le _) (Nat.zero_le _)
                · refine q_if_eq_f 263 d_Fo_isPartAt_260 rfl 272 (by decide) c22 ?_
                  refine q_iload 265 d_Fo_isPartAt_263 rfl 0 rfl ?_
                  refine q_ite h (fun c21 h => ?_) (fun c21 h => ?_)
                  · refine q_if_eq_t 272 d_Fo_isPartAt_265 (by decide) c21 ?_
                    refine q_iconst (v := 0) 273 d_Fo_isPartAt_272 rfl (by decide) ?_
                    cases h
                    exact q_zret d_Fo_isPartAt_273 rfl (Nat.zero_le _) (Nat.zero_le _)
                  · refine q_if_eq_f 268 d_Fo_isPartAt_265 rfl 272 (by decide) c21 ?_
                    refine q_iconst (v := 1) 269 d_Fo_isPartAt_268 rfl (by decide) ?_
                    refine q_goto 273 d_Fo_isPartAt_269 (by decide) ?_
                    cases h
                    exact q_zret d_Fo_isPartAt_273 rfl (Nat.zero_le _) (Nat.zero_le _)
              · refine q_ite h (fun c23 h => ?_) (fun c23 h => ?_)
                · refine q_lookup 295 d_Fo_isPartAt_44 (by decide) (by rw [c23] <;> decide +kernel) (by decide) ?_
                  refine q_iload 297 d_Fo_isPartAt_295 rfl 1 rfl ?_
                  refine q_ite h (fun c26 h => ?_) (fun c26 h => ?_)
                  · refine q_if_eq_t 314 d_Fo_isPartAt_297 (by decide) c26 ?_
                    refine q_iconst (v := 0) 315 d_Fo_isPartAt_314 rfl (by decide) ?_
                    cases h
                    exact q_zret d_Fo_isPartAt_315 rfl (Nat.zero_le _) (Nat.zero_le _)
                  · refine q_if_eq_f 300 d_Fo_isPartAt_297 rfl 314 (by decide) c26 ?_
                    refine q_iload 302 d_Fo_isPartAt_300 rfl 2 rfl ?_
                    refine q_ite h (fun c25 h => ?_) (fun c25 h => ?_)
                    · refine q_if_ne_t 310 d_Fo_isPartAt_302 (by decide) c25 ?_
                      refine q_iconst (v := 1) 311 d_Fo_isPartAt_310 rfl (by decide) ?_
                      refine q_goto 315 d_Fo_isPartAt_311 (by decide) ?_
                      cases h
                      exact q_zret d_Fo_isPartAt_315 rfl (Nat.zero_le _) (Nat.zero_le _)
                    · refine q_if_ne_f 305 d_Fo_isPartAt_302 rfl 310 (by decide) (Classical.not_not.mp c25) ?_
                      refine q_iload 307 d_Fo_isPartAt_305 rfl 0 rfl ?_
                      refine q_ite h (fun c24 h => ?_) (fun c24 h => ?_)
                      · refine q_if_eq_t 314 d_Fo_isPartAt_307 (by decide) c24 ?_
                        refine q_iconst (v := 0) 315 d_Fo_isPartAt_314 rfl (by decide) ?_
                        cases h
                        exact q_zret d_Fo_isPartAt_315 rfl (Nat.zero_le _) (Nat.zero_le _)
                      · refine q_if_eq_f 310 d_Fo_isPartAt_307 rfl 314 (by decide) c24 ?_
                        refine q_iconst (v := 1) 311 d_Fo_isPartAt_310 rfl (by decide) ?_
                        refine q_goto 315 d_Fo_isPartAt_311 (by decide) ?_
                        cases h
                        exact q_zret d_Fo_isPartAt_315 rfl (Nat.zero_le _) (Nat.zero_le _)
                · refine q_ite h (fun c27 h => ?_) (fun c27 h => ?_)
                  · refine q_lookup 274 d_Fo_isPartAt_44 (by decide) (by rw [c27] <;> decide +kernel) (by decide) ?_
                    refine q_iload 276 d_Fo_isPartAt_274 rfl 1 rfl ?_
                    refine q_ite h (fun c30 h => ?_) (fun c30 h => ?_)
                    · refine q_if_ne_t 289 d_Fo_isPartAt_276 (by decide) c30 ?_
                      refine q_iconst (v := 1) 290 d_Fo_isPartAt_289 rfl (by decide) ?_
                      refine q_goto 294 d_Fo_isPartAt_290 (by decide) ?_
                      cases h
                      exact q_zret d_Fo_isPartAt_294 rfl (Nat.zero_le _) (Nat.zero_le _)
                    · refine q_if_ne_f 279 d_Fo_isPartAt_276 rfl 289 (by decide) (Classical.not_not.mp c30) ?_
                      refine q_iload 281 d_Fo_isPartAt_279 rfl 2 rfl ?_
                      refine q_ite h (fun c29 h => ?_) (fun c29 h => ?_)
                      · refine q_if_eq_t 293 d_Fo_isPartAt_281 (by decide) c29 ?_
                        refine q_iconst (v := 0) 294 d_Fo_isPartAt_293 rfl (by decide) ?_
                        cases h
                        exact q_zret d_Fo_isPartAt_294 rfl (Nat.zero_le _) (Nat.zero_le _)
                      · refine q_if_eq_f 284 d_Fo_isPartAt_281 rfl 293 (by decide) c29 ?_
                        refine q_iload 286 d_Fo_isPartAt_284 rfl 0 rfl ?_
                        refine q_ite h (fun c28 h => ?_) (fun c28 h => ?_)
                        · refine q_if_eq_t 293 d_Fo_isPartAt_286 (by decide) c28 ?_
                          refine q_iconst (v := 0) 294 d_Fo_isPartAt_293 rfl (by decide) ?_
                          cases h
                          exact q_zret d_Fo_isPartAt_294 rfl (Nat.zero_le _) (Nat.zero_le _)
                        · refine q_if_eq_f 289 d_Fo_isPartAt_286 rfl 293 (by decide) c28 ?_
                          refine q_iconst (v := 1) 290 d_Fo_isPartAt_289 rfl (by decide) ?_
                          refine q_goto 294 d_Fo_isPartAt_290 (by decide) ?_
                          cases h
                          exact q_zret d_Fo_isPartAt_294 rfl (Nat.zero_le _) (Nat.zero_le _)
                  · refine q_ite h (fun c31 h => ?_) (fun c31 h => ?_)
                    · refine q_lookup 239 d_Fo_isPartAt_44 (by decide) (by rw [c31] <;> decide +kernel) (by decide) ?_
                      refine q_iload 241 d_Fo_isPartAt_239 rfl 0 rfl ?_
                      cases h
                      exact q_zret d_Fo_isPartAt_241 rfl (Nat.zero_le _) (Nat.zero_le _)
                    · refine q_ite h (fun c32 h => ?_) (fun c32 h => ?_)
                      · refine q_lookup 162 d_Fo_isPartAt_44 (by decide) (by rw [c32] <;> decide +kernel) (by decide) ?_
                        refine q_iloadn 163 d_Fo_isPartAt_162 rfl 5 rfl ?_
                        refine q_iconst (v := 0) 164 d_Fo_isPartAt_163 rfl (by decide) ?_
                        refine q_xcallP (as := [.int a2, .int 0]) (rest := []) 167 h (fun z e => t_D_hasBit e) (q_invSN (Y := m_D_hasBit) d_Fo_isPartAt_164 ml_Fo_47 ms_D_hasBit k_D_hasBit.2 k_D_hasBit.1 (by decide) n_D_hasBit) k_D_hasBit (q_ro (by decide) (by decide)) (Nat.le_of_ble_eq_true rfl) d_Fo_isPartAt_164 rfl rfl rfl (fun w33 ew33 h => ?_)
                        cases h
                        exact q_zret d_Fo_isPartAt_167 rfl (Nat.zero_le _) (Nat.zero_le _)
                      · refine q_ite h (fun c34 h => ?_) (fun c34 h => ?_)
                        · refine q_lookup 168 d_Fo_isPartAt_44 (by decide) (by rw [c34] <;> decide +kernel) (by decide) ?_
                          refine q_iloadn 169 d_Fo_isPartAt_168 rfl 5 rfl ?_
                          refine q_iconst (v := 1) 170 d_Fo_isPartAt_169 rfl (by decide) ?_
                          refine q_xcallP (as := [.int a2, .int 1]) (rest := []) 173 h (fun z e => t_D_hasBit e) (q_invSN (Y := m_D_hasBit) d_Fo_isPartAt_170 ml_Fo_47 ms_D_hasBit k_D_hasBit.2 k_D_hasBit.1 (by decide) n_D_hasBit) k_D_hasBit (q_ro (by decide) (by decide)) (Nat.le_of_ble_eq_true rfl) d_Fo_isPartAt_170 rfl rfl rfl (fun w35 ew35 h => ?_)
                          cases h
                          exact q_zret d_Fo_isPartAt_173 rfl (Nat.zero_le _) (Nat.zero_le _)
                        · refine q_ite h (fun c36 h => ?_) (fun c36 h => ?_)
                          · refine q_lookup 174 d_Fo_isPartAt_44 (by decide) (by rw [c36] <;> decide +kernel) (by decide) ?_
                            refine q_iloadn 175 d_Fo_isPartAt_174 rfl 5 rfl ?_
                            refine q_iconst (v := 2) 176 d_Fo_isPartAt_175 rfl (by decide) ?_
                            refine q_xcallP (as := [.int a2, .int 2]) (rest := []) 179 h (fun z e => t_D_hasBit e) (q_invSN (Y := m_D_hasBit) d_Fo_isPartAt_176 ml_Fo_47 ms_D_hasBit k_D_hasBit.2 k_D_hasBit.1 (by decide) n_D_hasBit) k_D_hasBit (q_ro (by decide) (by decide)) (Nat.le_of_ble_eq_true rfl) d_Fo_isPartAt_176 rfl rfl rfl (fun w37 ew37 h => ?_)
                            cases h
                            exact q_zret d_Fo_isPartAt_179 rfl (Nat.zero_le _) (Nat.zero_le _)
                          · refine q_ite h (fun c38 h => ?_) (fun c38 h => ?_)
                            · refine q_lookup 207 d_Fo_isPartAt_44 (by decide) (by rw [c38] <;> decide +kernel) (by decide) ?_
                              refine q_iload 209 d_Fo_isPartAt_207 rfl 2 rfl ?_
                              refine q_ite h (fun c40 h => ?_) (fun c40 h => ?_)
                              · refine q_if_ne_t 217 d_Fo_isPartAt_209 (by decide) c40 ?_
                                refine q_iconst (v := 1) 218 d_Fo_isPartAt_217 rfl (by decide) ?_
                                refine q_goto 222 d_Fo_isPartAt_218 (by decide) ?_
                                cases h
                                exact q_zret d_Fo_isPartAt_222 rfl (Nat.zero_le _) (Nat.zero_le _)
                              · refine q_if_ne_f 212 d_Fo_isPartAt_209 rfl 217 (by decide) (Classical.not_not.mp c40) ?_
                                refine q_iload 214 d_Fo_isPartAt_212 rfl 1 rfl ?_
                                refine q_ite h (fun c39 h => ?_) (fun c39 h => ?_)
                                · refine q_if_eq_t 221 d_Fo_isPartAt_214 (by decide) c39 ?_
                                  refine q_iconst (v := 0) 222 d_Fo_isPartAt_221 rfl (by decide) ?_
                                  cases h
                                  exact q_zret d_Fo_isPartAt_222 rfl (Nat.zero_le _) (Nat.zero_le _)
                                · refine q_if_eq_f 217 d_Fo_isPartAt_214 rfl 221 (by decide) c39 ?_
                                  refine q_iconst (v := 1) 218 d_Fo_isPartAt_217 rfl (by decide) ?_
                                  refine q_goto 222 d_Fo_isPartAt_218 (by decide) ?_
                                  cases h
                                  exact q_zret d_Fo_isPartAt_222 rfl (Nat.zero_le _) (Nat.zero_le _)
                            · refine q_lookup (off := 272) 316 d_Fo_isPartAt_44 (by decide) (by rw [lv_osw c8 (by decide : (33 : Int32).toInt = 33), lv_osw c10 (by decide : (38 : Int32).toInt = 38), lv_osw c13 (by decide : (49 : Int32).toInt = 49), lv_osw c14 (by decide : (62 : Int32).toInt = 62), lv_osw c17 (by decide : (70 : Int32).toInt = 70), lv_osw c20 (by decide : (71 : Int32).toInt = 71), lv_osw c23 (by decide : (82 : Int32).toInt = 82), lv_osw c27 (by decide : (85 : Int32).toInt = 85), lv_osw c31 (by decide : (88 : Int32).toInt = 88), lv_osw c32 (by decide : (97 : Int32).toInt = 97), lv_osw c34 (by decide : (98 : Int32).toInt = 98), lv_osw c36 (by decide : (99 : Int32).toInt = 99), lv_osw c38 (by decide : (124 : Int32).toInt = 124)] <;> rfl) (by decide) ?_
                              refine q_iconst (v := 0) 317 d_Fo_isPartAt_316 rfl (by decide) ?_
                              cases h
                              exact q_zret d_Fo_isPartAt_317 rfl (Nat.zero_le _) (Nat.zero_le _)
  · unfold f_Fo_isPartAt at h
    refine q_Ct.of (lv := [(0, .ref 24), (1, .int a1), (2, .int a2), (3, .int a3)]) (by decide) ⟨rfl, rfl⟩ rfl (Nat.le_of_ble_eq_true rfl) ?_
    refine q_iloadn 1 d_Fo_isPartAt_0 rfl 3 rfl ?_
    refine q_aloadn 2 d_Fo_isPartAt_1 rfl 0 rfl ?_
    refine q_xget 5 d_Fo_isPartAt_2 rfl fl_Fo_15 (by decide) rfl rfl ?_
    refine q_iloadn 6 d_Fo_isPartAt_5 rfl 1 rfl ?_
    refine q_xiald 7 d_Fo_isPartAt_6 rfl (by decide) (fun _ => rfl) h (fun w1 ew1 h => ?_)
    refine q_xcallP (as := [.int a3, .int w1]) (rest := []) 10 h (fun z e => t_D_hasBit e) (q_invSN (Y := m_D_hasBit) d_Fo_isPartAt_7 ml_Fo_47 ms_D_hasBit k_D_hasBit.2 k_D_hasBit.1 (by decide) n_D_hasBit) k_D_hasBit (q_ro (by decide) (by decide)) (Nat.le_of_ble_eq_true rfl) d_Fo_isPartAt_7 rfl rfl rfl (fun w2 ew2 h => ?_)
    refine q_istore (lv' := [(4, .int w2), (0, .ref 24), (1, .int a1), (2, .int a2), (3, .int a3)]) 12 d_Fo_isPartAt_10 rfl (by decide) rfl ?_
    refine q_iloadn 13 d_Fo_isPartAt_12 rfl 4 rfl ?_
    refine q_aloadn 14 d_Fo_isPartAt_13 rfl 1 rfl ?_
    refine q_xget 17 d_Fo_isPartAt_14 rfl fl_Fo_18 (by decide) rfl rfl ?_
    refine q_iloadn 18 d_Fo_isPartAt_17 rfl 2 rfl ?_
    refine q_xiald 19 d_Fo_isPartAt_18 rfl (by decide) (fun _ => rfl) h (fun w3 ew3 h => ?_)
    refine q_xcallP (as := [.int a3, .int w3]) (rest := []) 22 h (fun z e => t_D_hasBit e) (q_invSN (Y := m_D_hasBit) d_Fo_isPartAt_19 ml_Fo_47 ms_D_hasBit k_D_hasBit.2 k_D_hasBit.1 (by decide) n_D_hasBit) k_D_hasBit (q_ro (by decide) (by decide)) (Nat.le_of_ble_eq_true rfl) d_Fo_isPartAt_19 rfl rfl rfl (fun w4 ew4 h => ?_)
    refine q_istore (lv' := [(5, .int w4), (4, .int w2), (0, .ref 24), (1, .int a1), (2, .int a2), (3, .int a3)]) 24 d_Fo_isPartAt_22 rfl (by decide) rfl ?_
    refine q_iloadn 25 d_Fo_isPartAt_24 rfl 4 rfl ?_
    refine q_iconst (v := 3) 26 d_Fo_isPartAt_25 rfl (by decide) ?_
    refine q_aloadn 27 d_Fo_isPartAt_26 rfl 2 rfl ?_
    refine q_xget 30 d_Fo_isPartAt_27 rfl fl_Fo_21 (by decide) rfl rfl ?_
    refine q_iloadn 31 d_Fo_isPartAt_30 rfl 3 rfl ?_
    refine q_xiald 32 d_Fo_isPartAt_31 rfl (by decide) (fun _ => rfl) h (fun w5 ew5 h => ?_)
    refine q_iadd 33 d_Fo_isPartAt_32 rfl ?_
    refine q_xcallP (as := [.int a2, .int (3 + w5)]) (rest := []) 36 h (fun z e => t_D_hasBit e) (q_invSN (Y := m_D_hasBit) d_Fo_isPartAt_33 ml_Fo_47 ms_D_hasBit k_D_hasBit.2 k_D_hasBit.1 (by decide) n_D_hasBit) k_D_hasBit (q_ro (by decide) (by decide)) (Nat.le_of_ble_eq_true rfl) d_Fo_isPartAt_33 rfl rfl rfl (fun w6 ew6 h => ?_)
    refine q_istore (lv' := [(6, .int w6), (5, .int w4), (4, .int w2), (0, .ref 24), (1, .int a1), (2, .int a2), (3, .int a3)]) 38 d_Fo_isPartAt_36 rfl (by decide) rfl ?_
    refine q_aloadn 39 d_Fo_isPartAt_38 rfl 3 rfl ?_
    refine q_xget 42 d_Fo_isPartAt_39 rfl fl_Fo_9 (by decide) rfl rfl ?_
    refine q_iloadn 43 d_Fo_isPartAt_42 rfl 4 rfl ?_
    refine q_xiald 44 d_Fo_isPartAt_43 rfl (by decide) (fun _ => rfl) h (fun w7 ew7 h => ?_)
    refine q_ite h (fun c8 h => ?_) (fun c8 h => ?_)
    · refine q_lookup 180 d_Fo_isPartAt_44 (by decide) (by rw [c8] <;> decide +kernel) (by decide) ?_
      refine q_iload 182 d_Fo_isPartAt_180 rfl 1 rfl ?_
      refine q_ite h (fun c9 h => ?_) (fun c9 h => ?_)
      · refine q_if_ne_t 189 d_Fo_isPartAt_182 (by decide) c9 ?_
        refine q_iconst (v := 0) 190 d_Fo_isPartAt_189 rfl (by decide) ?_
        cases h
        exact q_zret d_Fo_isPartAt_190 rfl (Nat.zero_le _) (Nat.zero_le _)
      · refine q_if_ne_f 185 d_Fo_isPartAt_182 rfl 189 (by decide) (Classical.not_not.mp c9) ?_
        refine q_iconst (v := 1) 186 d_Fo_isPartAt_185 rfl (by decide) ?_
        refine q_goto 190 d_Fo_isPartAt_186 (by decide) ?_
        cases h
        exact q_zret d_Fo_isPartAt_190 rfl (Nat.zero_le _) (Nat.zero_le _)
    · refine q_ite h (fun c10 h => ?_) (fun c10 h => ?_)
      · refine q_lookup 191 d_Fo_isPartAt_44 (by decide) (by rw [c10] <;> decide +kernel) (by decide) ?_
        refine q_iload 193 d_Fo_isPartAt_191 rfl 2 rfl ?_
        refine q_ite h (fun c12 h => ?_) (fun c12 h => ?_)
        · refine q_if_eq_t 205 d_Fo_isPartAt_193 (by decide) c12 ?_
          refine q_iconst (v := 0) 206 d_Fo_isPartAt_205 rfl (by decide) ?_
          cases h
          exact q_zret d_Fo_isPartAt_206 rfl (Nat.zero_le _) (Nat.zero_le _)
        · refine q_if_eq_f 196 d_Fo_isPartAt_193 rfl 205 (by decide) c12 ?_
          refine q_iload 198 d_Fo_isPartAt_196 rfl 1 rfl ?_
          refine q_ite h (fun c11 h => ?_) (fun c11 h => ?_)
          · refine q_if_eq_t 205 d_Fo_isPartAt_198 (by decide) c11 ?_
            refine q_iconst (v := 0) 206 d_Fo_isPartAt_205 rfl (by decide) ?_
            cases h
            exact q_zret d_Fo_isPartAt_206 rfl (Nat.zero_le _) (Nat.zero_le _)
          · refine q_if_eq_f 201 d_Fo_isPartAt_198 rfl 205 (by decide) c11 ?_
            refine q_iconst (v := 1) 202 d_Fo_isPartAt_201 rfl (by decide) ?_
            refine q_goto 206 d_Fo_isPartAt_202 (by decide) ?_
            cases h
            exact q_zret d_Fo_isPartAt_206 rfl (Nat.zero_le _) (Nat.zero_le _)
      · refine q_ite h (fun c13 h => ?_) (fun c13 h => ?_)
        · refine q_lookup 160 d_Fo_isPartAt_44 (by decide) (by rw [c13] <;> decide +kernel) (by decide) ?_
          refine q_iconst (v := 1) 161 d_Fo_isPartAt_160 rfl (by decide) ?_
          cases h
          exact q_zret d_Fo_isPartAt_161 rfl (Nat.zero_le _) (Nat.zero_le _)
        · refine q_ite h (fun c14 h => ?_) (fun c14 h => ?_)
          · refine q_lookup 223 d_Fo_isPartAt_44 (by decide) (by rw [c14] <;> decide +kernel) (by decide) ?_
            refine q_iload 225 d_Fo_isPartAt_223 rfl 2 rfl ?_
            refine q_ite h (fun c16 h => ?_) (fun c16 h => ?_)
            · refine q_if_eq_t 233 d_Fo_isPartAt_225 (by decide) c16 ?_
              refine q_iconst (v := 1) 234 d_Fo_isPartAt_233 rfl (by decide) ?_
              refine q_goto 238 d_Fo_isPartAt_234 (by decide) ?_
              cases h
              exact q_zret d_Fo_isPartAt_238 rfl (Nat.zero_le _) (Nat.zero_le _)
            · refine q_if_eq_f 228 d_Fo_isPartAt_225 rfl 233 (by decide) c16 ?_
              refine q_iload 230 d_Fo_isPartAt_228 rfl 1 rfl ?_
              refine q_ite h (fun c15 h => ?_) (fun c15 h => ?_)
              · refine q_if_eq_t 237 d_Fo_isPartAt_230 (by decide) c15 ?_
                refine q_iconst (v := 0) 238 d_Fo_isPartAt_237 rfl (by decide) ?_
                cases h
                exact q_zret d_Fo_isPartAt_238 rfl (Nat.zero_le _) (Nat.zero_le _)
              · refine q_if_eq_f 233 d_Fo_isPartAt_230 rfl 237 (by decide) c15 ?_
                refine q_iconst (v := 1) 234 d_Fo_isPartAt_233 rfl (by decide) ?_
                refine q_goto 238 d_Fo_isPartAt_234 (by decide) ?_
                cases h
                exact q_zret d_Fo_isPartAt_238 rfl (Nat.zero_le _) (Nat.zero_le _)
          · refine q_ite h (fun c17 h => ?_) (fun c17 h => ?_)
            · refine q_lookup 242 d_Fo_isPartAt_44 (by decide) (by rw [c17] <;> decide +kernel) (by decide) ?_
              refine q_iload 244 d_Fo_isPartAt_242 rfl 1 rfl ?_
              refine q_ite h (fun c19 h => ?_) (fun c19 h => ?_)
              · refine q_if_ne_t 252 d_Fo_isPartAt_244 (by decide) c19 ?_
                refine q_iconst (v := 1) 253 d_Fo_isPartAt_252 rfl (by decide) ?_
                refine q_goto 257 d_Fo_isPartAt_253 (by decide) ?_
                cases h
                exact q_zret d_Fo_isPartAt_257 rfl (Nat.zero_le _) (Nat.zero_le _)
              · refine q_if_ne_f 247 d_Fo_isPartAt_244 rfl 252 (by decide) (Classical.not_not.mp c19) ?_
                refine q_iload 249 d_Fo_isPartAt_247 rfl 0 rfl ?_
                refine q_ite h (fun c18 h => ?_) (fun c18 h => ?_)
                · refine q_if_eq_t 256 d_Fo_isPartAt_249 (by decide) c18 ?_
                  refine q_iconst (v := 0) 257 d_Fo_isPartAt_256 rfl (by decide) ?_
                  cases h
                  exact q_zret d_Fo_isPartAt_257 rfl (Nat.zero_le _) (Nat.zero_le _)
                · refine q_if_eq_f 252 d_Fo_isPartAt_249 rfl 256 (by decide) c18 ?_
                  refine q_iconst (v := 1) 253 d_Fo_isPartAt_252 rfl (by decide) ?_
                  refine q_goto 257 d_Fo_isPartAt_253 (by decide) ?_
                  cases h
                  exact q_zret d_Fo_isPartAt_257 rfl (Nat.zero_le _) (Nat.zero_le _)
            · refine q_ite h (fun c20 h => ?_) (fun c20 h => ?_)
              · refine q_lookup 258 d_Fo_isPartAt_44 (by decide) (by rw [c20] <;> decide +kernel) (by decide) ?_
                refine q_iload 260 d_Fo_isPartAt_258 rfl 1 rfl ?_
                refine q_ite h (fun c22 h => ?_) (fun c22 h => ?_)
                · refine q_if_eq_t 272 d_Fo_isPartAt_260 (by decide) c22 ?_
                  refine q_iconst (v := 0) 273 d_Fo_isPartAt_272 rfl (by decide) ?_
                  cases h
                  exact q_zret d_Fo_isPartAt_273 rfl (Nat.zero_le _) (Nat.zero_le _)
                · refine q_if_eq_f 263 d_Fo_isPartAt_260 rfl 272 (by decide) c22 ?_
                  refine q_iload 265 d_Fo_isPartAt_263 rfl 0 rfl ?_
                  refine q_ite h (fun c21 h => ?_) (fun c21 h => ?_)
                  · refine q_if_eq_t 272 d_Fo_isPartAt_265 (by decide) c21 ?_
                    refine q_iconst (v := 0) 273 d_Fo_isPartAt_272 rfl (by decide) ?_
                    cases h
                    exact q_zret d_Fo_isPartAt_273 rfl (Nat.zero_le _) (Nat.zero_le _)
                  · refine q_if_eq_f 268 d_Fo_isPartAt_265 rfl 272 (by decide) c21 ?_
                    refine q_iconst (v := 1) 269 d_Fo_isPartAt_268 rfl (by decide) ?_
                    refine q_goto 273 d_Fo_isPartAt_269 (by decide) ?_
                    cases h
                    exact q_zret d_Fo_isPartAt_273 rfl (Nat.zero_le _) (Nat.zero_le _)
              · refine q_ite h (fun c23 h => ?_) (fun c23 h => ?_)
                · refine q_lookup 295 d_Fo_isPartAt_44 (by decide) (by rw [c23] <;> decide +kernel) (by decide) ?_
                  refine q_iload 297 d_Fo_isPartAt_295 rfl 1 rfl ?_
                  refine q_ite h (fun c26 h => ?_) (fun c26 h => ?_)
                  · refine q_if_eq_t 314 d_Fo_isPartAt_297 (by decide) c26 ?_
                    refine q_iconst (v := 0) 315 d_Fo_isPartAt_314 rfl (by decide) ?_
                    cases h
                    exact q_zret d_Fo_isPartAt_315 rfl (Nat.zero_le _) (Nat.zero_le _)
                  · refine q_if_eq_f 300 d_Fo_isPartAt_297 rfl 314 (by decide) c26 ?_
                    refine q_iload 302 d_Fo_isPartAt_300 rfl 2 rfl ?_
                    refine q_ite h (fun c25 h => ?_) (fun c25 h => ?_)
                    · refine q_if_ne_t 310 d_Fo_isPartAt_302 (by decide) c25 ?_
                      refine q_iconst (v := 1) 311 d_Fo_isPartAt_310 rfl (by decide) ?_
                      refine q_goto 315 d_Fo_isPartAt_311 (by decide) ?_
                      cases h
                      exact q_zret d_Fo_isPartAt_315 rfl (Nat.zero_le _) (Nat.zero_le _)
                    · refine q_if_ne_f 305 d_Fo_isPartAt_302 rfl 310 (by decide) (Classical.not_not.mp c25) ?_
                      refine q_iload 307 d_Fo_isPartAt_305 rfl 0 rfl ?_
                      refine q_ite h (fun c24 h => ?_) (fun c24 h => ?_)
                      · refine q_if_eq_t 314 d_Fo_isPartAt_307 (by decide) c24 ?_
                        refine q_iconst (v := 0) 315 d_Fo_isPartAt_314 rfl (by decide) ?_
                        cases h
                        exact q_zret d_Fo_isPartAt_315 rfl (Nat.zero_le _) (Nat.zero_le _)
                      · refine q_if_eq_f 310 d_Fo_isPartAt_307 rfl 314 (by decide) c24 ?_
                        refine q_iconst (v := 1) 311 d_Fo_isPartAt_310 rfl (by decide) ?_
                        refine q_goto 315 d_Fo_isPartAt_311 (by decide) ?_
                        cases h
                        exact q_zret d_Fo_isPartAt_315 rfl (Nat.zero_le _) (Nat.zero_le _)
                · refine q_ite h (fun c27 h => ?_) (fun c27 h => ?_)
                  · refine q_lookup 274 d_Fo_isPartAt_44 (by decide) (by rw [c27] <;> decide +kernel) (by decide) ?_
                    refine q_iload 276 d_Fo_isPartAt_274 rfl 1 rfl ?_
                    refine q_ite h (fun c30 h => ?_) (fun c30 h => ?_)
                    · refine q_if_ne_t 289 d_Fo_isPartAt_276 (by decide) c30 ?_
                      refine q_iconst (v := 1) 290 d_Fo_isPartAt_289 rfl (by decide) ?_
                      refine q_goto 294 d_Fo_isPartAt_290 (by decide) ?_
                      cases h
                      exact q_zret d_Fo_isPartAt_294 rfl (Nat.zero_le _) (Nat.zero_le _)
                    · refine q_if_ne_f 279 d_Fo_isPartAt_276 rfl 289 (by decide) (Classical.not_not.mp c30) ?_
                      refine q_iload 281 d_Fo_isPartAt_279 rfl 2 rfl ?_
                      refine q_ite h (fun c29 h => ?_) (fun c29 h => ?_)
                      · refine q_if_eq_t 293 d_Fo_isPartAt_281 (by decide) c29 ?_
                        refine q_iconst (v := 0) 294 d_Fo_isPartAt_293 rfl (by decide) ?_
                        cases h
                        exact q_zret d_Fo_isPartAt_294 rfl (Nat.zero_le _) (Nat.zero_le _)
                      · refine q_if_eq_f 284 d_Fo_isPartAt_281 rfl 293 (by decide) c29 ?_
                        refine q_iload 286 d_Fo_isPartAt_284 rfl 0 rfl ?_
                        refine q_ite h (fun c28 h => ?_) (fun c28 h => ?_)
                        · refine q_if_eq_t 293 d_Fo_isPartAt_286 (by decide) c28 ?_
                          refine q_iconst (v := 0) 294 d_Fo_isPartAt_293 rfl (by decide) ?_
                          cases h
                          exact q_zret d_Fo_isPartAt_294 rfl (Nat.zero_le _) (Nat.zero_le _)
                        · refine q_if_eq_f 289 d_Fo_isPartAt_286 rfl 293 (by decide) c28 ?_
                          refine q_iconst (v := 1) 290 d_Fo_isPartAt_289 rfl (by decide) ?_
                          refine q_goto 294 d_Fo_isPartAt_290 (by decide) ?_
                          cases h
                          exact q_zret d_Fo_isPartAt_294 rfl (Nat.zero_le _) (Nat.zero_le _)
                  · refine q_ite h (fun c31 h => ?_) (fun c31 h => ?_)
                    · refine q_lookup 239 d_Fo_isPartAt_44 (by decide) (by rw [c31] <;> decide +kernel) (by decide) ?_
                      refine q_iload 241 d_Fo_isPartAt_239 rfl 0 rfl ?_
                      cases h
                      exact q_zret d_Fo_isPartAt_241 rfl (Nat.zero_le _) (Nat.zero_le _)
                    · refine q_ite h (fun c32 h => ?_) (fun c32 h => ?_)
                      · refine q_lookup 162 d_Fo_isPartAt_44 (by decide) (by rw [c32] <;> decide +kernel) (by decide) ?_
                        refine q_iloadn 163 d_Fo_isPartAt_162 rfl 5 rfl ?_
                        refine q_iconst (v := 0) 164 d_Fo_isPartAt_163 rfl (by decide) ?_
                        refine q_xcallP (as := [.int a2, .int 0]) (rest := []) 167 h (fun z e => t_D_hasBit e) (q_invSN (Y := m_D_hasBit) d_Fo_isPartAt_164 ml_Fo_47 ms_D_hasBit k_D_hasBit.2 k_D_hasBit.1 (by decide) n_D_hasBit) k_D_hasBit (q_ro (by decide) (by decide)) (Nat.le_of_ble_eq_true rfl) d_Fo_isPartAt_164 rfl rfl rfl (fun w33 ew33 h => ?_)
                        cases h
                        exact q_zret d_Fo_isPartAt_167 rfl (Nat.zero_le _) (Nat.zero_le _)
                      · refine q_ite h (fun c34 h => ?_) (fun c34 h => ?_)
                        · refine q_lookup 168 d_Fo_isPartAt_44 (by decide) (by rw [c34] <;> decide +kernel) (by decide) ?_
                          refine q_iloadn 169 d_Fo_isPartAt_168 rfl 5 rfl ?_
                          refine q_iconst (v := 1) 170 d_Fo_isPartAt_169 rfl (by decide) ?_
                          refine q_xcallP (as := [.int a2, .int 1]) (rest := []) 173 h (fun z e => t_D_hasBit e) (q_invSN (Y := m_D_hasBit) d_Fo_isPartAt_170 ml_Fo_47 ms_D_hasBit k_D_hasBit.2 k_D_hasBit.1 (by decide) n_D_hasBit) k_D_hasBit (q_ro (by decide) (by decide)) (Nat.le_of_ble_eq_true rfl) d_Fo_isPartAt_170 rfl rfl rfl (fun w35 ew35 h => ?_)
                          cases h
                          exact q_zret d_Fo_isPartAt_173 rfl (Nat.zero_le _) (Nat.zero_le _)
                        · refine q_ite h (fun c36 h => ?_) (fun c36 h => ?_)
                          · refine q_lookup 174 d_Fo_isPartAt_44 (by decide) (by rw [c36] <;> decide +kernel) (by decide) ?_
                            refine q_iloadn 175 d_Fo_isPartAt_174 rfl 5 rfl ?_
                            refine q_iconst (v := 2) 176 d_Fo_isPartAt_175 rfl (by decide) ?_
                            refine q_xcallP (as := [.int a2, .int 2]) (rest := []) 179 h (fun z e => t_D_hasBit e) (q_invSN (Y := m_D_hasBit) d_Fo_isPartAt_176 ml_Fo_47 ms_D_hasBit k_D_hasBit.2 k_D_hasBit.1 (by decide) n_D_hasBit) k_D_hasBit (q_ro (by decide) (by decide)) (Nat.le_of_ble_eq_true rfl) d_Fo_isPartAt_176 rfl rfl rfl (fun w37 ew37 h => ?_)
                            cases h
                            exact q_zret d_Fo_isPartAt_179 rfl (Nat.zero_le _) (Nat.zero_le _)
                          · refine q_ite h (fun c38 h => ?_) (fun c38 h => ?_)
                            · refine q_lookup 207 d_Fo_isPartAt_44 (by decide) (by rw [c38] <;> decide +kernel) (by decide) ?_
                              refine q_iload 209 d_Fo_isPartAt_207 rfl 2 rfl ?_
                              refine q_ite h (fun c40 h => ?_) (fun c40 h => ?_)
                              · refine q_if_ne_t 217 d_Fo_isPartAt_209 (by decide) c40 ?_
                                refine q_iconst (v := 1) 218 d_Fo_isPartAt_217 rfl (by decide) ?_
                                refine q_goto 222 d_Fo_isPartAt_218 (by decide) ?_
                                cases h
                                exact q_zret d_Fo_isPartAt_222 rfl (Nat.zero_le _) (Nat.zero_le _)
                              · refine q_if_ne_f 212 d_Fo_isPartAt_209 rfl 217 (by decide) (Classical.not_not.mp c40) ?_
                                refine q_iload 214 d_Fo_isPartAt_212 rfl 1 rfl ?_
                                refine q_ite h (fun c39 h => ?_) (fun c39 h => ?_)
                                · refine q_if_eq_t 221 d_Fo_isPartAt_214 (by decide) c39 ?_
                                  refine q_iconst (v := 0) 222 d_Fo_isPartAt_221 rfl (by decide) ?_
                                  cases h
                                  exact q_zret d_Fo_isPartAt_222 rfl (Nat.zero_le _) (Nat.zero_le _)
                                · refine q_if_eq_f 217 d_Fo_isPartAt_214 rfl 221 (by decide) c39 ?_
                                  refine q_iconst (v := 1) 218 d_Fo_isPartAt_217 rfl (by decide) ?_
                                  refine q_goto 222 d_Fo_isPartAt_218 (by decide) ?_
                                  cases h
                                  exact q_zret d_Fo_isPartAt_222 rfl (Nat.zero_le _) (Nat.zero_le _)
                            · refine q_lookup (off := 272) 316 d_Fo_isPartAt_44 (by decide) (by rw [lv_osw c8 (by decide : (33 : Int32).toInt = 33), lv_osw c10 (by decide : (38 : Int32).toInt = 38), lv_osw c13 (by decide : (49 : Int32).toInt = 49), lv_osw c14 (by decide : (62 : Int32).toInt = 62), lv_osw c17 (by decide : (70 : Int32).toInt = 70), lv_osw c20 (by decide : (71 : Int32).toInt = 71), lv_osw c23 (by decide : (82 : Int32).toInt = 82), lv_osw c27 (by decide : (85 : Int32).toInt = 85), lv_osw c31 (by decide : (88 : Int32).toInt = 88), lv_osw c32 (by decide : (97 : Int32).toInt = 97), lv_osw c34 (by decide : (98 : Int32).toInt = 98), lv_osw c36 (by decide : (99 : Int32).toInt = 99), lv_osw c38 (by decide : (124 : Int32).toInt = 124)] <;> rfl) (by decide) ?_
                              refine q_iconst (v := 0) 317 d_Fo_isPartAt_316 rfl (by decide) ?_
                              cases h
                              exact q_zret d_Fo_isPartAt_317 rfl (Nat.zero_le _) (Nat.zero_le _)
