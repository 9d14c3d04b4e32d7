set_option maxHeartbeats 4000000 in
set_option maxRecDepth 100000 in
theorem t_Mo_takeOut_L149 {E : q_E} {c d : Nat} {ρ : q_W} {K25 : q_W → Int32 → Option q_W} (hK25 : ∀ x v1, K25 x v1 = some ρ → AW E (q_rm 3) m_Mo_takeOut (q_cells E c d x) 0 0 25 [(0, .ref 32), (1, .int v1)] [] (q_rV E c d ρ)) : ∀ (n : Nat) (x : q_W) (v1 : Int32) (v2 : Int32), f_Mo_takeOut_L149 K25 n x v1 v2 = some ρ → AW E (q_rm 3) m_Mo_takeOut (q_cells E c d x) 0 0 149 [(0, .ref 32), (1, .int v1), (2, .int v2)] [] (q_rV E c d ρ) := by
  intro n
  induction n with
  | zero =>
    intro x v1 v2 h
    have h : (none : Option q_W) = some ρ := h
    cases h
  | succ n ih =>
    intro x v1 v2 h
    unfold f_Mo_takeOut_L149 at h
    refine q_iloadn 150 d_Mo_takeOut_149 rfl 2 rfl ?_
    refine q_aloadn 151 d_Mo_takeOut_150 rfl 0 rfl ?_
    refine q_xcallP (as := [.ref 32]) (rest := [.int v2]) 154 h (fun z e => t_Mo_count e) (q_xinvV (Y := m_Mo_count) d_Mo_takeOut_151 ml_Mo_159 ms_Mo_count.1 ms_Mo_count.2 k_Mo_count.1 (by decide) n_Mo_count (by decide) rfl rfl) k_Mo_count (q_ro (by decide) (by decide)) (Nat.le_of_ble_eq_true rfl) d_Mo_takeOut_151 rfl rfl rfl (fun w10 ew10 h => ?_)
    refine q_ite h (fun c16 h => ?_) (fun c16 h => ?_)
    · refine q_icmp_ge_t 189 d_Mo_takeOut_154 (by decide) c16 ?_
      refine q_goto 25 d_Mo_takeOut_189 (by decide) ?_
      refine q_sub (lv' := [(0, .ref 32), (1, .int v1)]) [0, 1] rfl ?_
      exact hK25 _ _ h
    · refine q_icmp_ge_f 157 d_Mo_takeOut_154 rfl 189 (by decide) c16 ?_
      refine q_aloadn 158 d_Mo_takeOut_157 rfl 0 rfl ?_
      refine q_xget 161 d_Mo_takeOut_158 rfl fl_Mo_65 (by decide) rfl rfl ?_
      refine q_iloadn 162 d_Mo_takeOut_161 rfl 2 rfl ?_
      refine q_xzald 163 d_Mo_takeOut_162 rfl (by decide) (fun _ => rfl) h (fun w11 ew11 h => ?_)
      refine q_ite h (fun c15 h => ?_) (fun c15 h => ?_)
      · refine q_if_eq_t 183 d_Mo_takeOut_163 (by decide) c15 ?_
        refine q_iinc (v := (v2 + 1)) (lv' := [(2, .int (v2 + 1)), (0, .ref 32), (1, .int v1)]) 186 d_Mo_takeOut_183 rfl 2 rfl (q_ai (by decide)) (by decide) rfl ?_
        refine q_goto 149 d_Mo_takeOut_186 (by decide) ?_
        refine q_sub (lv' := [(0, .ref 32), (1, .int v1), (2, .int (v2 + 1))]) [1, 2, 0] rfl ?_
        exact ih _ _ _ h
      · refine q_if_eq_f 166 d_Mo_takeOut_163 rfl 183 (by decide) c15 ?_
        refine q_aloadn 167 d_Mo_takeOut_166 rfl 0 rfl ?_
        refine q_iloadn 168 d_Mo_takeOut_167 rfl 2 rfl ?_
        refine q_xcallP (as := [.ref 32, .int v2]) (rest := []) 171 h (fun z e => t_Mo_leadsToOne e) (q_xinvV (Y := m_Mo_leadsToOne) d_Mo_takeOut_168 ml_Mo_178 ms_Mo_leadsToOne.1 ms_Mo_leadsToOne.2 k_Mo_leadsToOne.1 (by decide) n_Mo_leadsToOne (by decide) rfl rfl) k_Mo_leadsToOne (q_ro (by decide) (by decide)) (Nat.le_of_ble_eq_true rfl) d_Mo_takeOut_168 rfl rfl rfl (fun w12 ew12 h => ?_)
        refine q_ite h (fun c14 h => ?_) (fun c14 h => ?_)
        · refine q_if_ne_t 183 d_Mo_takeOut_171 (by decide) c14 ?_
          refine q_iinc (v := (v2 + 1)) (lv' := [(2, .int (v2 + 1)), (0, .ref 32), (1, .int v1)]) 186 d_Mo_takeOut_183 rfl 2 rfl (q_ai (by decide)) (by decide) rfl ?_
          refine q_goto 149 d_Mo_takeOut_186 (by decide) ?_
          refine q_sub (lv' := [(0, .ref 32), (1, .int v1), (2, .int (v2 + 1))]) [1, 2, 0] rfl ?_
          exact ih _ _ _ h
        · refine q_if_ne_f 174 d_Mo_takeOut_171 rfl 183 (by decide) (Classical.not_not.mp c14) ?_
          refine q_aloadn 175 d_Mo_takeOut_174 rfl 0 rfl ?_
          refine q_xget 178 d_Mo_takeOut_175 rfl fl_Mo_65 (by decide) rfl rfl ?_
          refine q_iloadn 179 d_Mo_takeOut_178 rfl 2 rfl ?_
          refine q_iconst (v := 0) 180 d_Mo_takeOut_179 rfl (by decide) ?_
          refine q_xzast 181 d_Mo_takeOut_180 rfl (by decide) (fun _ => rfl) h (fun x13 ex13 h => ?_)
          refine q_iconst (v := 1) 182 d_Mo_takeOut_181 rfl (by decide) ?_
          refine q_istoren (lv' := [(1, .int 1), (0, .ref 32), (2, .int v2)]) 183 d_Mo_takeOut_182 rfl (by decide) rfl ?_
          refine q_iinc (v := (v2 + 1)) (lv' := [(2, .int (v2 + 1)), (1, .int 1), (0, .ref 32)]) 186 d_Mo_takeOut_183 rfl 2 rfl (q_ai (by decide)) (by decide) rfl ?_
          refine q_goto 149 d_Mo_takeOut_186 (by decide) ?_
          refine q_sub (lv' := [(0, .ref 32), (1, .int 1), (2, .int (v2 + 1))]) [2, 1, 0] rfl ?_
          exact ih _ _ _ h
set_option maxHeartbeats 4000000 in
set_option maxRecDepth 100000 in
theorem t_Mo_takeOut_L117 {E : q_E} {c d : Nat} {ρ : q_W} {K25 : q_W → Int32 → Option q_W} {E117 : q_W → Int32 → Option q_W} (hK25 : ∀ x v1, K25 x v1 = some ρ → AW E (q_rm 3) m_Mo_takeOut (q_cells E c d x) 0 0 25 [(0, .ref 32), (1, .int v1)] [] (q_rV E c d ρ)) (hE117 : ∀ x u1, E117 x u1 = some ρ → AW E (q_rm 3) m_Mo_takeOut (q_cells E c d x) 0 0 143 [(0, .ref 32), (1, .int u1)] [] (q_rV E c d ρ)) : ∀ (n : Nat) (x : q_W) (v1 : Int32) (v2 : Int32), f_Mo_takeOut_L117 K25 E117 n x v1 v2 = some ρ → AW E (q_rm 3) m_Mo_takeOut (q_cells E c d x) 0 0 117 [(0, .ref 32), (1, .int v1), (2, .int v2)] [] (q_rV E c d ρ) := by
  intro n
  induction n with
  | zero =>
    intro x v1 v2 h
    have h : (none : Option q_W) = some ρ := h
    cases h
  | succ n ih =>
    intro x v1 v2 h
    unfold f_Mo_takeOut_L117 at h
    refine q_iloadn 118 d_Mo_takeOut_117 rfl 2 rfl ?_
    refine q_aloadn 119 d_Mo_takeOut_118 rfl 0 rfl ?_
    refine q_xcallP (as := [.ref 32]) (rest := [.int v2]) 122 h (fun z e => t_Mo_count e) (q_xinvV (Y := m_Mo_count) d_Mo_takeOut_119 ml_Mo_159 ms_Mo_count.1 ms_Mo_count.2 k_Mo_count.1 (by decide) n_Mo_count (by decide) rfl rfl) k_Mo_count (q_ro (by decide) (by decide)) (Nat.le_of_ble_eq_true rfl) d_Mo_takeOut_119 rfl rfl rfl (fun w17 ew17 h => ?_)
    refine q_ite h (fun c20 h => ?_) (fun c20 h => ?_)
    · refine q_icmp_ge_t 143 d_Mo_takeOut_122 (by decide) c20 ?_
      refine q_sub (lv' := [(0, .ref 32), (1, .int v1)]) [0, 1] rfl ?_
      exact hE117 _ _ h
    · refine q_icmp_ge_f 125 d_Mo_takeOut_122 rfl 143 (by decide) c20 ?_
      refine q_aloadn 126 d_Mo_takeOut_125 rfl 0 rfl ?_
      refine q_xget 129 d_Mo_takeOut_126 rfl fl_Mo_68 (by decide) rfl rfl ?_
      refine q_iloadn 130 d_Mo_takeOut_129 rfl 2 rfl ?_
      refine q_aloadn 131 d_Mo_takeOut_130 rfl 0 rfl ?_
      refine q_xget 134 d_Mo_takeOut_131 rfl fl_Mo_65 (by decide) rfl rfl ?_
      refine q_iloadn 135 d_Mo_takeOut_134 rfl 2 rfl ?_
      refine q_xzald 136 d_Mo_takeOut_135 rfl (by decide) (fun _ => rfl) h (fun w18 ew18 h => ?_)
      refine q_xzast 137 d_Mo_takeOut_136 rfl (by decide) (fun _ => rfl) h (fun x19 ex19 h => ?_)
      refine q_iinc (v := (v2 + 1)) (lv' := [(2, .int (v2 + 1)), (0, .ref 32), (1, .int v1)]) 140 d_Mo_takeOut_137 rfl 2 rfl (q_ai (by decide)) (by decide) rfl ?_
      refine q_goto 117 d_Mo_takeOut_140 (by decide) ?_
      refine q_sub (lv' := [(0, .ref 32), (1, .int v1), (2, .int (v2 + 1))]) [1, 2, 0] rfl ?_
      exact ih _ _ _ h
set_option maxHeartbeats 4000000 in
set_option maxRecDepth 100000 in
theorem t_Mo_takeOut_L48 {E : q_E} {c d : Nat} {ρ : q_W} {K25 : q_W → Int32 → Option q_W} {K33 : q_W → Int32 → Int32 → Option q_W} (hK25 : ∀ x v1, K25 x v1 = some ρ → AW E (q_rm 3) m_Mo_takeOut (q_cells E c d x) 0 0 25 [(0, .ref 32), (1, .int v1)] [] (q_rV E c d ρ)) (hK33 : ∀ x v1 v2, K33 x v1 v2 = some ρ → AW E (q_rm 3) m_Mo_takeOut (q_cells E c d x) 0 0 33 [(0, .ref 32), (1, .int v1), (2, .int v2)] [] (q_rV E c d ρ)) : ∀ (n : Nat) (x : q_W) (v1 : Int32) (v2 : Int32) (v3 : Int32), f_Mo_takeOut_L48 K25 K33 n x v1 v2 v3 = some ρ → AW E (q_rm 3) m_Mo_takeOut (q_cells E c d x) 0 0 48 [(0, .ref 32), (1, .int v1), (2, .int v2), (3, .int v3)] [] (q_rV E c d ρ) := by
  intro n
  induction n with
  | zero =>
    intro x v1 v2 v3 h
    have h : (none : Option q_W) = some ρ := h
    cases h
  | succ n ih =>
    intro x v1 v2 v3 h
    unfold f_Mo_takeOut_L48 at h
    refine q_iloadn 49 d_Mo_takeOut_48 rfl 3 rfl ?_
    refine q_aloadn 50 d_Mo_takeOut_49 rfl 0 rfl ?_
    refine q_xcallP (as := [.ref 32]) (rest := [.int v3]) 53 h (fun z e => t_Mo_count e) (q_xinvV (Y := m_Mo_count) d_Mo_takeOut_50 ml_Mo_159 ms_Mo_count.1 ms_Mo_count.2 k_Mo_count.1 (by decide) n_Mo_count (by decide) rfl rfl) k_Mo_count (q_ro (by decide) (by decide)) (Nat.le_of_ble_eq_true rfl) d_Mo_takeOut_50 rfl rfl rfl (fun w21 ew21 h => ?_)
    refine q_ite h (fun c29 h => ?_) (fun c29 h => ?_)
    · refine q_icmp_ge_t 109 d_Mo_takeOut_53 (by decide) c29 ?_
      refine q_iinc (v := (v2 + 1)) (lv' := [(2, .int (v2 + 1)), (0, .ref 32), (1, .int v1), (3, .int v3)]) 112 d_Mo_takeOut_109 rfl 2 rfl (q_ai (by decide)) (by decide) rfl ?_
      refine q_goto 33 d_Mo_takeOut_112 (by decide) ?_
      refine q_sub (lv' := [(0, .ref 32), (1, .int v1), (2, .int (v2 + 1))]) [1, 2, 0] rfl ?_
      exact hK33 _ _ _ h
    · refine q_icmp_ge_f 56 d_Mo_takeOut_53 rfl 109 (by decide) c29 ?_
      refine q_aloadn 57 d_Mo_takeOut_56 rfl 0 rfl ?_
      refine q_xget 60 d_Mo_takeOut_57 rfl fl_Mo_65 (by decide) rfl rfl ?_
      refine q_iloadn 61 d_Mo_takeOut_60 rfl 3 rfl ?_
      refine q_xzald 62 d_Mo_takeOut_61 rfl (by decide) (fun _ => rfl) h (fun w22 ew22 h => ?_)
      refine q_ite h (fun c28 h => ?_) (fun c28 h => ?_)
      · refine q_if_eq_t 103 d_Mo_takeOut_62 (by decide) c28 ?_
        refine q_iinc (v := (v3 + 1)) (lv' := [(3, .int (v3 + 1)), (0, .ref 32), (1, .int v1), (2, .int v2)]) 106 d_Mo_takeOut_103 rfl 3 rfl (q_ai (by decide)) (by decide) rfl ?_
        refine q_goto 48 d_Mo_takeOut_106 (by decide) ?_
        refine q_sub (lv' := [(0, .ref 32), (1, .int v1), (2, .int v2), (3, .int (v3 + 1))]) [1, 2, 3, 0] rfl ?_
        exact ih _ _ _ _ h
      · refine q_if_eq_f 65 d_Mo_takeOut_62 rfl 103 (by decide) c28 ?_
        refine q_aloadn 66 d_Mo_takeOut_65 rfl 0 rfl ?_
        refine q_xget 69 d_Mo_takeOut_66 rfl fl_Mo_56 (by decide) rfl rfl ?_
        refine q_iloadn 70 d_Mo_takeOut_69 rfl 3 rfl ?_
        refine q_xiald 71 d_Mo_takeOut_70 rfl (by decide) (fun _ => rfl) h (fun w23 ew23 h => ?_)
        refine q_iloadn 72 d_Mo_takeOut_71 rfl 2 rfl ?_
        refine q_ishr 73 d_Mo_takeOut_72 rfl ?_
        refine q_iconst (v := 1) 74 d_Mo_takeOut_73 rfl (by decide) ?_
        refine q_iand 75 d_Mo_takeOut_74 rfl ?_
        refine q_iconst (v := 1) 76 d_Mo_takeOut_75 rfl (by decide) ?_
        refine q_ite h (fun c27 h => ?_) (fun c27 h => ?_)
        · refine q_icmp_ne_t 103 d_Mo_takeOut_76 (by decide) c27 ?_
          refine q_iinc (v := (v3 + 1)) (lv' := [(3, .int (v3 + 1)), (0, .ref 32), (1, .int v1), (2, .int v2)]) 106 d_Mo_takeOut_103 rfl 3 rfl (q_ai (by decide)) (by decide) rfl ?_
          refine q_goto 48 d_Mo_takeOut_106 (by decide) ?_
          refine q_sub (lv' := [(0, .ref 32), (1, .int v1), (2, .int v2), (3, .int (v3 + 1))]) [1, 2, 3, 0] rfl ?_
          exact ih _ _ _ _ h
        · refine q_icmp_ne_f 79 d_Mo_takeOut_76 rfl 103 (by decide) (Classical.not_not.mp c27) ?_
          refine q_aloadn 80 d_Mo_takeOut_79 rfl 0 rfl ?_
          refine q_xget 83 d_Mo_takeOut_80 rfl fl_Mo_74 (by decide) rfl rfl ?_
          refine q_sipush (v := 256) 86 d_Mo_takeOut_83 rfl (by decide) ?_
          refine q_iloadn 87 d_Mo_takeOut_86 rfl 2 rfl ?_
          refine q_imul 88 d_Mo_takeOut_87 rfl ?_
          refine q_iloadn 89 d_Mo_takeOut_88 rfl 3 rfl ?_
          refine q_iadd 90 d_Mo_takeOut_89 rfl ?_
          refine q_xiald 91 d_Mo_takeOut_90 rfl (by decide) (fun _ => rfl) h (fun w24 ew24 h => ?_)
          refine q_ite h (fun c26 h => ?_) (fun c26 h => ?_)
          · refine q_if_ge_t 103 d_Mo_takeOut_91 (by decide) c26 ?_
            refine q_iinc (v := (v3 + 1)) (lv' := [(3, .int (v3 + 1)), (0, .ref 32), (1, .int v1), (2, .int v2)]) 106 d_Mo_takeOut_103 rfl 3 rfl (q_ai (by decide)) (by decide) rfl ?_
            refine q_goto 48 d_Mo_takeOut_106 (by decide) ?_
            refine q_sub (lv' := [(0, .ref 32), (1, .int v1), (2, .int v2), (3, .int (v3 + 1))]) [1, 2, 3, 0] rfl ?_
            exact ih _ _ _ _ h
          · refine q_if_ge_f 94 d_Mo_takeOut_91 rfl 103 (by decide) c26 ?_
            refine q_aloadn 95 d_Mo_takeOut_94 rfl 0 rfl ?_
            refine q_xget 98 d_Mo_takeOut_95 rfl fl_Mo_65 (by decide) rfl rfl ?_
            refine q_iloadn 99 d_Mo_takeOut_98 rfl 3 rfl ?_
            refine q_iconst (v := 0) 100 d_Mo_takeOut_99 rfl (by decide) ?_
            refine q_xzast 101 d_Mo_takeOut_100 rfl (by decide) (fun _ => rfl) h (fun x25 ex25 h => ?_)
            refine q_iconst (v := 1) 102 d_Mo_takeOut_101 rfl (by decide) ?_
            refine q_istoren (lv' := [(1, .int 1), (0, .ref 32), (2, .int v2), (3, .int v3)]) 103 d_Mo_takeOut_102 rfl (by decide) rfl ?_
            refine q_iinc (v := (v3 + 1)) (lv' := [(3, .int (v3 + 1)), (1, .int 1), (0, .ref 32), (2, .int v2)]) 106 d_Mo_takeOut_103 rfl 3 rfl (q_ai (by decide)) (by decide) rfl ?_
            refine q_goto 48 d_Mo_takeOut_106 (by decide) ?_
            refine q_sub (lv' := [(0, .ref 32), (1, .int 1), (2, .int v2), (3, .int (v3 + 1))]) [2, 1, 3, 0] rfl ?_
            exact ih _ _ _ _ h
set_option maxHeartbeats 4000000 in
set_option maxRecDepth 100000 in
theorem t_Mo_takeOut_L33 {E : q_E} {c d : Nat} {ρ : q_W} {K25 : q_W → Int32 → Option q_W} (hK25 : ∀ x v1, K25 x v1 = some ρ → AW E (q_rm 3) m_Mo_takeOut (q_cells E c d x) 0 0 25 [(0, .ref 32), (1, .int v1)] [] (q_rV E c d ρ)) : ∀ (n : Nat) (x : q_W) (v1 : Int32) (v2 : Int32), f_Mo_takeOut_L33 K25 n x v1 v2 = some ρ → AW E (q_rm 3) m_Mo_takeOut (q_cells E c d x) 0 0 33 [(0, .ref 32), (1, .int v1), (2, .int v2)] [] (q_rV E c d ρ) := by
  intro n
  induction n with
  | zero =>
    intro x v1 v2 h
    have h : (none : Option q_W) = some ρ := h
    cases h
  | succ n ih =>
    intro x v1 v2 h
    unfold f_Mo_takeOut_L33 at h
    refine q_iloadn 34 d_Mo_takeOut_33 rfl 2 rfl ?_
    refine q_aloadn 35 d_Mo_takeOut_34 rfl 0 rfl ?_
    refine q_xget 38 d_Mo_takeOut_35 rfl fl_Mo_156 (by decide) rfl rfl ?_
    refine q_ite h (fun c9 h => ?_) (fun c9 h => ?_)
    · refine q_icmp_ge_t 115 d_Mo_takeOut_38 (by decide) c9 ?_
      refine q_iconst (v := 0) 116 d_Mo_takeOut_115 rfl (by decide) ?_
      refine q_istoren (lv' := [(2, .int 0), (0, .ref 32), (1, .int v1)]) 117 d_Mo_takeOut_116 rfl (by decide) rfl ?_
      refine q_sub (lv' := [(0, .ref 32), (1, .int v1), (2, .int 0)]) [1, 2, 0] rfl ?_
      refine t_Mo_takeOut_L117 hK25 (fun x5 u6 h => ?_) q_fu _ _ _ h
      refine q_aloadn 144 d_Mo_takeOut_143 rfl 0 rfl ?_
      refine q_xcallV (as := [.ref 32]) (rest := []) 147 h (fun z e => t_Mo_noteSome e) (q_xinvV (Y := m_Mo_noteSome) d_Mo_takeOut_144 ml_Mo_175 ms_Mo_noteSome.1 ms_Mo_noteSome.2 k_Mo_noteSome.1 (by decide) n_Mo_noteSome (by decide) rfl rfl) k_Mo_noteSome (q_ro (by decide) (by decide)) (Nat.le_of_ble_eq_true rfl) d_Mo_takeOut_144 rfl rfl rfl (fun x7 ex7 h => ?_)
      refine q_iconst (v := 0) 148 d_Mo_takeOut_147 rfl (by decide) ?_
      refine q_istoren (lv' := [(2, .int 0), (0, .ref 32), (1, .int u6)]) 149 d_Mo_takeOut_148 rfl (by decide) rfl ?_
      refine q_sub (lv' := [(0, .ref 32), (1, .int u6), (2, .int 0)]) [1, 2, 0] rfl ?_
      exact t_Mo_takeOut_L149 hK25 q_fu _ _ _ h
    · refine q_icmp_ge_f 41 d_Mo_takeOut_38 rfl 115 (by decide) c9 ?_
      refine q_aloadn 42 d_Mo_takeOut_41 rfl 0 rfl ?_
      refine q_iloadn 43 d_Mo_takeOut_42 rfl 2 rfl ?_
      refine q_xcallV (as := [.ref 32, .int v2]) (rest := []) 46 h (fun z e => t_Mo_countSteps e) (q_xinvV (Y := m_Mo_countSteps) d_Mo_takeOut_43 ml_Mo_181 ms_Mo_countSteps.1 ms_Mo_countSteps.2 k_Mo_countSteps.1 (by decide) n_Mo_countSteps (by decide) rfl rfl) k_Mo_countSteps (q_ro (by decide) (by decide)) (Nat.le_of_ble_eq_true rfl) d_Mo_takeOut_43 rfl rfl rfl (fun x8 ex8 h => ?_)
      refine q_iconst (v := 0) 47 d_Mo_takeOut_46 rfl (by decide) ?_
      refine q_istoren (lv' := [(3, .int 0), (0, .ref 32), (1, .int v1), (2, .int v2)]) 48 d_Mo_takeOut_47 rfl (by decide) rfl ?_
      refine q_sub (lv' := [(0, .ref 32), (1, .int v1), (2, .int v2), (3, .int 0)]) [1, 2, 3, 0] rfl ?_
      exact t_Mo_takeOut_L48 hK25 ih q_fu _ _ _ _ h
set_option maxHeartbeats 4000000 in
set_option maxRecDepth 100000 in
theorem t_Mo_takeOut_L25 {E : q_E} {c d : Nat} {ρ : q_W} : ∀ (n : Nat) (x : q_W) (v1 : Int32), f_Mo_takeOut_L25  n x v1 = some ρ → AW E (q_rm 3) m_Mo_takeOut (q_cells E c d x) 0 0 25 [(0, .ref 32), (1, .int v1)] [] (q_rV E c d ρ) := by
  intro n
  induction n with
  | zero =>
    intro x v1 h
    have h : (none : Option q_W) = some ρ := h
    cases h
  | succ n ih =>
    intro x v1 h
    unfold f_Mo_takeOut_L25 at h
    refine q_iloadn 26 d_Mo_takeOut_25 rfl 1 rfl ?_
    refine q_ite h (fun c4 h => ?_) (fun c4 h => ?_)
    · refine q_if_eq_t 192 d_Mo_takeOut_26 (by decide) c4 ?_
      cases h
      exact q_vret d_Mo_takeOut_192 rfl (Nat.zero_le _) (Nat.zero_le _)
    · refine q_if_eq_f 29 d_Mo_takeOut_26 rfl 192 (by decide) c4 ?_
      refine q_iconst (v := 0) 30 d_Mo_takeOut_29 rfl (by decide) ?_
      refine q_istoren (lv' := [(1, .int 0), (0, .ref 32)]) 31 d_Mo_takeOut_30 rfl (by decide) rfl ?_
      refine q_iconst (v := 0) 32 d_Mo_takeOut_31 rfl (by decide) ?_
      refine q_istoren (lv' := [(2, .int 0), (1, .int 0), (0, .ref 32)]) 33 d_Mo_takeOut_32 rfl (by decide) rfl ?_
      refine q_sub (lv' := [(0, .ref 32), (1, .int 0), (2, .int 0)]) [2, 1, 0] rfl ?_
      exact t_Mo_takeOut_L33 ih q_fu _ _ _ h
set_option maxHeartbeats 4000000 in
set_option maxRecDepth 100000 in
theorem t_Mo_takeOut_L2 {E : q_E} {c d : Nat} {ρ : q_W} : ∀ (n : Nat) (x : q_W) (v1 : Int32), f_Mo_takeOut_L2  n x v1 = some ρ → AW E (q_rm 3) m_Mo_takeOut (q_cells E c d x) 0 0 2 [(0, .ref 32), (1, .int v1)] [] (q_rV E c d ρ) := by
  intro n
  induction n with
  | zero =>
    intro x v1 h
    have h : (none : Option q_W) = some ρ := h
    cases h
  | succ n ih =>
    intro x v1 h
    unfold f_Mo_takeOut_L2 at h
    refine q_iloadn 3 d_Mo_takeOut_2 rfl 1 rfl ?_
    refine q_aloadn 4 d_Mo_takeOut_3 rfl 0 rfl ?_
    refine q_xcallP (as := [.ref 32]) (rest := [.int v1]) 7 h (fun z e => t_Mo_count e) (q_xinvV (Y := m_Mo_count) d_Mo_takeOut_4 ml_Mo_159 ms_Mo_count.1 ms_Mo_count.2 k_Mo_count.1 (by decide) n_Mo_count (by decide) rfl rfl) k_Mo_count (q_ro (by decide) (by decide)) (Nat.le_of_ble_eq_true rfl) d_Mo_takeOut_4 rfl rfl rfl (fun w1 ew1 h => ?_)
    refine q_ite h (fun c3 h => ?_) (fun c3 h => ?_)
    · refine q_icmp_ge_t 23 d_Mo_takeOut_7 (by decide) c3 ?_
      refine q_iconst (v := 1) 24 d_Mo_takeOut_23 rfl (by decide) ?_
      refine q_istoren (lv' := [(1, .int 1), (0, .ref 32)]) 25 d_Mo_takeOut_24 rfl (by decide) rfl ?_
      refine q_sub (lv' := [(0, .ref 32), (1, .int 1)]) [1, 0] rfl ?_
      exact t_Mo_takeOut_L25  q_fu _ _ h
    · refine q_icmp_ge_f 10 d_Mo_takeOut_7 rfl 23 (by decide) c3 ?_
      refine q_aloadn 11 d_Mo_takeOut_10 rfl 0 rfl ?_
      refine q_xget 14 d_Mo_takeOut_11 rfl fl_Mo_65 (by decide) rfl rfl ?_
      refine q_iloadn 15 d_Mo_takeOut_14 rfl 1 rfl ?_
      refine q_iconst (v := 1) 16 d_Mo_takeOut_15 rfl (by decide) ?_
      refine q_xzast 17 d_Mo_takeOut_16 rfl (by decide) (fun _ => rfl) h (fun x2 ex2 h => ?_)
      refine q_iinc (v := (v1 + 1)) (lv' := [(1, .int (v1 + 1)), (0, .ref 32)]) 20 d_Mo_takeOut_17 rfl 1 rfl (q_ai (by decide)) (by decide) rfl ?_
      refine q_goto 2 d_Mo_takeOut_20 (by decide) ?_
      refine q_sub (lv' := [(0, .ref 32), (1, .int (v1 + 1))]) [1, 0] rfl ?_
      exact ih _ _ h
set_option maxHeartbeats 4000000 in
set_option maxRecDepth 100000 in
theorem t_Mo_takeOut {E : q_E} {c d : Nat} {x : q_W} {ρ : q_W} (h : f_Mo_takeOut x = some ρ) : q_Ct E y_Mo_takeOut m_Mo_takeOut (q_rm 3) (q_cells E c d x) [.ref 32] (q_rV E c d ρ) := by
  unfold f_Mo_takeOut at h
  refine q_Ct.of (lv := [(0, .ref 32)]) (by decide) ⟨rfl, rfl⟩ rfl (Nat.le_of_ble_eq_true rfl) ?_
  refine q_iconst (v := 0) 1 d_Mo_takeOut_0 rfl (by decide) ?_
  refine q_istoren (lv' := [(1, .int 0), (0, .ref 32)]) 2 d_Mo_takeOut_1 rfl (by decide) rfl ?_
  refine q_sub (lv' := [(0, .ref 32), (1, .int 0)]) [1, 0] rfl ?_
  exact t_Mo_takeOut_L2  q_fu _ _ h
set_option maxHeartbeats 4000000 in
set_option maxRecDepth 100000 in
theorem t_Mo_formula_L209 {E : q_E} {c d : Nat} {ρ : Int32 × q_W} {E209 : q_W → Option (Int32 × q_W)} (hE209 : ∀ x, E209 x = some ρ → AW E (q_rm 4) m_Mo_formula (q_cells E c d x) 0 0 228 [(0, .ref 32)] [] (q_rS E c d ρ)) : ∀ (n : Nat) (x : q_W) (v2 : Int32), f_Mo_formula_L209 E209 n x v2 = some ρ → AW E (q_rm 4) m_Mo_formula (q_cells E c d x) 0 0 209 [(0, .ref 32), (2, .int v2)] [] (q_rS E c d ρ) := by
  intro n
  induction n with
  | zero =>
    intro x v2 h
    have h : (none : Option (Int32 × q_W)) = some ρ := h
    cases h
  | succ n ih =>
    intro x v2 h
    unfold f_Mo_formula_L209 at h
    refine q_iloadn 210 d_Mo_formula_209 rfl 1 rfl ?_
    refine q_aloadn 211 d_Mo_formula_210 rfl 0 rfl ?_
    refine q_xcallP (as := [.ref 32]) (rest := [.int v2]) 214 h (fun z e => t_Mo_count e) (q_xinvV (Y := m_Mo_count) d_Mo_formula_211 ml_Mo_159 ms_Mo_count.1 ms_Mo_count.2 k_Mo_count.1 (by decide) n_Mo_count (by decide) rfl rfl) k_Mo_count (q_ro (by decide) (by decide)) (Nat.le_of_ble_eq_true rfl) d_Mo_formula_211 rfl rfl rfl (fun w35 ew35 h => ?_)
    refine q_ite h (fun c37 h => ?_) (fun c37 h => ?_)
    · refine q_icmp_ge_t 228 d_Mo_formula_214 (by decide) c37 ?_
      refine q_sub (lv' := [(0, .ref 32)]) [0] rfl ?_
      exact hE209 _ h
    · refine q_icmp_ge_f 217 d_Mo_formula_214 rfl 228 (by decide) c37 ?_
      refine q_aloadn 218 d_Mo_formula_217 rfl 0 rfl ?_
      refine q_iloadn 219 d_Mo_formula_218 rfl 1 rfl ?_
      refine q_xcallV (as := [.ref 32, .int v2]) (rest := []) 222 h (fun z e => t_Mo_look e) (q_xinvV (Y := m_Mo_look) d_Mo_formula_219 ml_Mo_162 ms_Mo_look.1 ms_Mo_look.2 k_Mo_look.1 (by decide) n_Mo_look (by decide) rfl rfl) k_Mo_look (q_ro (by decide) (by decide)) (Nat.le_of_ble_eq_true rfl) d_Mo_formula_219 rfl rfl rfl (fun x36 ex36 h => ?_)
      refine q_iinc (v := (v2 + 1)) (lv' := [(2, .int (v2 + 1)), (0, .ref 32)]) 225 d_Mo_formula_222 rfl 1 rfl (q_ai (by decide)) (by decide) rfl ?_
      refine q_goto 209 d_Mo_formula_225 (by decide) ?_
      refine q_sub (lv' := [(0, .ref 32), (2, .int (v2 + 1))]) [1, 0] rfl ?_
      exact ih _ _ h
set_option maxHeartbeats 4000000 in
set_option maxRecDepth 100000 in
theorem t_Mo_formula_L152 {E : q_E} {c d : Nat} {ρ : Int32 × q_W} : ∀ (n : Nat) (x : q_W) (v2 : Int32), f_Mo_formula_L152  n x v2 = some ρ → AW E (q_rm 4) m_Mo_formula (q_cells E c d x) 0 0 152 [(0, .ref 32), (2, .int v2)] [] (q_rS E c d ρ) := by
  intro n
  induction n with
  | zero =>
    intro x v2 h
    have h : (none : Option (Int32 × q_W)) = some ρ := h
    cases h
  | succ n ih =>
    intro x v2 h
    unfold f_Mo_formula_L152 at h
    refine q_iloadn 153 d_Mo_formula_152 rfl 1 rfl ?_
    refine q_aloadn 154 d_Mo_formula_153 rfl 0 rfl ?_
    refine q_xget 157 d_Mo_formula_154 rfl fl_Mo_153 (by decide) rfl rfl ?_
    refine q_ite h (fun c34 h => ?_) (fun c34 h => ?_)
    · refine q_icmp_ge_t 207 d_Mo_formula_157 (by decide) c34 ?_
      refine q_iconst (v := 0) 208 d_Mo_formula_207 rfl (by decide) ?_
      refine q_istoren (lv' := [(2, .int 0), (0, .ref 32)]) 209 d_Mo_formula_208 rfl (by decide) rfl ?_
      refine q_sub (lv' := [(0, .ref 32), (2, .int 0)]) [1, 0] rfl ?_
      refine t_Mo_formula_L209 (fun x25 h => ?_) q_fu _ _ h
      refine q_aloadn 229 d_Mo_formula_228 rfl 0 rfl ?_
      refine q_xcallV (as := [.ref 32]) (rest := []) 232 h (fun z e => t_Mo_takeOut e) (q_xinvV (Y := m_Mo_takeOut) d_Mo_formula_229 ml_Mo_165 ms_Mo_takeOut.1 ms_Mo_takeOut.2 k_Mo_takeOut.1 (by decide) n_Mo_takeOut (by decide) rfl rfl) k_Mo_takeOut (q_ro (by decide) (by decide)) (Nat.le_of_ble_eq_true rfl) d_Mo_formula_229 rfl rfl rfl (fun x26 ex26 h => ?_)
      refine q_aloadn 233 d_Mo_formula_232 rfl 0 rfl ?_
      refine q_xcallV (as := [.ref 32]) (rest := []) 236 h (fun z e => t_Mo_goWalk e) (q_xinvV (Y := m_Mo_goWalk) d_Mo_formula_233 ml_Mo_168 ms_Mo_goWalk.1 ms_Mo_goWalk.2 k_Mo_goWalk.1 (by decide) n_Mo_goWalk (by decide) rfl rfl) k_Mo_goWalk (q_ro (by decide) (by decide)) (Nat.le_of_ble_eq_true rfl) d_Mo_formula_233 rfl rfl rfl (fun x27 ex27 h => ?_)
      refine q_aloadn 237 d_Mo_formula_236 rfl 0 rfl ?_
      refine q_xget 240 d_Mo_formula_237 rfl fl_Mo_150 (by decide) rfl rfl ?_
      cases h
      exact q_iret d_Mo_formula_240 rfl (Nat.zero_le _) (Nat.zero_le _)
    · refine q_icmp_ge_f 160 d_Mo_formula_157 rfl 207 (by decide) c34 ?_
      refine q_aloadn 161 d_Mo_formula_160 rfl 0 rfl ?_
      refine q_xget 164 d_Mo_formula_161 rfl fl_Mo_13 (by decide) rfl rfl ?_
      refine q_aloadn 165 d_Mo_formula_164 rfl 0 rfl ?_
      refine q_xget 168 d_Mo_formula_165 rfl fl_Mo_25 (by decide) rfl rfl ?_
      refine q_iloadn 169 d_Mo_formula_168 rfl 1 rfl ?_
      refine q_xiald 170 d_Mo_formula_169 rfl (by decide) (fun _ => rfl) h (fun w28 ew28 h => ?_)
      refine q_xiald 171 d_Mo_formula_170 rfl (by decide) (fun _ => rfl) h (fun w29 ew29 h => ?_)
      refine q_bipush (v := 6) 173 d_Mo_formula_171 rfl (by decide) ?_
      refine q_ite h (fun c33 h => ?_) (fun c33 h => ?_)
      · refine q_icmp_eq_t 201 d_Mo_formula_173 (by decide) c33 ?_
        refine q_iinc (v := (v2 + 1)) (lv' := [(2, .int (v2 + 1)), (0, .ref 32)]) 204 d_Mo_formula_201 rfl 1 rfl (q_ai (by decide)) (by decide) rfl ?_
        refine q_goto 152 d_Mo_formula_204 (by decide) ?_
        refine q_sub (lv' := [(0, .ref 32), (2, .int (v2 + 1))]) [1, 0] rfl ?_
        exact ih _ _ h
      · refine q_icmp_eq_f 176 d_Mo_formula_173 rfl 201 (by decide) c33 ?_
        refine q_aloadn 177 d_Mo_formula_176 rfl 0 rfl ?_
        refine q_xget 180 d_Mo_formula_177 rfl fl_Mo_28 (by decide) rfl rfl ?_
        refine q_aloadn 181 d_Mo_formula_180 rfl 0 rfl ?_
        refine q_xget 184 d_Mo_formula_181 rfl fl_Mo_156 (by decide) rfl rfl ?_
        refine q_aloadn 185 d_Mo_formula_184 rfl 0 rfl ?_
        refine q_xget 188 d_Mo_formula_185 rfl fl_Mo_25 (by decide) rfl rfl ?_
        refine q_iloadn 189 d_Mo_formula_188 rfl 1 rfl ?_
        refine q_xiald 190 d_Mo_formula_189 rfl (by decide) (fun _ => rfl) h (fun w30 ew30 h => ?_)
        refine q_xiast 191 d_Mo_formula_190 rfl (by decide) (fun _ => rfl) h (fun x31 ex31 h => ?_)
        refine q_aloadn 192 d_Mo_formula_191 rfl 0 rfl ?_
        refine q_dup 193 d_Mo_formula_192 rfl rfl ?_
        refine q_xget 196 d_Mo_formula_193 rfl fl_Mo_156 (by decide) rfl rfl ?_
        refine q_iconst (v := 1) 197 d_Mo_formula_196 rfl (by decide) ?_
        refine q_iadd 198 d_Mo_formula_197 rfl ?_
        refine q_xput 201 d_Mo_formula_198 rfl fl_Mo_156 (by decide) rfl rfl rfl rfl (Nat.le_of_ble_eq_true rfl) (fun _ => rfl) h (fun x32 ex32 h => ?_)
        refine q_iinc (v := (v2 + 1)) (lv' := [(2, .int (v2 + 1)), (0, .ref 32)]) 204 d_Mo_formula_201 rfl 1 rfl (q_ai (by decide)) (by decide) rfl ?_
        refine q_goto 152 d_Mo_formula_204 (by decide) ?_
        refine q_sub (lv' := [(0, .ref 32), (2, .int (v2 + 1))]) [1, 0] rfl ?_
        exact ih _ _ h
set_option maxHeartbeats 4000000 in
set_option maxRecDepth 100000 in
theorem t_Mo_formula_L64 {E : q_E} {c d : Nat} {ρ : Int32 × q_W} : ∀ (n : Nat) (x : q_W) (v2 : Int32), f_Mo_formula_L64  n x v2 = some ρ → AW E (q_rm 4) m_Mo_formula (q_cells E c d x) 0 0 64 [(0, .ref 32), (2, .int v2)] [] (q_rS E c d ρ) := by
  intro n
  induction n with
  | zero =>
    intro x v2 h
    have h : (none : Option (Int32 × q_W)) = some ρ := h
    cases h
  | succ n ih =>
    intro x v2 h
    unfold f_Mo_formula_L64 at h
    refine q_iloadn 65 d_Mo_formula_64 rfl 1 rfl ?_
    refine q_aloadn 66 d_Mo_formula_65 rfl 0 rfl ?_
    refine q_xget 69 d_Mo_formula_66 rfl fl_Mo_150 (by decide) rfl rfl ?_
    refine q_ite h (fun c24 h => ?_) (fun c24 h => ?_)
    · refine q_icmp_ge_t 150 d_Mo_formula_69 (by decide) c24 ?_
      refine q_iconst (v := 0) 151 d_Mo_formula_150 rfl (by decide) ?_
      refine q_istoren (lv' := [(2, .int 0), (0, .ref 32)]) 152 d_Mo_formula_151 rfl (by decide) rfl ?_
      refine q_sub (lv' := [(0, .ref 32), (2, .int 0)]) [1, 0] rfl ?_
      exact t_Mo_formula_L152  q_fu _ _ h
    · refine q_icmp_ge_f 72 d_Mo_formula_69 rfl 150 (by decide) c24 ?_
      refine q_aloadn 73 d_Mo_formula_72 rfl 0 rfl ?_
      refine q_xget 76 d_Mo_formula_73 rfl fl_Mo_13 (by decide) rfl rfl ?_
      refine q_iloadn 77 d_Mo_formula_76 rfl 1 rfl ?_
      refine q_aloadn 78 d_Mo_formula_77 rfl 0 rfl ?_
      refine q_xget 81 d_Mo_formula_78 rfl fl_Mo_31 (by decide) rfl rfl ?_
      refine q_iloadn 82 d_Mo_formula_81 rfl 1 rfl ?_
      refine q_xiald 83 d_Mo_formula_82 rfl (by decide) (fun _ => rfl) h (fun w11 ew11 h => ?_)
      refine q_xiast 84 d_Mo_formula_83 rfl (by decide) (fun _ => rfl) h (fun x12 ex12 h => ?_)
      refine q_aloadn 85 d_Mo_formula_84 rfl 0 rfl ?_
      refine q_xget 88 d_Mo_formula_85 rfl fl_Mo_16 (by decide) rfl rfl ?_
      refine q_iloadn 89 d_Mo_formula_88 rfl 1 rfl ?_
      refine q_aloadn 90 d_Mo_formula_89 rfl 0 rfl ?_
      refine q_xget 93 d_Mo_formula_90 rfl fl_Mo_34 (by decide) rfl rfl ?_
      refine q_iloadn 94 d_Mo_formula_93 rfl 1 rfl ?_
      refine q_xiald 95 d_Mo_formula_94 rfl (by decide) (fun _ => rfl) h (fun w13 ew13 h => ?_)
      refine q_xiast 96 d_Mo_formula_95 rfl (by decide) (fun _ => rfl) h (fun x14 ex14 h => ?_)
      refine q_aloadn 97 d_Mo_formula_96 rfl 0 rfl ?_
      refine q_xget 100 d_Mo_formula_97 rfl fl_Mo_19 (by decide) rfl rfl ?_
      refine q_iloadn 101 d_Mo_formula_100 rfl 1 rfl ?_
      refine q_aloadn 102 d_Mo_formula_101 rfl 0 rfl ?_
      refine q_xget 105 d_Mo_formula_102 rfl fl_Mo_37 (by decide) rfl rfl ?_
      refine q_iloadn 106 d_Mo_formula_105 rfl 1 rfl ?_
      refine q_xiald 107 d_Mo_formula_106 rfl (by decide) (fun _ => rfl) h (fun w15 ew15 h => ?_)
      refine q_xiast 108 d_Mo_formula_107 rfl (by decide) (fun _ => rfl) h (fun x16 ex16 h => ?_)
      refine q_aloadn 109 d_Mo_formula_108 rfl 0 rfl ?_
      refine q_xget 112 d_Mo_formula_109 rfl fl_Mo_22 (by decide) rfl rfl ?_
      refine q_iloadn 113 d_Mo_formula_112 rfl 1 rfl ?_
      refine q_aloadn 114 d_Mo_formula_113 rfl 0 rfl ?_
      refine q_xget 117 d_Mo_formula_114 rfl fl_Mo_40 (by decide) rfl rfl ?_
      refine q_iloadn 118 d_Mo_formula_117 rfl 1 rfl ?_
      refine q_xiald 119 d_Mo_formula_118 rfl (by decide) (fun _ => rfl) h (fun w17 ew17 h => ?_)
      refine q_xiast 120 d_Mo_formula_119 rfl (by decide) (fun _ => rfl) h (fun x18 ex18 h => ?_)
      refine q_aloadn 121 d_Mo_formula_120 rfl 0 rfl ?_
      refine q_xget 124 d_Mo_formula_121 rfl fl_Mo_13 (by decide) rfl rfl ?_
      refine q_iloadn 125 d_Mo_formula_124 rfl 1 rfl ?_
      refine q_xiald 126 d_Mo_formula_125 rfl (by decide) (fun _ => rfl) h (fun w19 ew19 h => ?_)
      refine q_xcallP (as := [.int w19]) (rest := []) 129 h (fun z e => t_Mo_isTemporal e) (q_invS (Y := m_Mo_isTemporal) d_Mo_formula_126 ml_Mo_123 ms_Mo_isTemporal k_Mo_isTemporal.2 k_Mo_isTemporal.1 (by decide) n_Mo_isTemporal) k_Mo_isTemporal (q_ro (by decide) (by decide)) (Nat.le_of_ble_eq_true rfl) d_Mo_formula_126 rfl rfl rfl (fun w20 ew20 h => ?_)
      refine q_ite h (fun c23 h => ?_) (fun c23 h => ?_)
      · refine q_if_eq_t 144 d_Mo_formula_129 (by decide) c23 ?_
        refine q_iinc (v := (v2 + 1)) (lv' := [(2, .int (v2 + 1)), (0, .ref 32)]) 147 d_Mo_formula_144 rfl 1 rfl (q_ai (by decide)) (by decide) rfl ?_
        refine q_goto 64 d_Mo_formula_147 (by decide) ?_
        refine q_sub (lv' := [(0, .ref 32), (2, .int (v2 + 1))]) [1, 0] rfl ?_
        exact ih _ _ h
      · refine q_if_eq_f 132 d_Mo_formula_129 rfl 144 (by decide) c23 ?_
        refine q_aloadn 133 d_Mo_formula_132 rfl 0 rfl ?_
        refine q_xget 136 d_Mo_formula_133 rfl fl_Mo_25 (by decide) rfl rfl ?_
        refine q_aloadn 137 d_Mo_formula_136 rfl 0 rfl ?_
        refine q_xget 140 d_Mo_formula_137 rfl fl_Mo_22 (by decide) rfl rfl ?_
        refine q_iloadn 141 d_Mo_formula_140 rfl 1 rfl ?_
        refine q_xiald 142 d_Mo_formula_141 rfl (by decide) (fun _ => rfl) h (fun w21 ew21 h => ?_)
        refine q_iloadn 143 d_Mo_formula_142 rfl 1 rfl ?_
        refine q_xiast 144 d_Mo_formula_143 rfl (by decide) (fun _ => rfl) h (fun x22 ex22 h => ?_)
        refine q_iinc (v := (v2 + 1)) (lv' := [(2, .int (v2 + 1)), (0, .ref 32)]) 147 d_Mo_formula_144 rfl 1 rfl (q_ai (by decide)) (by decide) rfl ?_
        refine q_goto 64 d_Mo_formula_147 (by decide) ?_
        refine q_sub (lv' := [(0, .ref 32), (2, .int (v2 + 1))]) [1, 0] rfl ?_
        exact ih _ _ h
set_option maxHeartbeats 4000000 in
set_option maxRecDepth 100000 in
theorem t_Mo_formula_J24 {E : q_E} {c d : Nat} {ρ : Int32 × q_W} : ∀ (x : q_W) (s0 : Int32), f_Mo_formula_J24  x s0 = some ρ → AW E (q_rm 4) m_Mo_formula (q_cells E c d x) 0 0 24 [(0, .ref 32)] [.int s0, .ref 32] (q_rS E c d ρ) := by
  intro x s0 h
  unfold f_Mo_formula_J24 at h
  refine q_xput 27 d_Mo_formula_24 rfl fl_Mo_93 (by decide) rfl rfl rfl rfl (Nat.le_of_ble_eq_true rfl) (fun _ => rfl) h (fun x5 ex5 h => ?_)
  refine q_aloadn 28 d_Mo_formula_27 rfl 0 rfl ?_
  refine q_xget 31 d_Mo_formula_28 rfl fl_Mo_93 (by decide) rfl rfl ?_
  refine q_ite h (fun c10 h => ?_) (fun c10 h => ?_)
  · refine q_if_le_t 36 d_Mo_formula_31 (by decide) c10 ?_
    refine q_aloadn 37 d_Mo_formula_36 rfl 0 rfl ?_
    refine q_iconst (v := 1) 38 d_Mo_formula_37 rfl (by decide) ?_
    refine q_xput 41 d_Mo_formula_38 rfl fl_Mo_146 (by decide) rfl rfl rfl rfl (Nat.le_of_ble_eq_true rfl) (fun _ => rfl) h (fun x6 ex6 h => ?_)
    refine q_aloadn 42 d_Mo_formula_41 rfl 0 rfl ?_
    refine q_aloadn 43 d_Mo_formula_42 rfl 0 rfl ?_
    refine q_xget 46 d_Mo_formula_43 rfl fl_Mo_99 (by decide) rfl rfl ?_
    refine q_xput 49 d_Mo_formula_46 rfl fl_Mo_150 (by decide) rfl rfl rfl rfl (Nat.le_of_ble_eq_true rfl) (fun _ => rfl) h (fun x7 ex7 h => ?_)
    refine q_aloadn 50 d_Mo_formula_49 rfl 0 rfl ?_
    refine q_aloadn 51 d_Mo_formula_50 rfl 0 rfl ?_
    refine q_xget 54 d_Mo_formula_51 rfl fl_Mo_120 (by decide) rfl rfl ?_
    refine q_xput 57 d_Mo_formula_54 rfl fl_Mo_153 (by decide) rfl rfl rfl rfl (Nat.le_of_ble_eq_true rfl) (fun _ => rfl) h (fun x8 ex8 h => ?_)
    refine q_aloadn 58 d_Mo_formula_57 rfl 0 rfl ?_
    refine q_iconst (v := 0) 59 d_Mo_formula_58 rfl (by decide) ?_
    refine q_xput 62 d_Mo_formula_59 rfl fl_Mo_156 (by decide) rfl rfl rfl rfl (Nat.le_of_ble_eq_true rfl) (fun _ => rfl) h (fun x9 ex9 h => ?_)
    refine q_iconst (v := 0) 63 d_Mo_formula_62 rfl (by decide) ?_
    refine q_istoren (lv' := [(2, .int 0), (0, .ref 32)]) 64 d_Mo_formula_63 rfl (by decide) rfl ?_
    refine q_sub (lv' := [(0, .ref 32), (2, .int 0)]) [1, 0] rfl ?_
    exact t_Mo_formula_L64  q_fu _ _ h
  · refine q_if_le_f 34 d_Mo_formula_31 rfl 36 (by decide) c10 ?_
    refine q_iconst (v := 0) 35 d_Mo_formula_34 rfl (by decide) ?_
    cases h
    exact q_iret d_Mo_formula_35 rfl (Nat.zero_le _) (Nat.zero_le _)
set_option maxHeartbeats 4000000 in
set_option maxRecDepth 100000 in
theorem t_Mo_formula {E : q_E} {c d : Nat} {x : q_W} {ρ : Int32 × q_W} (h : f_Mo_formula x = some ρ) : q_Ct E y_Mo_formula m_Mo_formula (q_rm 4) (q_cells E c d x) [.ref 32] (q_rS E c d ρ) := by
  unfold f_Mo_formula at h
  refine q_Ct.of (lv := [(0, .ref 32)]) (by decide) ⟨rfl, rfl⟩ rfl (Nat.le_of_ble_eq_true rfl) ?_
  refine q_aloadn 1 d_Mo_formula_0 rfl 0 rfl ?_
  refine q_xget 4 d_Mo_formula_1 rfl fl_Mo_96 (by decide) rfl rfl ?_
  refine q_xtop h (fun z1 ez1 h => ?_)
  refine q_istoren (lv' := [(1, .int z1), (0, .ref 32)]) 5 d_Mo_formula_4 rfl (by decide) rfl ?_
  refine q_aloadn 6 d_Mo_formula_5 rfl 1 rfl ?_
  refine q_iconst (v := 0) 7 d_Mo_formula_6 rfl (by decide) ?_
  refine q_xput 10 d_Mo_formula_7 rfl fl_Mo_96 (by decide) rfl rfl rfl rfl (Nat.le_of_ble_eq_true rfl) (fun _ => rfl) h (fun x2 ex2 h => ?_)
  refine q_aloadn 11 d_Mo_formula_10 rfl 1 rfl ?_
  refine q_aloadn 12 d_Mo_formula_11 rfl 1 rfl ?_
  refine q_iloadn 13 d_Mo_formula_12 rfl 0 rfl ?_
  refine q_xcallS (as := [.ref 32, .int z1]) (rest := [.ref 32]) 16 h (fun z e => t_Mo_reads e) (q_xinvV (Y := m_Mo_reads) d_Mo_formula_13 ml_Mo_143 ms_Mo_reads.1 ms_Mo_reads.2 k_Mo_reads.1 (by decide) n_Mo_reads (by decide) rfl rfl) k_Mo_reads (q_ro (by decide) (by decide)) (Nat.le_of_ble_eq_true rfl) d_Mo_formula_13 rfl rfl rfl (fun q3 eq3 h => ?_)
  refine q_ite h (fun c4 h => ?_) (fun c4 h => ?_)
  · refine q_if_eq_t 23 d_Mo_formula_16 (by decide) c4 ?_
    refine q_iconst (v := 1) 24 d_Mo_formula_23 rfl (by decide) ?_
    refine q_sub (lv' := [(0, .ref 32)]) [1] rfl ?_
    exact t_Mo_formula_J24  _ _ h
  · refine q_if_eq_f 19 d_Mo_formula_16 rfl 23 (by decide) c4 ?_
    refine q_iconst (v := 0) 20 d_Mo_formula_19 rfl (by decide) ?_
    refine q_goto 24 d_Mo_formula_20 (by decide) ?_
    refine q_sub (lv' := [(0, .ref 32)]) [1] rfl ?_
    exact t_Mo_formula_J24  _ _ h
set_option maxHeartbeats 4000000 in
set_option maxRecDepth 100000 in
theorem t_Mo_refused_J21 {E : q_E} {c d : Nat} {ρ : Int32 × q_W} : ∀ (x : q_W) (s0 : Int32), f_Mo_refused_J21  x s0 = some ρ → AW E (q_rm 0) m_Mo_refused (q_cells E c d x) 0 0 21 [(0, .ref 32)] [.int s0, .ref 32] (q_rS E c d ρ) := by
  intro x s0 h
  unfold f_Mo_refused_J21 at h
  refine q_xput 24 d_Mo_refused_21 rfl fl_Mo_93 (by decide) rfl rfl rfl rfl (Nat.le_of_ble_eq_true rfl) (fun _ => rfl) h (fun x3 ex3 h => ?_)
  refine q_aloadn 25 d_Mo_refused_24 rfl 0 rfl ?_
  refine q_xget 28 d_Mo_refused_25 rfl fl_Mo_93 (by decide) rfl rfl ?_
  refine q_ite h (fun c4 h => ?_) (fun c4 h => ?_)
  · refine q_if_le_t 35 d_Mo_refused_28 (by decide) c4 ?_
    refine q_iconst (v := 0) 36 d_Mo_refused_35 rfl (by decide) ?_
    cases h
    exact q_zret d_Mo_refused_36 rfl (Nat.zero_le _) (Nat.zero_le _)
  · refine q_if_le_f 31 d_Mo_refused_28 rfl 35 (by decide) c4 ?_
    refine q_iconst (v := 1) 32 d_Mo_refused_31 rfl (by decide) ?_
    refine q_goto 36 d_Mo_refused_32 (by decide) ?_
    cases h
    exact q_zret d_Mo_refused_36 rfl (Nat.zero_le _) (Nat.zero_le _)
set_option maxHeartbeats 4000000 in
set_option maxRecDepth 100000 in
theorem t_Mo_refused {E : q_E} {c d : Nat} {x : q_W} {a1 : Int32} {ρ : Int32 × q_W} (h : f_Mo_refused x a1 = some ρ) : q_Ct E y_Mo_refused m_Mo_refused (q_rm 0) (q_cells E c d x) [.ref 32, .int a1] (q_rS E c d ρ) := by
  unfold f_Mo_refused at h
  refine q_Ct.of (lv := [(0, .ref 32), (1, .int a1)]) (by decide) ⟨rfl, rfl⟩ rfl (Nat.le_of_ble_eq_true rfl) ?_
  refine q_aloadn 1 d_Mo_refused_0 rfl 0 rfl ?_
  refine q_aloadn 2 d_Mo_refused_1 rfl 0 rfl ?_
  refine q_xget 5 d_Mo_refused_2 rfl fl_Mo_146 (by decide) rfl rfl ?_
  refine q_ite h (fun c2 h => ?_) (fun c2 h => ?_)
  · refine q_if_ne_t 12 d_Mo_refused_5 (by decide) c2 ?_
    refine q_iloadn 13 d_Mo_refused_12 rfl 1 rfl ?_
    refine q_ite h (fun c1 h => ?_) (fun c1 h => ?_)
    · refine q_if_eq_t 20 d_Mo_refused_13 (by decide) c1 ?_
      refine q_iconst (v := 2) 21 d_Mo_refused_20 rfl (by decide) ?_
      refine q_sub (lv' := [(0, .ref 32)]) [0] rfl ?_
      exact t_Mo_refused_J21  _ _ h
    · refine q_if_eq_f 16 d_Mo_refused_13 rfl 20 (by decide) c1 ?_
      refine q_iconst (v := 0) 17 d_Mo_refused_16 rfl (by decide) ?_
      refine q_goto 21 d_Mo_refused_17 (by decide) ?_
      refine q_sub (lv' := [(0, .ref 32)]) [0] rfl ?_
      exact t_Mo_refused_J21  _ _ h
  · refine q_if_ne_f 8 d_Mo_refused_5 rfl 12 (by decide) (Classical.not_not.mp c2) ?_
    refine q_iconst (v := 1) 9 d_Mo_refused_8 rfl (by decide) ?_
    refine q_goto 21 d_Mo_refused_9 (by decide) ?_
    refine q_sub (lv' := [(0, .ref 32)]) [0] rfl ?_
    exact t_Mo_refused_J21  _ _ h
set_option maxHeartbeats 4000000 in
set_option maxRecDepth 100000 in
theorem t_Mo_isState {E : q_E} {c d : Nat} {x : q_W} {a1 : Int32} {ρ : Int32} (h : f_Mo_isState x a1 = some ρ) : q_Ct E y_Mo_isState m_Mo_isState (q_rm 1) (q_cells E c d x) [.ref 32, .int a1] (q_rP E c d x ρ) := by
  unfold f_Mo_isState at h
  refine q_Ct.of (lv := [(0, .ref 32), (1, .int a1)]) (by decide) ⟨rfl, rfl⟩ rfl (Nat.le_of_ble_eq_true rfl) ?_
  refine q_iloadn 1 d_Mo_isState_0 rfl 1 rfl ?_
  refine q_ite h (fun c4 h => ?_) (fun c4 h => ?_)
  · refine q_if_lt_t 23 d_Mo_isState_1 (by decide) c4 ?_
    refine q_iconst (v := 0) 24 d_Mo_isState_23 rfl (by decide) ?_
    cases h
    exact q_zret d_Mo_isState_24 rfl (Nat.zero_le _) (Nat.zero_le _)
  · refine q_if_lt_f 4 d_Mo_isState_1 rfl 23 (by decide) c4 ?_
    refine q_aloadn 5 d_Mo_isState_4 rfl 0 rfl ?_
    refine q_xget 8 d_Mo_isState_5 rfl fl_Mo_146 (by decide) rfl rfl ?_
    refine q_ite h (fun c3 h => ?_) (fun c3 h => ?_)
    · refine q_if_eq_t 23 d_Mo_isState_8 (by decide) c3 ?_
      refine q_iconst (v := 0) 24 d_Mo_isState_23 rfl (by decide) ?_
      cases h
      exact q_zret d_Mo_isState_24 rfl (Nat.zero_le _) (Nat.zero_le _)
    · refine q_if_eq_f 11 d_Mo_isState_8 rfl 23 (by decide) c3 ?_
      refine q_iloadn 12 d_Mo_isState_11 rfl 1 rfl ?_
      refine q_aloadn 13 d_Mo_isState_12 rfl 0 rfl ?_
      refine q_xcallP (as := [.ref 32]) (rest := [.int a1]) 16 h (fun z e => t_Mo_count e) (q_xinvV (Y := m_Mo_count) d_Mo_isState_13 ml_Mo_159 ms_Mo_count.1 ms_Mo_count.2 k_Mo_count.1 (by decide) n_Mo_count (by decide) rfl rfl) k_Mo_count (q_ro (by decide) (by decide)) (Nat.le_of_ble_eq_true rfl) d_Mo_isState_13 rfl rfl rfl (fun w1 ew1 h => ?_)
      refine q_ite h (fun c2 h => ?_) (fun c2 h => ?_)
      · refine q_icmp_ge_t 23 d_Mo_isState_16 (by decide) c2 ?_
        refine q_iconst (v := 0) 24 d_Mo_isState_23 rfl (by decide) ?_
        cases h
        exact q_zret d_Mo_isState_24 rfl (Nat.zero_le _) (Nat.zero_le _)
      · refine q_icmp_ge_f 19 d_Mo_isState_16 rfl 23 (by decide) c2 ?_
        refine q_iconst (v := 1) 20 d_Mo_isState_19 rfl (by decide) ?_
        refine q_goto 24 d_Mo_isState_20 (by decide) ?_
        cases h
        exact q_zret d_Mo_isState_24 rfl (Nat.zero_le _) (Nat.zero_le _)
set_option maxHeartbeats 4000000 in
set_option maxRecDepth 100000 in
theorem t_Mo_states {E : q_E} {c d : Nat} {x : q_W} {ρ : Int32 × q_W} (h : f_Mo_states x = some ρ) : q_Ct E y_Mo_states m_Mo_states (q_rm 1) (q_cells E c d x) [.ref 32] (q_rS E c d ρ) := by
  unfold f_Mo_states at h
  refine q_Ct.of (lv := [(0, .ref 32)]) (by decide) ⟨rfl, rfl⟩ rfl (Nat.le_of_ble_eq_true rfl) ?_
  refine q_aloadn 1 d_Mo_states_0 rfl 0 rfl ?_
  refine q_iconst (v := 1) 2 d_Mo_states_1 rfl (by decide) ?_
  refine q_xcallS (as := [.ref 32, .int 1]) (rest := []) 5 h (fun z e => t_Mo_refused e) (q_xinvV (Y := m_Mo_refused) d_Mo_states_2 ml_Mo_208 ms_Mo_refused.1 ms_Mo_refused.2 k_Mo_refused.1 (by decide) n_Mo_refused (by decide) rfl rfl) k_Mo_refused (q_ro (by decide) (by decide)) (Nat.le_of_ble_eq_true rfl) d_Mo_states_2 rfl rfl rfl (fun q1 eq1 h => ?_)
  refine q_ite h (fun c3 h => ?_) (fun c3 h => ?_)
  · refine q_if_eq_t 12 d_Mo_states_5 (by decide) c3 ?_
    refine q_aloadn 13 d_Mo_states_12 rfl 0 rfl ?_
    refine q_xcallP (as := [.ref 32]) (rest := []) 16 h (fun z e => t_Mo_count e) (q_xinvV (Y := m_Mo_count) d_Mo_states_13 ml_Mo_159 ms_Mo_count.1 ms_Mo_count.2 k_Mo_count.1 (by decide) n_Mo_count (by decide) rfl rfl) k_Mo_count (q_ro (by decide) (by decide)) (Nat.le_of_ble_eq_true rfl) d_Mo_states_13 rfl rfl rfl (fun w2 ew2 h => ?_)
    cases h
    exact q_iret d_Mo_states_16 rfl (Nat.zero_le _) (Nat.zero_le _)
  · refine q_if_eq_f 8 d_Mo_states_5 rfl 12 (by decide) c3 ?_
    refine q_iconst (v := 0) 9 d_Mo_states_8 rfl (by decide) ?_
    refine q_goto 16 d_Mo_states_9 (by decide) ?_
    cases h
    exact q_iret d_Mo_states_16 rfl (Nat.zero_le _) (Nat.zero_le _)
set_option maxHeartbeats 4000000 in
set_option maxRecDepth 100000 in
theorem t_Mo_isAt {E : q_E} {c d : Nat} {x : q_W} {a1 : Int32} {ρ : Int32 × q_W} (h : f_Mo_isAt x a1 = some ρ) : q_Ct E y_Mo_isAt m_Mo_isAt (q_rm 2) (q_cells E c d x) [.ref 32, .int a1] (q_rS E c d ρ) := by
  unfold f_Mo_isAt at h
  refine q_Ct.of (lv := [(0, .ref 32), (1, .int a1)]) (by decide) ⟨rfl, rfl⟩ rfl (Nat.le_of_ble_eq_true rfl) ?_
  refine q_aloadn 1 d_Mo_isAt_0 rfl 0 rfl ?_
  refine q_aloadn 2 d_Mo_isAt_1 rfl 0 rfl ?_
  refine q_iloadn 3 d_Mo_isAt_2 rfl 1 rfl ?_
  refine q_xcallP (as := [.ref 32, .int a1]) (rest := [.ref 32]) 6 h (fun z e => t_Mo_isState e) (q_xinvV (Y := m_Mo_isState) d_Mo_isAt_3 ml_Mo_212 ms_Mo_isState.1 ms_Mo_isState.2 k_Mo_isState.1 (by decide) n_Mo_isState (by decide) rfl rfl) k_Mo_isState (q_ro (by decide) (by decide)) (Nat.le_of_ble_eq_true rfl) d_Mo_isAt_3 rfl rfl rfl (fun w1 ew1 h => ?_)
  refine q_xcallS (as := [.ref 32, .int w1]) (rest := []) 9 h (fun z e => t_Mo_refused e) (q_xinvV (Y := m_Mo_refused) d_Mo_isAt_6 ml_Mo_208 ms_Mo_refused.1 ms_Mo_refused.2 k_Mo_refused.1 (by decide) n_Mo_refused (by decide) rfl rfl) k_Mo_refused (q_ro (by decide) (by decide)) (Nat.le_of_ble_eq_true rfl) d_Mo_isAt_6 rfl rfl rfl (fun q2 eq2 h => ?_)
  refine q_ite h (fun c5 h => ?_) (fun c5 h => ?_)
  · refine q_if_ne_t 25 d_Mo_isAt_9 (by decide) c5 ?_
    refine q_iconst (v := 0) 26 d_Mo_isAt_25 rfl (by decide) ?_
    cases h
    exact q_zret d_Mo_isAt_26 rfl (Nat.zero_le _) (Nat.zero_le _)
  · refine q_if_ne_f 12 d_Mo_isAt_9 rfl 25 (by decide) (Classical.not_not.mp c5) ?_
    refine q_aloadn 13 d_Mo_isAt_12 rfl 0 rfl ?_
    refine q_xget 16 d_Mo_isAt_13 rfl fl_Mo_52 (by decide) rfl rfl ?_
    refine q_iloadn 17 d_Mo_isAt_16 rfl 1 rfl ?_
    refine q_xzald 18 d_Mo_isAt_17 rfl (by decide) (fun _ => rfl) h (fun w3 ew3 h => ?_)
    refine q_ite h (fun c4 h => ?_) (fun c4 h => ?_)
    · refine q_if_eq_t 25 d_Mo_isAt_18 (by decide) c4 ?_
      refine q_iconst (v := 0) 26 d_Mo_isAt_25 rfl (by decide) ?_
      cases h
      exact q_zret d_Mo_isAt_26 rfl (Nat.zero_le _) (Nat.zero_le _)
    · refine q_if_eq_f 21 d_Mo_isAt_18 rfl 25 (by decide) c4 ?_
      refine q_iconst (v := 1) 22 d_Mo_isAt_21 rfl (by decide) ?_
      refine q_goto 26 d_Mo_isAt_22 (by decide) ?_
      cases h
      exact q_zret d_Mo_isAt_26 rfl (Nat.zero_le _) (Nat.zero_le _)
set_option maxHeartbeats 4000000 in
set_option maxRecDepth 100000 in
theorem t_Mo_leads_J22 {E : q_E} {c d : Nat} {ρ : Int32 × q_W} : ∀ (x : q_W) (v1 : Int32) (v2 : Int32) (s0 : Int32), f_Mo_leads_J22  x v1 v2 s0 = some ρ → AW E (q_rm 2) m_Mo_leads (q_cells E c d x) 0 0 22 [(0, .ref 32), (1, .int v1), (2, .int v2)] [.int s0, .ref 32] (q_rS E c d ρ) := by
  intro x v1 v2 s0 h
  unfold f_Mo_leads_J22 at h
  refine q_xcallS (as := [.ref 32, .int s0]) (rest := []) 25 h (fun z e => t_Mo_refused e) (q_xinvV (Y := m_Mo_refused) d_Mo_leads_22 ml_Mo_208 ms_Mo_refused.1 ms_Mo_refused.2 k_Mo_refused.1 (by decide) n_Mo_refused (by decide) rfl rfl) k_Mo_refused (q_ro (by decide) (by decide)) (Nat.le_of_ble_eq_true rfl) d_Mo_leads_22 rfl rfl rfl (fun q5 eq5 h => ?_)
  refine q_ite h (fun c8 h => ?_) (fun c8 h => ?_)
  · refine q_if_ne_t 41 d_Mo_leads_25 (by decide) c8 ?_
    refine q_iconst (v := 0) 42 d_Mo_leads_41 rfl (by decide) ?_
    cases h
    exact q_zret d_Mo_leads_42 rfl (Nat.zero_le _) (Nat.zero_le _)
  · refine q_if_ne_f 28 d_Mo_leads_25 rfl 41 (by decide) (Classical.not_not.mp c8) ?_
    refine q_aloadn 29 d_Mo_leads_28 rfl 0 rfl ?_
    refine q_iloadn 30 d_Mo_leads_29 rfl 1 rfl ?_
    refine q_iloadn 31 d_Mo_leads_30 rfl 2 rfl ?_
    refine q_xcallP (as := [.ref 32, .int v1, .int v2]) (rest := []) 34 h (fun z e => t_Mo_goes e) (q_xinvV (Y := m_Mo_goes) d_Mo_leads_31 ml_Mo_189 ms_Mo_goes.1 ms_Mo_goes.2 k_Mo_goes.1 (by decide) n_Mo_goes (by decide) rfl rfl) k_Mo_goes (q_ro (by decide) (by decide)) (Nat.le_of_ble_eq_true rfl) d_Mo_leads_31 rfl rfl rfl (fun w6 ew6 h => ?_)
    refine q_ite h (fun c7 h => ?_) (fun c7 h => ?_)
    · refine q_if_eq_t 41 d_Mo_leads_34 (by decide) c7 ?_
      refine q_iconst (v := 0) 42 d_Mo_leads_41 rfl (by decide) ?_
      cases h
      exact q_zret d_Mo_leads_42 rfl (Nat.zero_le _) (Nat.zero_le _)
    · refine q_if_eq_f 37 d_Mo_leads_34 rfl 41 (by decide) c7 ?_
      refine q_iconst (v := 1) 38 d_Mo_leads_37 rfl (by decide) ?_
      refine q_goto 42 d_Mo_leads_38 (by decide) ?_
      cases h
      exact q_zret d_Mo_leads_42 rfl (Nat.zero_le _) (Nat.zero_le _)
set_option maxHeartbeats 4000000 in
set_option maxRecDepth 100000 in
theorem t_Mo_leads_J21 {E : q_E} {c d : Nat} {ρ : Int32 × q_W} : ∀ (x : q_W) (v1 : Int32) (v2 : Int32), f_Mo_leads_J21  x v1 v2 = some ρ → AW E (q_rm 2) m_Mo_leads (q_cells E c d x) 0 0 21 [(0, .ref 32), (1, .int v1), (2, .int v2)] [.ref 32] (q_rS E c d ρ) := by
  intro x v1 v2 h
  unfold f_Mo_leads_J21 at h
  refine q_iconst (v := 0) 22 d_Mo_leads_21 rfl (by decide) ?_
  exact t_Mo_leads_J22  _ _ _ _ h
set_option maxHeartbeats 4000000 in
set_option maxRecDepth 100000 in
theorem t_Mo_leads {E : q_E} {c d : Nat} {x : q_W} {a1 : Int32} {a2 : Int32} {ρ : Int32 × q_W} (h : f_Mo_leads x a1 a2 = some ρ) : q_Ct E y_Mo_leads m_Mo_leads (q_rm 2) (q_cells E c d x) [.ref 32, .int a1, .int a2] (q_rS E c d ρ) := by
  unfold f_Mo_leads at h
  refine q_Ct.of (lv := [(0, .ref 32), (1, .int a1), (2, .int a2)]) (by decide) ⟨rfl, rfl⟩ rfl (Nat.le_of_ble_eq_true rfl) ?_
  refine q_aloadn 1 d_Mo_leads_0 rfl 0 rfl ?_
  refine q_aloadn 2 d_Mo_leads_1 rfl 0 rfl ?_
  refine q_iloadn 3 d_Mo_leads_2 rfl 1 rfl ?_
  refine q_xcallP (as := [.ref 32, .int a1]) (rest := [.ref 32]) 6 h (fun z e => t_Mo_isState e) (q_xinvV (Y := m_Mo_isState) d_Mo_leads_3 ml_Mo_212 ms_Mo_isState.1 ms_Mo_isState.2 k_Mo_isState.1 (by decide) n_Mo_isState (by decide) rfl rfl) k_Mo_isState (q_ro (by decide) (by decide)) (Nat.le_of_ble_eq_true rfl) d_Mo_leads_3 rfl rfl rfl (fun w1 ew1 h => ?_)
  refine q_ite h (fun c4 h => ?_) (fun c4 h => ?_)
  · refine q_if_eq_t 21 d_Mo_leads_6 (by decide) c4 ?_
    exact t_Mo_leads_J21  _ _ _ h
  · refine q_if_eq_f 9 d_Mo_leads_6 rfl 21 (by decide) c4 ?_
    refine q_aloadn 10 d_Mo_leads_9 rfl 0 rfl ?_
    refine q_iloadn 11 d_Mo_leads_10 rfl 2 rfl ?_
    refine q_xcallP (as := [.ref 32, .int a2]) (rest := [.ref 32]) 14 h (fun z e => t_Mo_isState e) (q_xinvV (Y := m_Mo_isState) d_Mo_leads_11 ml_Mo_212 ms_Mo_isState.1 ms_Mo_isState.2 k_Mo_isState.1 (by decide) n_Mo_isState (by decide) rfl rfl) k_Mo_isState (q_ro (by decide) (by decide)) (Nat.le_of_ble_eq_true rfl) d_Mo_leads_11 rfl rfl rfl (fun w2 ew2 h => ?_)
    refine q_ite h (fun c3 h => ?_) (fun c3 h => ?_)
    · refine q_if_eq_t 21 d_Mo_leads_14 (by decide) c3 ?_
      exact t_Mo_leads_J21  _ _ _ h
    · refine q_if_eq_f 17 d_Mo_leads_14 rfl 21 (by decide) c3 ?_
      refine q_iconst (v := 1) 18 d_Mo_leads_17 rfl (by decide) ?_
      refine q_goto 22 d_Mo_leads_18 (by decide) ?_
      exact t_Mo_leads_J22  _ _ _ _ h
set_option maxHeartbeats 4000000 in
set_option maxRecDepth 100000 in
theorem t_Mo_lasts {E : q_E} {c d : Nat} {x : q_W} {a1 : Int32} {ρ : Int32 × q_W} (h : f_Mo_lasts x a1 = some ρ) : q_Ct E y_Mo_lasts m_Mo_lasts (q_rm 2) (q_cells E c d x) [.ref 32, .int a1] (q_rS E c d ρ) := by
  unfold f_Mo_lasts at h
  refine q_Ct.of (lv := [(0, .ref 32), (1, .int a1)]) (by decide) ⟨rfl, rfl⟩ rfl (Nat.le_of_ble_eq_true rfl) ?_
  refine q_aloadn 1 d_Mo_lasts_0 rfl 0 rfl ?_
  refine q_aloadn 2 d_Mo_lasts_1 rfl 0 rfl ?_
  refine q_iloadn 3 d_Mo_lasts_2 rfl 1 rfl ?_
  refine q_xcallP (as := [.ref 32, .int a1]) (rest := [.ref 32]) 6 h (fun z e => t_Mo_isState e) (q_xinvV (Y := m_Mo_isState) d_Mo_lasts_3 ml_Mo_212 ms_Mo_isState.1 ms_Mo_isState.2 k_Mo_isState.1 (by decide) n_Mo_isState (by decide) rfl rfl) k_Mo_isState (q_ro (by decide) (by decide)) (Nat.le_of_ble_eq_true rfl) d_Mo_lasts_3 rfl rfl rfl (fun w1 ew1 h => ?_)
  refine q_xcallS (as := [.ref 32, .int w1]) (rest := []) 9 h (fun z e => t_Mo_refused e) (q_xinvV (Y := m_Mo_refused) d_Mo_lasts_6 ml_Mo_208 ms_Mo_refused.1 ms_Mo_refused.2 k_Mo_refused.1 (by decide) n_Mo_refused (by decide) rfl rfl) k_Mo_refused (q_ro (by decide) (by decide)) (Nat.le_of_ble_eq_true rfl) d_Mo_lasts_6 rfl rfl rfl (fun q2 eq2 h => ?_)
  refine q_ite h (fun c5 h => ?_) (fun c5 h => ?_)
  · refine q_if_ne_t 25 d_Mo_lasts_9 (by decide) c5 ?_
    refine q_iconst (v := 0) 26 d_Mo_lasts_25 rfl (by decide) ?_
    cases h
    exact q_zret d_Mo_lasts_26 rfl (Nat.zero_le _) (Nat.zero_le _)
  · refine q_if_ne_f 12 d_Mo_lasts_9 rfl 25 (by decide) (Classical.not_not.mp c5) ?_
    refine q_aloadn 13 d_Mo_lasts_12 rfl 0 rfl ?_
    refine q_xget 16 d_Mo_lasts_13 rfl fl_Mo_65 (by decide) rfl rfl ?_
    refine q_iloadn 17 d_Mo_lasts_16 rfl 1 rfl ?_
    refine q_xzald 18 d_Mo_lasts_17 rfl (by decide) (fun _ => rfl) h (fun w3 ew3 h => ?_)
    refine q_ite h (fun c4 h => ?_) (fun c4 h => ?_)
    · refine q_if_eq_t 25 d_Mo_lasts_18 (by decide) c4 ?_
      refine q_iconst (v := 0) 26 d_Mo_lasts_25 rfl (by decide) ?_
      cases h
      exact q_zret d_Mo_lasts_26 rfl (Nat.zero_le _) (Nat.zero_le _)
    · refine q_if_eq_f 21 d_Mo_lasts_18 rfl 25 (by decide) c4 ?_
      refine q_iconst (v := 1) 22 d_Mo_lasts_21 rfl (by decide) ?_
      refine q_goto 26 d_Mo_lasts_22 (by decide) ?_
      cases h
      exact q_zret d_Mo_lasts_26 rfl (Nat.zero_le _) (Nat.zero_le _)
set_option maxHeartbeats 4000000 in
set_option maxRecDepth 100000 in
theorem t_Mo_lasting_L14 {E : q_E} {c d : Nat} {ρ : Int32 × q_W} : ∀ (n : Nat) (x : q_W) (v1 : Int32) (v2 : Int32), f_Mo_lasting_L14  n x v1 v2 = some ρ → AW E (q_rm 1) m_Mo_lasting (q_cells E c d x) 0 0 14 [(0, .ref 32), (1, .int v1), (2, .int v2)] [] (q_rS E c d ρ) := by
  intro n
  induction n with
  | zero =>
    intro x v1 v2 h
    have h : (none : Option (Int32 × q_W)) = some ρ := h
    cases h
  | succ n ih =>
    intro x v1 v2 h
    unfold f_Mo_lasting_L14 at h
    refine q_iloadn 15 d_Mo_lasting_14 rfl 2 rfl ?_
    refine q_aloadn 16 d_Mo_lasting_15 rfl 0 rfl ?_
    refine q_xcallP (as := [.ref 32]) (rest := [.int v2]) 19 h (fun z e => t_Mo_count e) (q_xinvV (Y := m_Mo_count) d_Mo_lasting_16 ml_Mo_159 ms_Mo_count.1 ms_Mo_count.2 k_Mo_count.1 (by decide) n_Mo_count (by decide) rfl rfl) k_Mo_count (q_ro (by decide) (by decide)) (Nat.le_of_ble_eq_true rfl) d_Mo_lasting_16 rfl rfl rfl (fun w3 ew3 h => ?_)
    refine q_ite h (fun c7 h => ?_) (fun c7 h => ?_)
    · refine q_icmp_ge_t 45 d_Mo_lasting_19 (by decide) c7 ?_
      refine q_iloadn 46 d_Mo_lasting_45 rfl 1 rfl ?_
      cases h
      exact q_iret d_Mo_lasting_46 rfl (Nat.zero_le _) (Nat.zero_le _)
    · refine q_icmp_ge_f 22 d_Mo_lasting_19 rfl 45 (by decide) c7 ?_
      refine q_aloadn 23 d_Mo_lasting_22 rfl 0 rfl ?_
      refine q_xget 26 d_Mo_lasting_23 rfl fl_Mo_65 (by decide) rfl rfl ?_
      refine q_iloadn 27 d_Mo_lasting_26 rfl 2 rfl ?_
      refine q_xzald 28 d_Mo_lasting_27 rfl (by decide) (fun _ => rfl) h (fun w4 ew4 h => ?_)
      refine q_ite h (fun c6 h => ?_) (fun c6 h => ?_)
      · refine q_if_eq_t 37 d_Mo_lasting_28 (by decide) c6 ?_
        refine q_iloadn 38 d_Mo_lasting_37 rfl 1 rfl ?_
        refine q_istoren (lv' := [(1, .int v1), (0, .ref 32), (2, .int v2)]) 39 d_Mo_lasting_38 rfl (by decide) rfl ?_
        refine q_iinc (v := (v2 + 1)) (lv' := [(2, .int (v2 + 1)), (1, .int v1), (0, .ref 32)]) 42 d_Mo_lasting_39 rfl 2 rfl (q_ai (by decide)) (by decide) rfl ?_
        refine q_goto 14 d_Mo_lasting_42 (by decide) ?_
        refine q_sub (lv' := [(0, .ref 32), (1, .int v1), (2, .int (v2 + 1))]) [2, 1, 0] rfl ?_
        exact ih _ _ _ h
      · refine q_if_eq_f 31 d_Mo_lasting_28 rfl 37 (by decide) c6 ?_
        refine q_iloadn 32 d_Mo_lasting_31 rfl 1 rfl ?_
        refine q_iconst (v := 1) 33 d_Mo_lasting_32 rfl (by decide) ?_
        refine q_iadd 34 d_Mo_lasting_33 rfl ?_
        refine q_goto 38 d_Mo_lasting_34 (by decide) ?_
        refine q_xtop h (fun z5 ez5 h => ?_)
        refine q_istoren (lv' := [(1, .int z5), (0, .ref 32), (2, .int v2)]) 39 d_Mo_lasting_38 rfl (by decide) rfl ?_
        refine q_iinc (v := (v2 + 1)) (lv' := [(2, .int (v2 + 1)), (1, .int z5), (0, .ref 32)]) 42 d_Mo_lasting_39 rfl 2 rfl (q_ai (by decide)) (by decide) rfl ?_
        refine q_goto 14 d_Mo_lasting_42 (by decide) ?_
        refine q_sub (lv' := [(0, .ref 32), (1, .int z5), (2, .int (v2 + 1))]) [2, 1, 0] rfl ?_
        exact ih _ _ _ h
set_option maxHeartbeats 4000000 in
set_option maxRecDepth 100000 in
theorem t_Mo_lasting {E : q_E} {c d : Nat} {x : q_W} {ρ : Int32 × q_W} (h : f_Mo_lasting x = some ρ) : q_Ct E y_Mo_lasting m_Mo_lasting (q_rm 1) (q_cells E c d x) [.ref 32] (q_rS E c d ρ) := by
  unfold f_Mo_lasting at h
  refine q_Ct.of (lv := [(0, .ref 32)]) (by decide) ⟨rfl, rfl⟩ rfl (Nat.le_of_ble_eq_true rfl) ?_
  refine q_aloadn 1 d_Mo_lasting_0 rfl 0 rfl ?_
  refine q_iconst (v := 1) 2 d_Mo_lasting_1 rfl (by decide) ?_
  refine q_xcallS (as := [.ref 32, .int 1]) (rest := []) 5 h (fun z e => t_Mo_refused e) (q_xinvV (Y := m_Mo_refused) d_Mo_lasting_2 ml_Mo_208 ms_Mo_refused.1 ms_Mo_refused.2 k_Mo_refused.1 (by decide) n_Mo_refused (by decide) rfl rfl) k_Mo_refused (q_ro (by decide) (by decide)) (Nat.le_of_ble_eq_true rfl) d_Mo_lasting_2 rfl rfl rfl (fun q1 eq1 h => ?_)
  refine q_ite h (fun c2 h => ?_) (fun c2 h => ?_)
  · refine q_if_eq_t 10 d_Mo_lasting_5 (by decide) c2 ?_
    refine q_iconst (v := 0) 11 d_Mo_lasting_10 rfl (by decide) ?_
    refine q_istoren (lv' := [(1, .int 0), (0, .ref 32)]) 12 d_Mo_lasting_11 rfl (by decide) rfl ?_
    refine q_iconst (v := 0) 13 d_Mo_lasting_12 rfl (by decide) ?_
    refine q_istoren (lv' := [(2, .int 0), (1, .int 0), (0, .ref 32)]) 14 d_Mo_lasting_13 rfl (by decide) rfl ?_
    refine q_sub (lv' := [(0, .ref 32), (1, .int 0), (2, .int 0)]) [2, 1, 0] rfl ?_
    exact t_Mo_lasting_L14  q_fu _ _ _ h
  · refine q_if_eq_f 8 d_Mo_lasting_5 rfl 10 (by decide) c2 ?_
    refine q_iconst (v := 0) 9 d_Mo_lasting_8 rfl (by decide) ?_
    cases h
    exact q_iret d_Mo_lasting_9 rfl (Nat.zero_le _) (Nat.zero_le _)
set_option maxHeartbeats 4000000 in
set_option maxRecDepth 100000 in
theorem t_Mo_promises {E : q_E} {c d : Nat} {x : q_W} {ρ : Int32 × q_W} (h : f_Mo_promises x = some ρ) : q_Ct E y_Mo_promises m_Mo_promises (q_rm 1) (q_cells E c d x) [.ref 32] (q_rS E c d ρ) := by
  unfold f_Mo_promises at h
  refine q_Ct.of (lv := [(0, .ref 32)]) (by decide) ⟨rfl, rfl⟩ rfl (Nat.le_of_ble_eq_true rfl) ?_
  refine q_aloadn 1 d_Mo_promises_0 rfl 0 rfl ?_
  refine q_iconst (v := 1) 2 d_Mo_promises_1 rfl (by decide) ?_
  refine q_xcallS (as := [.ref 32, .int 1]) (rest := []) 5 h (fun z e => t_Mo_refused e) (q_xinvV (Y := m_Mo_refused) d_Mo_promises_2 ml_Mo_208 ms_Mo_refused.1 ms_Mo_refused.2 k_Mo_refused.1 (by decide) n_Mo_refused (by decide) rfl rfl) k_Mo_refused (q_ro (by decide) (by decide)) (Nat.le_of_ble_eq_true rfl) d_Mo_promises_2 rfl rfl rfl (fun q1 eq1 h => ?_)
  refine q_ite h (fun c2 h => ?_) (fun c2 h => ?_)
  · refine q_if_eq_t 12 d_Mo_promises_5 (by decide) c2 ?_
    refine q_aloadn 13 d_Mo_promises_12 rfl 0 rfl ?_
    refine q_xget 16 d_Mo_promises_13 rfl fl_Mo_156 (by decide) rfl rfl ?_
    cases h
    exact q_iret d_Mo_promises_16 rfl (Nat.zero_le _) (Nat.zero_le _)
  · refine q_if_eq_f 8 d_Mo_promises_5 rfl 12 (by decide) c2 ?_
    refine q_iconst (v := 0) 9 d_Mo_promises_8 rfl (by decide) ?_
    refine q_goto 16 d_Mo_promises_9 (by decide) ?_
    cases h
    exact q_iret d_Mo_promises_16 rfl (Nat.zero_le _) (Nat.zero_le _)
set_option maxHeartbeats 4000000 in
set_option maxRecDepth 100000 in
theorem t_Mo_can {E : q_E} {c d : Nat} {x : q_W} {ρ : Int32 × q_W} (h : f_Mo_can x = some ρ) : q_Ct E y_Mo_can m_Mo_can (q_rm 1) (q_cells E c d x) [.ref 32] (q_rS E c d ρ) := by
  unfold f_Mo_can at h
  refine q_Ct.of (lv := [(0, .ref 32)]) (by decide) ⟨rfl, rfl⟩ rfl (Nat.le_of_ble_eq_true rfl) ?_
  refine q_aloadn 1 d_Mo_can_0 rfl 0 rfl ?_
  refine q_iconst (v := 1) 2 d_Mo_can_1 rfl (by decide) ?_
  refine q_xcallS (as := [.ref 32, .int 1]) (rest := []) 5 h (fun z e => t_Mo_refused e) (q_xinvV (Y := m_Mo_refused) d_Mo_can_2 ml_Mo_208 ms_Mo_refused.1 ms_Mo_refused.2 k_Mo_refused.1 (by decide) n_Mo_refused (by decide) rfl rfl) k_Mo_refused (q_ro (by decide) (by decide)) (Nat.le_of_ble_eq_true rfl) d_Mo_can_2 rfl rfl rfl (fun q1 eq1 h => ?_)
  refine q_ite h (fun c3 h => ?_) (fun c3 h => ?_)
  · refine q_if_ne_t 19 d_Mo_can_5 (by decide) c3 ?_
    refine q_iconst (v := 0) 20 d_Mo_can_19 rfl (by decide) ?_
    cases h
    exact q_zret d_Mo_can_20 rfl (Nat.zero_le _) (Nat.zero_le _)
  · refine q_if_ne_f 8 d_Mo_can_5 rfl 19 (by decide) (Classical.not_not.mp c3) ?_
    refine q_aloadn 9 d_Mo_can_8 rfl 0 rfl ?_
    refine q_xget 12 d_Mo_can_9 rfl fl_Mo_192 (by decide) rfl rfl ?_
    refine q_ite h (fun c2 h => ?_) (fun c2 h => ?_)
    · refine q_if_lt_t 19 d_Mo_can_12 (by decide) c2 ?_
      refine q_iconst (v := 0) 20 d_Mo_can_19 rfl (by decide) ?_
      cases h
      exact q_zret d_Mo_can_20 rfl (Nat.zero_le _) (Nat.zero_le _)
    · refine q_if_lt_f 15 d_Mo_can_12 rfl 19 (by decide) c2 ?_
      refine q_iconst (v := 1) 16 d_Mo_can_15 rfl (by decide) ?_
      refine q_goto 20 d_Mo_can_16 (by decide) ?_
      cases h
      exact q_zret d_Mo_can_20 rfl (Nat.zero_le _) (Nat.zero_le _)
