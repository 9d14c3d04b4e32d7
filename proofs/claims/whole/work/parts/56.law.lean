set_option maxHeartbeats 8000000 in
set_option maxRecDepth 100000 in
theorem t_law_L {E : q_E} {ρ : Int32 × (Nat × Nat × q_W)} : ∀ (n c d : Nat) (x : q_W) (v4 : Int32) (ce sl : Nat), q_cd c d → ce + n ≤ 600000 → sl + 6 * n ≤ 7000000 → f_law_L E n c d x v4 = some ρ → AW E room_1 m_law (q_cells E c d x) ce sl 23 [(0, .ref 900), (1, .ref 0), (2, .ref 32), (3, .ref 59), (4, .int v4)] [] (q_rW E ρ) := by
  intro n
  induction n with
  | zero =>
    intro c d x v4 ce sl _ _ _ h
    have h : (none : Option (Int32 × (Nat × Nat × q_W))) = some ρ := h
    cases h
  | succ n ih =>
    intro c d x v4 ce sl hcd hce hsl h
    unfold f_law_L at h
    refine q_iload 25 d_Lw_law_23 rfl 4 rfl ?_
    refine q_aloadn 26 d_Lw_law_25 rfl 0 rfl ?_
    refine q_slen 27 d_Lw_law_26 rfl ?_
    refine q_iconst (v := 3) 28 d_Lw_law_27 rfl (by decide) ?_
    refine q_isub 29 d_Lw_law_28 rfl ?_
    refine q_ite h (fun c157 h => ?_) (fun c157 h => ?_)
    · refine q_icmp_gt_t 1047 d_Lw_law_29 (by decide) c157 ?_
      refine q_iconst (v := 1) 1048 d_Lw_law_1047 rfl (by decide) ?_
      cases h
      exact q_zret d_Lw_law_1048 rfl (by omega) (by omega)
    · refine q_icmp_gt_f 32 d_Lw_law_29 rfl 1047 (by decide) c157 ?_
      refine q_aloadn 33 d_Lw_law_32 rfl 0 rfl ?_
      refine q_iload 35 d_Lw_law_33 rfl 4 rfl ?_
      refine q_xsld 36 d_Lw_law_35 rfl h (fun w1 ew1 h => ?_)
      refine q_bipush (v := 31) 38 d_Lw_law_36 rfl (by decide) ?_
      refine q_iand 39 d_Lw_law_38 rfl ?_
      refine q_ite h (fun c2 h => ?_) (fun c2 h => ?_)
      · refine q_tableIn (off := 81) 120 d_Lw_law_39 (by rw [c2] <;> decide +kernel) (by rw [c2] <;> decide +kernel) (by rw [c2] <;> decide +kernel) (by decide) ?_
        refine q_aloadn 121 d_Lw_law_120 rfl 1 rfl ?_
        refine q_aloadn 122 d_Lw_law_121 rfl 0 rfl ?_
        refine q_iload 124 d_Lw_law_122 rfl 4 rfl ?_
        refine q_iconst (v := 1) 125 d_Lw_law_124 rfl (by decide) ?_
        refine q_iadd 126 d_Lw_law_125 rfl ?_
        refine q_xsld 127 d_Lw_law_126 rfl h (fun w3 ew3 h => ?_)
        refine q_aloadn 128 d_Lw_law_127 rfl 3 rfl ?_
        refine q_xcallL (as := [.ref 0, .int w3, .ref 59]) (rest := []) 131 h (fun z e => t_Lw_type hcd e) (q_invS (Y := m_Lw_type) d_Lw_law_128 ml_Lw_77 ms_Lw_type k_Lw_type.2 k_Lw_type.1 (by decide) n_Lw_type) k_Lw_type ⟨by decide, by decide, by simp only [room_1, q_rm]; omega, by simp only [room_1, q_rm]; omega⟩ (Nat.le_of_ble_eq_true rfl) d_Lw_law_128 rfl rfl rfl (fun q4 eq4 h => ?_)
        refine q_istore (lv' := [(5, .int q4.1), (0, .ref 900), (1, .ref 0), (2, .ref 32), (3, .ref 59), (4, .int v4)]) 133 d_Lw_law_131 rfl (by decide) rfl ?_
        refine q_aloadn 134 d_Lw_law_133 rfl 3 rfl ?_
        refine q_aloadn 135 d_Lw_law_134 rfl 1 rfl ?_
        refine q_iload 137 d_Lw_law_135 rfl 5 rfl ?_
        refine q_iconst (v := 1) 138 d_Lw_law_137 rfl (by decide) ?_
        refine q_iadd 139 d_Lw_law_138 rfl ?_
        refine q_xsld 140 d_Lw_law_139 rfl h (fun w5 ew5 h => ?_)
        refine q_xcallS (as := [.ref 32, .int w5]) (rest := []) 143 h (fun z e => t_Mo_type e) (q_xinvV (Y := m_Mo_type) d_Lw_law_140 ml_Lw_82 ms_Mo_type.1 ms_Mo_type.2 k_Mo_type.1 (by decide) n_Mo_type (by decide) rfl rfl) k_Mo_type ⟨by decide, by decide, by simp only [room_1, q_rm]; omega, by simp only [room_1, q_rm]; omega⟩ (Nat.le_of_ble_eq_true rfl) d_Lw_law_140 rfl rfl rfl (fun q6 eq6 h => ?_)
        refine q_istore (lv' := [(6, .int q6.1), (5, .int q4.1), (0, .ref 900), (1, .ref 0), (2, .ref 32), (3, .ref 59), (4, .int v4)]) 145 d_Lw_law_143 rfl (by decide) rfl ?_
        refine q_aloadn 146 d_Lw_law_145 rfl 4 rfl ?_
        refine q_xcallP (as := [.ref 32]) (rest := []) 149 h (fun z e => t_Mo_thrown e) (q_xinvV (Y := m_Mo_thrown) d_Lw_law_146 ml_Lw_83 ms_Mo_thrown.1 ms_Mo_thrown.2 k_Mo_thrown.1 (by decide) n_Mo_thrown (by decide) rfl rfl) k_Mo_thrown ⟨by decide, by decide, by simp only [room_1, q_rm]; omega, by simp only [room_1, q_rm]; omega⟩ (Nat.le_of_ble_eq_true rfl) d_Lw_law_146 rfl rfl rfl (fun w7 ew7 h => ?_)
        refine q_iload 151 d_Lw_law_149 rfl 1 rfl ?_
        refine q_ite h (fun c12 h => ?_) (fun c12 h => ?_)
        · refine q_icmp_eq_t 156 d_Lw_law_151 (by decide) c12 ?_
          refine q_iload 158 d_Lw_law_156 rfl 1 rfl ?_
          refine q_ite h (fun c11 h => ?_) (fun c11 h => ?_)
          · refine q_if_ne_t 180 d_Lw_law_158 (by decide) c11 ?_
            refine q_goto 1041 d_Lw_law_180 (by decide) ?_
            refine q_iinc (v := (v4 + 3)) (lv' := [(4, .int (v4 + 3)), (6, .int q6.1), (5, .int q4.1), (0, .ref 900), (1, .ref 0), (2, .ref 32), (3, .ref 59)]) 1044 d_Lw_law_1041 rfl 6 rfl (q_ai (by decide)) (by decide) rfl ?_
            refine q_goto 23 d_Lw_law_1044 (by decide) ?_
            refine q_sub (lv' := [(0, .ref 900), (1, .ref 0), (2, .ref 32), (3, .ref 59), (4, .int (v4 + 3))]) [3, 4, 5, 6, 0] rfl ?_
            exact ih _ _ _ _ _ _ hcd (by omega) (by omega) h
          · refine q_if_ne_f 161 d_Lw_law_158 rfl 180 (by decide) (Classical.not_not.mp c11) ?_
            refine q_aloadn 162 d_Lw_law_161 rfl 5 rfl ?_
            refine q_iconst (v := 0) 163 d_Lw_law_162 rfl (by decide) ?_
            refine q_xlald 164 d_Lw_law_163 rfl ?_
            refine q_iload 166 d_Lw_law_164 rfl 0 rfl ?_
            refine q_ite h (fun c10 h => ?_) (fun c10 h => ?_)
            · refine q_if_eq_t 173 d_Lw_law_166 (by decide) c10 ?_
              refine q_lconst (v := 0) 174 d_Lw_law_173 rfl (by decide) ?_
              refine q_lcmp 175 d_Lw_law_174 rfl ?_
              refine q_ite h (fun c8 h => ?_) (fun c8 h => ?_)
              · refine q_if_eq_t 180 d_Lw_law_175 (by decide) c8 ?_
                refine q_goto 1041 d_Lw_law_180 (by decide) ?_
                refine q_iinc (v := (v4 + 3)) (lv' := [(4, .int (v4 + 3)), (6, .int q6.1), (5, .int q4.1), (0, .ref 900), (1, .ref 0), (2, .ref 32), (3, .ref 59)]) 1044 d_Lw_law_1041 rfl 6 rfl (q_ai (by decide)) (by decide) rfl ?_
                refine q_goto 23 d_Lw_law_1044 (by decide) ?_
                refine q_sub (lv' := [(0, .ref 900), (1, .ref 0), (2, .ref 32), (3, .ref 59), (4, .int (v4 + 3))]) [3, 4, 5, 6, 0] rfl ?_
                exact ih _ _ _ _ _ _ hcd (by omega) (by omega) h
              · refine q_if_eq_f 178 d_Lw_law_175 rfl 180 (by decide) c8 ?_
                refine q_iconst (v := 0) 179 d_Lw_law_178 rfl (by decide) ?_
                cases h
                exact q_zret d_Lw_law_179 rfl (by omega) (by omega)
            · refine q_if_eq_f 169 d_Lw_law_166 rfl 173 (by decide) c10 ?_
              refine q_lconst (v := 1) 170 d_Lw_law_169 rfl (by decide) ?_
              refine q_goto 174 d_Lw_law_170 (by decide) ?_
              refine q_lcmp 175 d_Lw_law_174 rfl ?_
              refine q_ite h (fun c9 h => ?_) (fun c9 h => ?_)
              · refine q_if_eq_t 180 d_Lw_law_175 (by decide) c9 ?_
                refine q_goto 1041 d_Lw_law_180 (by decide) ?_
                refine q_iinc (v := (v4 + 3)) (lv' := [(4, .int (v4 + 3)), (6, .int q6.1), (5, .int q4.1), (0, .ref 900), (1, .ref 0), (2, .ref 32), (3, .ref 59)]) 1044 d_Lw_law_1041 rfl 6 rfl (q_ai (by decide)) (by decide) rfl ?_
                refine q_goto 23 d_Lw_law_1044 (by decide) ?_
                refine q_sub (lv' := [(0, .ref 900), (1, .ref 0), (2, .ref 32), (3, .ref 59), (4, .int (v4 + 3))]) [3, 4, 5, 6, 0] rfl ?_
                exact ih _ _ _ _ _ _ hcd (by omega) (by omega) h
              · refine q_if_eq_f 178 d_Lw_law_175 rfl 180 (by decide) c9 ?_
                refine q_iconst (v := 0) 179 d_Lw_law_178 rfl (by decide) ?_
                cases h
                exact q_zret d_Lw_law_179 rfl (by omega) (by omega)
        · refine q_icmp_eq_f 154 d_Lw_law_151 rfl 156 (by decide) c12 ?_
          refine q_iconst (v := 0) 155 d_Lw_law_154 rfl (by decide) ?_
          cases h
          exact q_zret d_Lw_law_155 rfl (by omega) (by omega)
      · refine q_ite h (fun c13 h => ?_) (fun c13 h => ?_)
        · refine q_tableIn (off := 144) 183 d_Lw_law_39 (by rw [c13] <;> decide +kernel) (by rw [c13] <;> decide +kernel) (by rw [c13] <;> decide +kernel) (by decide) ?_
          refine q_aloadn 184 d_Lw_law_183 rfl 1 rfl ?_
          refine q_aloadn 185 d_Lw_law_184 rfl 3 rfl ?_
          refine q_xcallF (as := [.ref 0, .ref 59]) (rest := []) 188 h (fun z e => t_Lw_formula hcd e) (q_invS (Y := m_Lw_formula) d_Lw_law_185 ml_Lw_86 ms_Lw_formula k_Lw_formula.2 k_Lw_formula.1 (by decide) n_Lw_formula) k_Lw_formula ⟨by decide, by decide, by simp only [room_1, q_rm]; omega, by simp only [room_1, q_rm]; omega⟩ (Nat.le_of_ble_eq_true rfl) d_Lw_law_185 rfl rfl rfl (fun q14 eq14 h => ?_)
          refine q_istore (lv' := [(5, .int q14.1), (0, .ref 900), (1, .ref 0), (2, .ref 32), (3, .ref 59), (4, .int v4)]) 190 d_Lw_law_188 rfl (by decide) rfl ?_
          refine q_aloadn 191 d_Lw_law_190 rfl 3 rfl ?_
          refine q_xcallS (as := [.ref 32]) (rest := []) 194 h (fun z e => t_Mo_formula e) (q_xinvV (Y := m_Mo_formula) d_Lw_law_191 ml_Lw_89 ms_Mo_formula.1 ms_Mo_formula.2 k_Mo_formula.1 (by decide) n_Mo_formula (by decide) rfl rfl) k_Mo_formula ⟨by decide, by decide, by simp only [room_1, q_rm]; omega, by simp only [room_1, q_rm]; omega⟩ (Nat.le_of_ble_eq_true rfl) d_Lw_law_191 rfl rfl rfl (fun q15 eq15 h => ?_)
          refine q_istore (lv' := [(6, .int q15.1), (5, .int q14.1), (0, .ref 900), (1, .ref 0), (2, .ref 32), (3, .ref 59), (4, .int v4)]) 196 d_Lw_law_194 rfl (by decide) rfl ?_
          refine q_aloadn 197 d_Lw_law_196 rfl 4 rfl ?_
          refine q_xcallP (as := [.ref 32]) (rest := []) 200 h (fun z e => t_Mo_thrown e) (q_xinvV (Y := m_Mo_thrown) d_Lw_law_197 ml_Lw_83 ms_Mo_thrown.1 ms_Mo_thrown.2 k_Mo_thrown.1 (by decide) n_Mo_thrown (by decide) rfl rfl) k_Mo_thrown ⟨by decide, by decide, by simp only [room_1, q_rm]; omega, by simp only [room_1, q_rm]; omega⟩ (Nat.le_of_ble_eq_true rfl) d_Lw_law_197 rfl rfl rfl (fun w16 ew16 h => ?_)
          refine q_iload 202 d_Lw_law_200 rfl 1 rfl ?_
          refine q_ite h (fun c19 h => ?_) (fun c19 h => ?_)
          · refine q_icmp_eq_t 207 d_Lw_law_202 (by decide) c19 ?_
            refine q_iload 209 d_Lw_law_207 rfl 1 rfl ?_
            refine q_ite h (fun c18 h => ?_) (fun c18 h => ?_)
            · refine q_if_ne_t 224 d_Lw_law_209 (by decide) c18 ?_
              refine q_goto 1041 d_Lw_law_224 (by decide) ?_
              refine q_iinc (v := (v4 + 3)) (lv' := [(4, .int (v4 + 3)), (6, .int q15.1), (5, .int q14.1), (0, .ref 900), (1, .ref 0), (2, .ref 32), (3, .ref 59)]) 1044 d_Lw_law_1041 rfl 6 rfl (q_ai (by decide)) (by decide) rfl ?_
              refine q_goto 23 d_Lw_law_1044 (by decide) ?_
              refine q_sub (lv' := [(0, .ref 900), (1, .ref 0), (2, .ref 32), (3, .ref 59), (4, .int (v4 + 3))]) [3, 4, 5, 6, 0] rfl ?_
              exact ih _ _ _ _ _ _ (q_cdF hcd eq14) (by omega) (by omega) h
            · refine q_if_ne_f 212 d_Lw_law_209 rfl 224 (by decide) (Classical.not_not.mp c18) ?_
              refine q_aloadn 213 d_Lw_law_212 rfl 5 rfl ?_
              refine q_iconst (v := 0) 214 d_Lw_law_213 rfl (by decide) ?_
              refine q_xlald 215 d_Lw_law_214 rfl ?_
              refine q_iload 217 d_Lw_law_215 rfl 0 rfl ?_
              refine q_i2l 218 d_Lw_law_217 rfl ?_
              refine q_lcmp 219 d_Lw_law_218 rfl ?_
              refine q_ite h (fun c17 h => ?_) (fun c17 h => ?_)
              · refine q_if_eq_t 224 d_Lw_law_219 (by decide) c17 ?_
                refine q_goto 1041 d_Lw_law_224 (by decide) ?_
                refine q_iinc (v := (v4 + 3)) (lv' := [(4, .int (v4 + 3)), (6, .int q15.1), (5, .int q14.1), (0, .ref 900), (1, .ref 0), (2, .ref 32), (3, .ref 59)]) 1044 d_Lw_law_1041 rfl 6 rfl (q_ai (by decide)) (by decide) rfl ?_
                refine q_goto 23 d_Lw_law_1044 (by decide) ?_
                refine q_sub (lv' := [(0, .ref 900), (1, .ref 0), (2, .ref 32), (3, .ref 59), (4, .int (v4 + 3))]) [3, 4, 5, 6, 0] rfl ?_
                exact ih _ _ _ _ _ _ (q_cdF hcd eq14) (by omega) (by omega) h
              · refine q_if_eq_f 222 d_Lw_law_219 rfl 224 (by decide) c17 ?_
                refine q_iconst (v := 0) 223 d_Lw_law_222 rfl (by decide) ?_
                cases h
                exact q_zret d_Lw_law_223 rfl (by omega) (by omega)
          · refine q_icmp_eq_f 205 d_Lw_law_202 rfl 207 (by decide) c19 ?_
            refine q_iconst (v := 0) 206 d_Lw_law_205 rfl (by decide) ?_
            cases h
            exact q_zret d_Lw_law_206 rfl (by omega) (by omega)
        · refine q_ite h (fun c20 h => ?_) (fun c20 h => ?_)
          · refine q_tableIn (off := 188) 227 d_Lw_law_39 (by rw [c20] <;> decide +kernel) (by rw [c20] <;> decide +kernel) (by rw [c20] <;> decide +kernel) (by decide) ?_
            refine q_aloadn 228 d_Lw_law_227 rfl 1 rfl ?_
            refine q_aloadn 229 d_Lw_law_228 rfl 3 rfl ?_
            refine q_xcallL (as := [.ref 0, .ref 59]) (rest := []) 232 h (fun z e => t_Lw_states hcd e) (q_invS (Y := m_Lw_states) d_Lw_law_229 ml_Lw_90 ms_Lw_states k_Lw_states.2 k_Lw_states.1 (by decide) n_Lw_states) k_Lw_states ⟨by decide, by decide, by simp only [room_1, q_rm]; omega, by simp only [room_1, q_rm]; omega⟩ (Nat.le_of_ble_eq_true rfl) d_Lw_law_229 rfl rfl rfl (fun q21 eq21 h => ?_)
            refine q_istore (lv' := [(5, .int q21.1), (0, .ref 900), (1, .ref 0), (2, .ref 32), (3, .ref 59), (4, .int v4)]) 234 d_Lw_law_232 rfl (by decide) rfl ?_
            refine q_aloadn 235 d_Lw_law_234 rfl 3 rfl ?_
            refine q_xcallS (as := [.ref 32]) (rest := []) 238 h (fun z e => t_Mo_states e) (q_xinvV (Y := m_Mo_states) d_Lw_law_235 ml_Lw_92 ms_Mo_states.1 ms_Mo_states.2 k_Mo_states.1 (by decide) n_Mo_states (by decide) rfl rfl) k_Mo_states ⟨by decide, by decide, by simp only [room_1, q_rm]; omega, by simp only [room_1, q_rm]; omega⟩ (Nat.le_of_ble_eq_true rfl) d_Lw_law_235 rfl rfl rfl (fun q22 eq22 h => ?_)
            refine q_istore (lv' := [(6, .int q22.1), (5, .int q21.1), (0, .ref 900), (1, .ref 0), (2, .ref 32), (3, .ref 59), (4, .int v4)]) 240 d_Lw_law_238 rfl (by decide) rfl ?_
            refine q_aloadn 241 d_Lw_law_240 rfl 4 rfl ?_
            refine q_xcallP (as := [.ref 32]) (rest := []) 244 h (fun z e => t_Mo_thrown e) (q_xinvV (Y := m_Mo_thrown) d_Lw_law_241 ml_Lw_83 ms_Mo_thrown.1 ms_Mo_thrown.2 k_Mo_thrown.1 (by decide) n_Mo_thrown (by decide) rfl rfl) k_Mo_thrown ⟨by decide, by decide, by simp only [room_1, q_rm]; omega, by simp only [room_1, q_rm]; omega⟩ (Nat.le_of_ble_eq_true rfl) d_Lw_law_241 rfl rfl rfl (fun w23 ew23 h => ?_)
            refine q_iload 246 d_Lw_law_244 rfl 1 rfl ?_
            refine q_ite h (fun c26 h => ?_) (fun c26 h => ?_)
            · refine q_icmp_eq_t 251 d_Lw_law_246 (by decide) c26 ?_
              refine q_iload 253 d_Lw_law_251 rfl 1 rfl ?_
              refine q_ite h (fun c25 h => ?_) (fun c25 h => ?_)
              · refine q_if_ne_t 268 d_Lw_law_253 (by decide) c25 ?_
                refine q_goto 1041 d_Lw_law_268 (by decide) ?_
                refine q_iinc (v := (v4 + 3)) (lv' := [(4, .int (v4 + 3)), (6, .int q22.1), (5, .int q21.1), (0, .ref 900), (1, .ref 0), (2, .ref 32), (3, .ref 59)]) 1044 d_Lw_law_1041 rfl 6 rfl (q_ai (by decide)) (by decide) rfl ?_
                refine q_goto 23 d_Lw_law_1044 (by decide) ?_
                refine q_sub (lv' := [(0, .ref 900), (1, .ref 0), (2, .ref 32), (3, .ref 59), (4, .int (v4 + 3))]) [3, 4, 5, 6, 0] rfl ?_
                exact ih _ _ _ _ _ _ hcd (by omega) (by omega) h
              · refine q_if_ne_f 256 d_Lw_law_253 rfl 268 (by decide) (Classical.not_not.mp c25) ?_
                refine q_aloadn 257 d_Lw_law_256 rfl 5 rfl ?_
                refine q_iconst (v := 0) 258 d_Lw_law_257 rfl (by decide) ?_
                refine q_xlald 259 d_Lw_law_258 rfl ?_
                refine q_iload 261 d_Lw_law_259 rfl 0 rfl ?_
                refine q_i2l 262 d_Lw_law_261 rfl ?_
                refine q_lcmp 263 d_Lw_law_262 rfl ?_
                refine q_ite h (fun c24 h => ?_) (fun c24 h => ?_)
                · refine q_if_eq_t 268 d_Lw_law_263 (by decide) c24 ?_
                  refine q_goto 1041 d_Lw_law_268 (by decide) ?_
                  refine q_iinc (v := (v4 + 3)) (lv' := [(4, .int (v4 + 3)), (6, .int q22.1), (5, .int q21.1), (0, .ref 900), (1, .ref 0), (2, .ref 32), (3, .ref 59)]) 1044 d_Lw_law_1041 rfl 6 rfl (q_ai (by decide)) (by decide) rfl ?_
                  refine q_goto 23 d_Lw_law_1044 (by decide) ?_
                  refine q_sub (lv' := [(0, .ref 900), (1, .ref 0), (2, .ref 32), (3, .ref 59), (4, .int (v4 + 3))]) [3, 4, 5, 6, 0] rfl ?_
                  exact ih _ _ _ _ _ _ hcd (by omega) (by omega) h
                · refine q_if_eq_f 266 d_Lw_law_263 rfl 268 (by decide) c24 ?_
                  refine q_iconst (v := 0) 267 d_Lw_law_266 rfl (by decide) ?_
                  cases h
                  exact q_zret d_Lw_law_267 rfl (by omega) (by omega)
            · refine q_icmp_eq_f 249 d_Lw_law_246 rfl 251 (by decide) c26 ?_
              refine q_iconst (v := 0) 250 d_Lw_law_249 rfl (by decide) ?_
              cases h
              exact q_zret d_Lw_law_250 rfl (by omega) (by omega)
          · refine q_ite h (fun c27 h => ?_) (fun c27 h => ?_)
            · refine q_tableIn (off := 232) 271 d_Lw_law_39 (by rw [c27] <;> decide +kernel) (by rw [c27] <;> decide +kernel) (by rw [c27] <;> decide +kernel) (by decide) ?_
              refine q_aloadn 272 d_Lw_law_271 rfl 1 rfl ?_
              refine q_aloadn 273 d_Lw_law_272 rfl 0 rfl ?_
              refine q_iload 275 d_Lw_law_273 rfl 4 rfl ?_
              refine q_iconst (v := 1) 276 d_Lw_law_275 rfl (by decide) ?_
              refine q_iadd 277 d_Lw_law_276 rfl ?_
              refine q_xsld 278 d_Lw_law_277 rfl h (fun w28 ew28 h => ?_)
              refine q_aloadn 279 d_Lw_law_278 rfl 3 rfl ?_
              refine q_xcallL (as := [.ref 0, .int w28, .ref 59]) (rest := []) 282 h (fun z e => t_Lw_isAt hcd e) (q_invS (Y := m_Lw_isAt) d_Lw_law_279 ml_Lw_93 ms_Lw_isAt k_Lw_isAt.2 k_Lw_isAt.1 (by decide) n_Lw_isAt) k_Lw_isAt ⟨by decide, by decide, by simp only [room_1, q_rm]; omega, by simp only [room_1, q_rm]; omega⟩ (Nat.le_of_ble_eq_true rfl) d_Lw_law_279 rfl rfl rfl (fun q29 eq29 h => ?_)
              refine q_istore (lv' := [(5, .int q29.1), (0, .ref 900), (1, .ref 0), (2, .ref 32), (3, .ref 59), (4, .int v4)]) 284 d_Lw_law_282 rfl (by decide) rfl ?_
              refine q_aloadn 285 d_Lw_law_284 rfl 3 rfl ?_
              refine q_aloadn 286 d_Lw_law_285 rfl 1 rfl ?_
              refine q_iload 288 d_Lw_law_286 rfl 5 rfl ?_
              refine q_iconst (v := 1) 289 d_Lw_law_288 rfl (by decide) ?_
              refine q_iadd 290 d_Lw_law_289 rfl ?_
              refine q_xsld 291 d_Lw_law_290 rfl h (fun w30 ew30 h => ?_)
              refine q_xcallS (as := [.ref 32, .int w30]) (rest := []) 294 h (fun z e => t_Mo_isAt e) (q_xinvV (Y := m_Mo_isAt) d_Lw_law_291 ml_Lw_95 ms_Mo_isAt.1 ms_Mo_isAt.2 k_Mo_isAt.1 (by decide) n_Mo_isAt (by decide) rfl rfl) k_Mo_isAt ⟨by decide, by decide, by simp only [room_1, q_rm]; omega, by simp only [room_1, q_rm]; omega⟩ (Nat.le_of_ble_eq_true rfl) d_Lw_law_291 rfl rfl rfl (fun q31 eq31 h => ?_)
              refine q_istore (lv' := [(6, .int q31.1), (5, .int q29.1), (0, .ref 900), (1, .ref 0), (2, .ref 32), (3, .ref 59), (4, .int v4)]) 296 d_Lw_law_294 rfl (by decide) rfl ?_
              refine q_aloadn 297 d_Lw_law_296 rfl 4 rfl ?_
              refine q_xcallP (as := [.ref 32]) (rest := []) 300 h (fun z e => t_Mo_thrown e) (q_xinvV (Y := m_Mo_thrown) d_Lw_law_297 ml_Lw_83 ms_Mo_thrown.1 ms_Mo_thrown.2 k_Mo_thrown.1 (by decide) n_Mo_thrown (by decide) rfl rfl) k_Mo_thrown ⟨by decide, by decide, by simp only [room_1, q_rm]; omega, by simp only [room_1, q_rm]; omega⟩ (Nat.le_of_ble_eq_true rfl) d_Lw_law_297 rfl rfl rfl (fun w32 ew32 h => ?_)
              refine q_iload 302 d_Lw_law_300 rfl 1 rfl ?_
              refine q_ite h (fun c37 h => ?_) (fun c37 h => ?_)
              · refine q_icmp_eq_t 307 d_Lw_law_302 (by decide) c37 ?_
                refine q_iload 309 d_Lw_law_307 rfl 1 rfl ?_
                refine q_ite h (fun c36 h => ?_) (fun c36 h => ?_)
                · refine q_if_ne_t 331 d_Lw_law_309 (by decide) c36 ?_
                  refine q_goto 1041 d_Lw_law_331 (by decide) ?_
                  refine q_iinc (v := (v4 + 3)) (lv' := [(4, .int (v4 + 3)), (6, .int q31.1), (5, .int q29.1), (0, .ref 900), (1, .ref 0), (2, .ref 32), (3, .ref 59)]) 1044 d_Lw_law_1041 rfl 6 rfl (q_ai (by decide)) (by decide) rfl ?_
                  refine q_goto 23 d_Lw_law_1044 (by decide) ?_
                  refine q_sub (lv' := [(0, .ref 900), (1, .ref 0), (2, .ref 32), (3, .ref 59), (4, .int (v4 + 3))]) [3, 4, 5, 6, 0] rfl ?_
                  exact ih _ _ _ _ _ _ hcd (by omega) (by omega) h
                · refine q_if_ne_f 312 d_Lw_law_309 rfl 331 (by decide) (Classical.not_not.mp c36) ?_
                  refine q_aloadn 313 d_Lw_law_312 rfl 5 rfl ?_
                  refine q_iconst (v := 0) 314 d_Lw_law_313 rfl (by decide) ?_
                  refine q_xlald 315 d_Lw_law_314 rfl ?_
                  refine q_iload 317 d_Lw_law_315 rfl 0 rfl ?_
                  refine q_ite h (fun c35 h => ?_) (fun c35 h => ?_)
                  · refine q_if_eq_t 324 d_Lw_law_317 (by decide) c35 ?_
                    refine q_lconst (v := 0) 325 d_Lw_law_324 rfl (by decide) ?_
                    refine q_lcmp 326 d_Lw_law_325 rfl ?_
                    refine q_ite h (fun c33 h => ?_) (fun c33 h => ?_)
                    · refine q_if_eq_t 331 d_Lw_law_326 (by decide) c33 ?_
                      refine q_goto 1041 d_Lw_law_331 (by decide) ?_
                      refine q_iinc (v := (v4 + 3)) (lv' := [(4, .int (v4 + 3)), (6, .int q31.1), (5, .int q29.1), (0, .ref 900), (1, .ref 0), (2, .ref 32), (3, .ref 59)]) 1044 d_Lw_law_1041 rfl 6 rfl (q_ai (by decide)) (by decide) rfl ?_
                      refine q_goto 23 d_Lw_law_1044 (by decide) ?_
                      refine q_sub (lv' := [(0, .ref 900), (1, .ref 0), (2, .ref 32), (3, .ref 59), (4, .int (v4 + 3))]) [3, 4, 5, 6, 0] rfl ?_
                      exact ih _ _ _ _ _ _ hcd (by omega) (by omega) h
                    · refine q_if_eq_f 329 d_Lw_law_326 rfl 331 (by decide) c33 ?_
                      refine q_iconst (v := 0) 330 d_Lw_law_329 rfl (by decide) ?_
                      cases h
                      exact q_zret d_Lw_law_330 rfl (by omega) (by omega)
                  · refine q_if_eq_f 320 d_Lw_law_317 rfl 324 (by decide) c35 ?_
                    refine q_lconst (v := 1) 321 d_Lw_law_320 rfl (by decide) ?_
                    refine q_goto 325 d_Lw_law_321 (by decide) ?_
                    refine q_lcmp 326 d_Lw_law_325 rfl ?_
                    refine q_ite h (fun c34 h => ?_) (fun c34 h => ?_)
                    · refine q_if_eq_t 331 d_Lw_law_326 (by decide) c34 ?_
                      refine q_goto 1041 d_Lw_law_331 (by decide) ?_
                      refine q_iinc (v := (v4 + 3)) (lv' := [(4, .int (v4 + 3)), (6, .int q31.1), (5, .int q29.1), (0, .ref 900), (1, .ref 0), (2, .ref 32), (3, .ref 59)]) 1044 d_Lw_law_1041 rfl 6 rfl (q_ai (by decide)) (by decide) rfl ?_
                      refine q_goto 23 d_Lw_law_1044 (by decide) ?_
                      refine q_sub (lv' := [(0, .ref 900), (1, .ref 0), (2, .ref 32), (3, .ref 59), (4, .int (v4 + 3))]) [3, 4, 5, 6, 0] rfl ?_
                      exact ih _ _ _ _ _ _ hcd (by omega) (by omega) h
                    · refine q_if_eq_f 329 d_Lw_law_326 rfl 331 (by decide) c34 ?_
                      refine q_iconst (v := 0) 330 d_Lw_law_329 rfl (by decide) ?_
                      cases h
                      exact q_zret d_Lw_law_330 rfl (by omega) (by omega)
              · refine q_icmp_eq_f 305 d_Lw_law_302 rfl 307 (by decide) c37 ?_
                refine q_iconst (v := 0) 306 d_Lw_law_305 rfl (by decide) ?_
                cases h
                exact q_zret d_Lw_law_306 rfl (by omega) (by omega)
            · refine q_ite h (fun c38 h => ?_) (fun c38 h => ?_)
              · refine q_tableIn (off := 295) 334 d_Lw_law_39 (by rw [c38] <;> decide +kernel) (by rw [c38] <;> decide +kernel) (by rw [c38] <;> decide +kernel) (by decide) ?_
                refine q_aloadn 335 d_Lw_law_334 rfl 1 rfl ?_
                refine q_aloadn 336 d_Lw_law_335 rfl 0 rfl ?_
                refine q_iload 338 d_Lw_law_336 rfl 4 rfl ?_
                refine q_iconst (v := 1) 339 d_Lw_law_338 rfl (by decide) ?_
                refine q_iadd 340 d_Lw_law_339 rfl ?_
                refine q_xsld 341 d_Lw_law_340 rfl h (fun w39 ew39 h => ?_)
                refine q_aloadn 342 d_Lw_law_341 rfl 0 rfl ?_
                refine q_iload 344 d_Lw_law_342 rfl 4 rfl ?_
                refine q_iconst (v := 2) 345 d_Lw_law_344 rfl (by decide) ?_
                refine q_iadd 346 d_Lw_law_345 rfl ?_
                refine q_xsld 347 d_Lw_law_346 rfl h (fun w40 ew40 h => ?_)
                refine q_aloadn 348 d_Lw_law_347 rfl 3 rfl ?_
                refine q_xcallL (as := [.ref 0, .int w39, .int w40, .ref 59]) (rest := []) 351 h (fun z e => t_Lw_leads hcd e) (q_invS (Y := m_Lw_leads) d_Lw_law_348 ml_Lw_96 ms_Lw_leads k_Lw_leads.2 k_Lw_leads.1 (by decide) n_Lw_leads) k_Lw_leads ⟨by decide, by decide, by simp only [room_1, q_rm]; omega, by simp only [room_1, q_rm]; omega⟩ (Nat.le_of_ble_eq_true rfl) d_Lw_law_348 rfl rfl rfl (fun q41 eq41 h => ?_)
                refine q_istore (lv' := [(5, .int q41.1), (0, .ref 900), (1, .ref 0), (2, .ref 32), (3, .ref 59), (4, .int v4)]) 353 d_Lw_law_351 rfl (by decide) rfl ?_
                refine q_aloadn 354 d_Lw_law_353 rfl 3 rfl ?_
                refine q_aloadn 355 d_Lw_law_354 rfl 1 rfl ?_
                refine q_iload 357 d_Lw_law_355 rfl 5 rfl ?_
                refine q_iconst (v := 1) 358 d_Lw_law_357 rfl (by decide) ?_
                refine q_iadd 359 d_Lw_law_358 rfl ?_
                refine q_xsld 360 d_Lw_law_359 rfl h (fun w42 ew42 h => ?_)
                refine q_aloadn 361 d_Lw_law_360 rfl 1 rfl ?_
                refine q_iload 363 d_Lw_law_361 rfl 5 rfl ?_
                refine q_iconst (v := 2) 364 d_Lw_law_363 rfl (by decide) ?_
                refine q_iadd 365 d_Lw_law_364 rfl ?_
                refine q_xsld 366 d_Lw_law_365 rfl h (fun w43 ew43 h => ?_)
                refine q_xcallS (as := [.ref 32, .int w42, .int w43]) (rest := []) 369 h (fun z e => t_Mo_leads e) (q_xinvV (Y := m_Mo_leads) d_Lw_law_366 ml_Lw_99 ms_Mo_leads.1 ms_Mo_leads.2 k_Mo_leads.1 (by decide) n_Mo_leads (by decide) rfl rfl) k_Mo_leads ⟨by decide, by decide, by simp only [room_1, q_rm]; omega, by simp only [room_1, q_rm]; omega⟩ (Nat.le_of_ble_eq_true rfl) d_Lw_law_366 rfl rfl rfl (fun q44 eq44 h => ?_)
                refine q_istore (lv' := [(6, .int q44.1), (5, .int q41.1), (0, .ref 900), (1, .ref 0), (2, .ref 32), (3, .ref 59), (4, .int v4)]) 371 d_Lw_law_369 rfl (by decide) rfl ?_
                refine q_aloadn 372 d_Lw_law_371 rfl 4 rfl ?_
                refine q_xcallP (as := [.ref 32]) (rest := []) 375 h (fun z e => t_Mo_thrown e) (q_xinvV (Y := m_Mo_thrown) d_Lw_law_372 ml_Lw_83 ms_Mo_thrown.1 ms_Mo_thrown.2 k_Mo_thrown.1 (by decide) n_Mo_thrown (by decide) rfl rfl) k_Mo_thrown ⟨by decide, by decide, by simp only [room_1, q_rm]; omega, by simp only [room_1, q_rm]; omega⟩ (Nat.le_of_ble_eq_true rfl) d_Lw_law_372 rfl rfl rfl (fun w45 ew45 h => ?_)
                refine q_iload 377 d_Lw_law_375 rfl 1 rfl ?_
                refine q_ite h (fun c50 h => ?_) (fun c50 h => ?_)
                · refine q_icmp_eq_t 382 d_Lw_law_377 (by decide) c50 ?_
                  refine q_iload 384 d_Lw_law_382 rfl 1 rfl ?_
                  refine q_ite h (fun c49 h => ?_) (fun c49 h => ?_)
                  · refine q_if_ne_t 406 d_Lw_law_384 (by decide) c49 ?_
                    refine q_goto 1041 d_Lw_law_406 (by decide) ?_
                    refine q_iinc (v := (v4 + 3)) (lv' := [(4, .int (v4 + 3)), (6, .int q44.1), (5, .int q41.1), (0, .ref 900), (1, .ref 0), (2, .ref 32), (3, .ref 59)]) 1044 d_Lw_law_1041 rfl 6 rfl (q_ai (by decide)) (by decide) rfl ?_
                    refine q_goto 23 d_Lw_law_1044 (by decide) ?_
                    refine q_sub (lv' := [(0, .ref 900), (1, .ref 0), (2, .ref 32), (3, .ref 59), (4, .int (v4 + 3))]) [3, 4, 5, 6, 0] rfl ?_
                    exact ih _ _ _ _ _ _ hcd (by omega) (by omega) h
                  · refine q_if_ne_f 387 d_Lw_law_384 rfl 406 (by decide) (Classical.not_not.mp c49) ?_
                    refine q_aloadn 388 d_Lw_law_387 rfl 5 rfl ?_
                    refine q_iconst (v := 0) 389 d_Lw_law_388 rfl (by decide) ?_
                    refine q_xlald 390 d_Lw_law_389 rfl ?_
                    refine q_iload 392 d_Lw_law_390 rfl 0 rfl ?_
                    refine q_ite h (fun c48 h => ?_) (fun c48 h => ?_)
                    · refine q_if_eq_t 399 d_Lw_law_392 (by decide) c48 ?_
                      refine q_lconst (v := 0) 400 d_Lw_law_399 rfl (by decide) ?_
                      refine q_lcmp 401 d_Lw_law_400 rfl ?_
                      refine q_ite h (fun c46 h => ?_) (fun c46 h => ?_)
                      · refine q_if_eq_t 406 d_Lw_law_401 (by decide) c46 ?_
                        refine q_goto 1041 d_Lw_law_406 (by decide) ?_
                        refine q_iinc (v := (v4 + 3)) (lv' := [(4, .int (v4 + 3)), (6, .int q44.1), (5, .int q41.1), (0, .ref 900), (1, .ref 0), (2, .ref 32), (3, .ref 59)]) 1044 d_Lw_law_1041 rfl 6 rfl (q_ai (by decide)) (by decide) rfl ?_
                        refine q_goto 23 d_Lw_law_1044 (by decide) ?_
                        refine q_sub (lv' := [(0, .ref 900), (1, .ref 0), (2, .ref 32), (3, .ref 59), (4, .int (v4 + 3))]) [3, 4, 5, 6, 0] rfl ?_
                        exact ih _ _ _ _ _ _ hcd (by omega) (by omega) h
                      · refine q_if_eq_f 404 d_Lw_law_401 rfl 406 (by decide) c46 ?_
                        refine q_iconst (v := 0) 405 d_Lw_law_404 rfl (by decide) ?_
                        cases h
                        exact q_zret d_Lw_law_405 rfl (by omega) (by omega)
                    · refine q_if_eq_f 395 d_Lw_law_392 rfl 399 (by decide) c48 ?_
                      refine q_lconst (v := 1) 396 d_Lw_law_395 rfl (by decide) ?_
                      refine q_goto 400 d_Lw_law_396 (by decide) ?_
                      refine q_lcmp 401 d_Lw_law_400 rfl ?_
                      refine q_ite h (fun c47 h => ?_) (fun c47 h => ?_)
                      · refine q_if_eq_t 406 d_Lw_law_401 (by decide) c47 ?_
                        refine q_goto 1041 d_Lw_law_406 (by decide) ?_
                        refine q_iinc (v := (v4 + 3)) (lv' := [(4, .int (v4 + 3)), (6, .int q44.1), (5, .int q41.1), (0, .ref 900), (1, .ref 0), (2, .ref 32), (3, .ref 59)]) 1044 d_Lw_law_1041 rfl 6 rfl (q_ai (by decide)) (by decide) rfl ?_
                        refine q_goto 23 d_Lw_law_1044 (by decide) ?_
                        refine q_sub (lv' := [(0, .ref 900), (1, .ref 0), (2, .ref 32), (3, .ref 59), (4, .int (v4 + 3))]) [3, 4, 5, 6, 0] rfl ?_
                        exact ih _ _ _ _ _ _ hcd (by omega) (by omega) h
                      · refine q_if_eq_f 404 d_Lw_law_401 rfl 406 (by decide) c47 ?_
                        refine q_iconst (v := 0) 405 d_Lw_law_404 rfl (by decide) ?_
                        cases h
                        exact q_zret d_Lw_law_405 rfl (by omega) (by omega)
                · refine q_icmp_eq_f 380 d_Lw_law_377 rfl 382 (by decide) c50 ?_
                  refine q_iconst (v := 0) 381 d_Lw_law_380 rfl (by decide) ?_
                  cases h
                  exact q_zret d_Lw_law_381 rfl (by omega) (by omega)
              · refine q_ite h (fun c51 h => ?_) (fun c51 h => ?_)
                · refine q_tableIn (off := 370) 409 d_Lw_law_39 (by rw [c51] <;> decide +kernel) (by rw [c51] <;> decide +kernel) (by rw [c51] <;> decide +kernel) (by decide) ?_
                  refine q_aloadn 410 d_Lw_law_409 rfl 1 rfl ?_
                  refine q_aloadn 411 d_Lw_law_410 rfl 0 rfl ?_
                  refine q_iload 413 d_Lw_law_411 rfl 4 rfl ?_
                  refine q_iconst (v := 1) 414 d_Lw_law_413 rfl (by decide) ?_
                  refine q_iadd 415 d_Lw_law_414 rfl ?_
                  refine q_xsld 416 d_Lw_law_415 rfl h (fun w52 ew52 h => ?_)
                  refine q_aloadn 417 d_Lw_law_416 rfl 3 rfl ?_
                  refine q_xcallL (as := [.ref 0, .int w52, .ref 59]) (rest := []) 420 h (fun z e => t_Lw_lasts hcd e) (q_invS (Y := m_Lw_lasts) d_Lw_law_417 ml_Lw_100 ms_Lw_lasts k_Lw_lasts.2 k_Lw_lasts.1 (by decide) n_Lw_lasts) k_Lw_lasts ⟨by decide, by decide, by simp only [room_1, q_rm]; omega, by simp only [room_1, q_rm]; omega⟩ (Nat.le_of_ble_eq_true rfl) d_Lw_law_417 rfl rfl rfl (fun q53 eq53 h => ?_)
                  refine q_istore (lv' := [(5, .int q53.1), (0, .ref 900), (1, .ref 0), (2, .ref 32), (3, .ref 59), (4, .int v4)]) 422 d_Lw_law_420 rfl (by decide) rfl ?_
                  refine q_aloadn 423 d_Lw_law_422 rfl 3 rfl ?_
                  refine q_aloadn 424 d_Lw_law_423 rfl 1 rfl ?_
                  refine q_iload 426 d_Lw_law_424 rfl 5 rfl ?_
                  refine q_iconst (v := 1) 427 d_Lw_law_426 rfl (by decide) ?_
                  refine q_iadd 428 d_Lw_law_427 rfl ?_
                  refine q_xsld 429 d_Lw_law_428 rfl h (fun w54 ew54 h => ?_)
                  refine q_xcallS (as := [.ref 32, .int w54]) (rest := []) 432 h (fun z e => t_Mo_lasts e) (q_xinvV (Y := m_Mo_lasts) d_Lw_law_429 ml_Lw_102 ms_Mo_lasts.1 ms_Mo_lasts.2 k_Mo_lasts.1 (by decide) n_Mo_lasts (by decide) rfl rfl) k_Mo_lasts ⟨by decide, by decide, by simp only [room_1, q_rm]; omega, by simp only [room_1, q_rm]; omega⟩ (Nat.le_of_ble_eq_true rfl) d_Lw_law_429 rfl rfl rfl (fun q55 eq55 h => ?_)
                  refine q_istore (lv' := [(6, .int q55.1), (5, .int q53.1), (0, .ref 900), (1, .ref 0), (2, .ref 32), (3, .ref 59), (4, .int v4)]) 434 d_Lw_law_432 rfl (by decide) rfl ?_
                  refine q_aloadn 435 d_Lw_law_434 rfl 4 rfl ?_
                  refine q_xcallP (as := [.ref 32]) (rest := []) 438 h (fun z e => t_Mo_thrown e) (q_xinvV (Y := m_Mo_thrown) d_Lw_law_435 ml_Lw_83 ms_Mo_thrown.1 ms_Mo_thrown.2 k_Mo_thrown.1 (by decide) n_Mo_thrown (by decide) rfl rfl) k_Mo_thrown ⟨by decide, by decide, by simp only [room_1, q_rm]; omega, by simp only [room_1, q_rm]; omega⟩ (Nat.le_of_ble_eq_true rfl) d_Lw_law_435 rfl rfl rfl (fun w56 ew56 h => ?_)
                  refine q_iload 440 d_Lw_law_438 rfl 1 rfl ?_
                  refine q_ite h (fun c61 h => ?_) (fun c61 h => ?_)
                  · refine q_icmp_eq_t 445 d_Lw_law_440 (by decide) c61 ?_
                    refine q_iload 447 d_Lw_law_445 rfl 1 rfl ?_
                    refine q_ite h (fun c60 h => ?_) (fun c60 h => ?_)
                    · refine q_if_ne_t 469 d_Lw_law_447 (by decide) c60 ?_
                      refine q_goto 1041 d_Lw_law_469 (by decide) ?_
                      refine q_iinc (v := (v4 + 3)) (lv' := [(4, .int (v4 + 3)), (6, .int q55.1), (5, .int q53.1), (0, .ref 900), (1, .ref 0), (2, .ref 32), (3, .ref 59)]) 1044 d_Lw_law_1041 rfl 6 rfl (q_ai (by decide)) (by decide) rfl ?_
                      refine q_goto 23 d_Lw_law_1044 (by decide) ?_
                      refine q_sub (lv' := [(0, .ref 900), (1, .ref 0), (2, .ref 32), (3, .ref 59), (4, .int (v4 + 3))]) [3, 4, 5, 6, 0] rfl ?_
                      exact ih _ _ _ _ _ _ hcd (by omega) (by omega) h
                    · refine q_if_ne_f 450 d_Lw_law_447 rfl 469 (by decide) (Classical.not_not.mp c60) ?_
                      refine q_aloadn 451 d_Lw_law_450 rfl 5 rfl ?_
                      refine q_iconst (v := 0) 452 d_Lw_law_451 rfl (by decide) ?_
                      refine q_xlald 453 d_Lw_law_452 rfl ?_
                      refine q_iload 455 d_Lw_law_453 rfl 0 rfl ?_
                      refine q_ite h (fun c59 h => ?_) (fun c59 h => ?_)
                      · refine q_if_eq_t 462 d_Lw_law_455 (by decide) c59 ?_
                        refine q_lconst (v := 0) 463 d_Lw_law_462 rfl (by decide) ?_
                        refine q_lcmp 464 d_Lw_law_463 rfl ?_
                        refine q_ite h (fun c57 h => ?_) (fun c57 h => ?_)
                        · refine q_if_eq_t 469 d_Lw_law_464 (by decide) c57 ?_
                          refine q_goto 1041 d_Lw_law_469 (by decide) ?_
                          refine q_iinc (v := (v4 + 3)) (lv' := [(4, .int (v4 + 3)), (6, .int q55.1), (5, .int q53.1), (0, .ref 900), (1, .ref 0), (2, .ref 32), (3, .ref 59)]) 1044 d_Lw_law_1041 rfl 6 rfl (q_ai (by decide)) (by decide) rfl ?_
                          refine q_goto 23 d_Lw_law_1044 (by decide) ?_
                          refine q_sub (lv' := [(0, .ref 900), (1, .ref 0), (2, .ref 32), (3, .ref 59), (4, .int (v4 + 3))]) [3, 4, 5, 6, 0] rfl ?_
                          exact ih _ _ _ _ _ _ hcd (by omega) (by omega) h
                        · refine q_if_eq_f 467 d_Lw_law_464 rfl 469 (by decide) c57 ?_
                          refine q_iconst (v := 0) 468 d_Lw_law_467 rfl (by decide) ?_
                          cases h
                          exact q_zret d_Lw_law_468 rfl (by omega) (by omega)
                      · refine q_if_eq_f 458 d_Lw_law_455 rfl 462 (by decide) c59 ?_
                        refine q_lconst (v := 1) 459 d_Lw_law_458 rfl (by decide) ?_
                        refine q_goto 463 d_Lw_law_459 (by decide) ?_
                        refine q_lcmp 464 d_Lw_law_463 rfl ?_
                        refine q_ite h (fun c58 h => ?_) (fun c58 h => ?_)
                        · refine q_if_eq_t 469 d_Lw_law_464 (by decide) c58 ?_
                          refine q_goto 1041 d_Lw_law_469 (by decide) ?_
                          refine q_iinc (v := (v4 + 3)) (lv' := [(4, .int (v4 + 3)), (6, .int q55.1), (5, .int q53.1), (0, .ref 900), (1, .ref 0), (2, .ref 32), (3, .ref 59)]) 1044 d_Lw_law_1041 rfl 6 rfl (q_ai (by decide)) (by decide) rfl ?_
                          refine q_goto 23 d_Lw_law_1044 (by decide) ?_
                          refine q_sub (lv' := [(0, .ref 900), (1, .ref 0), (2, .ref 32), (3, .ref 59), (4, .int (v4 + 3))]) [3, 4, 5, 6, 0] rfl ?_
                          exact ih _ _ _ _ _ _ hcd (by omega) (by omega) h
                        · refine q_if_eq_f 467 d_Lw_law_464 rfl 469 (by decide) c58 ?_
                          refine q_iconst (v := 0) 468 d_Lw_law_467 rfl (by decide) ?_
                          cases h
                          exact q_zret d_Lw_law_468 rfl (by omega) (by omega)
                  · refine q_icmp_eq_f 443 d_Lw_law_440 rfl 445 (by decide) c61 ?_
                    refine q_iconst (v := 0) 444 d_Lw_law_443 rfl (by decide) ?_
                    cases h
                    exact q_zret d_Lw_law_444 rfl (by omega) (by omega)
                · refine q_ite h (fun c62 h => ?_) (fun c62 h => ?_)
                  · refine q_tableIn (off := 433) 472 d_Lw_law_39 (by rw [c62] <;> decide +kernel) (by rw [c62] <;> decide +kernel) (by rw [c62] <;> decide +kernel) (by decide) ?_
                    refine q_aloadn 473 d_Lw_law_472 rfl 1 rfl ?_
                    refine q_aloadn 474 d_Lw_law_473 rfl 3 rfl ?_
                    refine q_xcallL (as := [.ref 0, .ref 59]) (rest := []) 477 h (fun z e => t_Lw_lasting hcd e) (q_invS (Y := m_Lw_lasting) d_Lw_law_474 ml_Lw_103 ms_Lw_lasting k_Lw_lasting.2 k_Lw_lasting.1 (by decide) n_Lw_lasting) k_Lw_lasting ⟨by decide, by decide, by simp only [room_1, q_rm]; omega, by simp only [room_1, q_rm]; omega⟩ (Nat.le_of_ble_eq_true rfl) d_Lw_law_474 rfl rfl rfl (fun q63 eq63 h => ?_)
                    refine q_istore (lv' := [(5, .int q63.1), (0, .ref 900), (1, .ref 0), (2, .ref 32), (3, .ref 59), (4, .int v4)]) 479 d_Lw_law_477 rfl (by decide) rfl ?_
                    refine q_aloadn 480 d_Lw_law_479 rfl 3 rfl ?_
                    refine q_xcallS (as := [.ref 32]) (rest := []) 483 h (fun z e => t_Mo_lasting e) (q_xinvV (Y := m_Mo_lasting) d_Lw_law_480 ml_Lw_105 ms_Mo_lasting.1 ms_Mo_lasting.2 k_Mo_lasting.1 (by decide) n_Mo_lasting (by decide) rfl rfl) k_Mo_lasting ⟨by decide, by decide, by simp only [room_1, q_rm]; omega, by simp only [room_1, q_rm]; omega⟩ (Nat.le_of_ble_eq_true rfl) d_Lw_law_480 rfl rfl rfl (fun q64 eq64 h => ?_)
                    refine q_istore (lv' := [(6, .int q64.1), (5, .int q63.1), (0, .ref 900), (1, .ref 0), (2, .ref 32), (3, .ref 59), (4, .int v4)]) 485 d_Lw_law_483 rfl (by decide) rfl ?_
                    refine q_aloadn 486 d_Lw_law_485 rfl 4 rfl ?_
                    refine q_xcallP (as := [.ref 32]) (rest := []) 489 h (fun z e => t_Mo_thrown e) (q_xinvV (Y := m_Mo_thrown) d_Lw_law_486 ml_Lw_83 ms_Mo_thrown.1 ms_Mo_thrown.2 k_Mo_thrown.1 (by decide) n_Mo_thrown (by decide) rfl rfl) k_Mo_thrown ⟨by decide, by decide, by simp only [room_1, q_rm]; omega, by simp only [room_1, q_rm]; omega⟩ (Nat.le_of_ble_eq_true rfl) d_Lw_law_486 rfl rfl rfl (fun w65 ew65 h => ?_)
                    refine q_iload 491 d_Lw_law_489 rfl 1 rfl ?_
                    refine q_ite h (fun c68 h => ?_) (fun c68 h => ?_)
                    · refine q_icmp_eq_t 496 d_Lw_law_491 (by decide) c68 ?_
                      refine q_iload 498 d_Lw_law_496 rfl 1 rfl ?_
                      refine q_ite h (fun c67 h => ?_) (fun c67 h => ?_)
                      · refine q_if_ne_t 513 d_Lw_law_498 (by decide) c67 ?_
                        refine q_goto 1041 d_Lw_law_513 (by decide) ?_
                        refine q_iinc (v := (v4 + 3)) (lv' := [(4, .int (v4 + 3)), (6, .int q64.1), (5, .int q63.1), (0, .ref 900), (1, .ref 0), (2, .ref 32), (3, .ref 59)]) 1044 d_Lw_law_1041 rfl 6 rfl (q_ai (by decide)) (by decide) rfl ?_
                        refine q_goto 23 d_Lw_law_1044 (by decide) ?_
                        refine q_sub (lv' := [(0, .ref 900), (1, .ref 0), (2, .ref 32), (3, .ref 59), (4, .int (v4 + 3))]) [3, 4, 5, 6, 0] rfl ?_
                        exact ih _ _ _ _ _ _ hcd (by omega) (by omega) h
                      · refine q_if_ne_f 501 d_Lw_law_498 rfl 513 (by decide) (Classical.not_not.mp c67) ?_
                        refine q_aloadn 502 d_Lw_law_501 rfl 5 rfl ?_
                        refine q_iconst (v := 0) 503 d_Lw_law_502 rfl (by decide) ?_
                        refine q_xlald 504 d_Lw_law_503 rfl ?_
                        refine q_iload 506 d_Lw_law_504 rfl 0 rfl ?_
                        refine q_i2l 507 d_Lw_law_506 rfl ?_
                        refine q_lcmp 508 d_Lw_law_507 rfl ?_
                        refine q_ite h (fun c66 h => ?_) (fun c66 h => ?_)
                        · refine q_if_eq_t 513 d_Lw_law_508 (by decide) c66 ?_
                          refine q_goto 1041 d_Lw_law_513 (by decide) ?_
                          refine q_iinc (v := (v4 + 3)) (lv' := [(4, .int (v4 + 3)), (6, .int q64.1), (5, .int q63.1), (0, .ref 900), (1, .ref 0), (2, .ref 32), (3, .ref 59)]) 1044 d_Lw_law_1041 rfl 6 rfl (q_ai (by decide)) (by decide) rfl ?_
                          refine q_goto 23 d_Lw_law_1044 (by decide) ?_
                          refine q_sub (lv' := [(0, .ref 900), (1, .ref 0), (2, .ref 32), (3, .ref 59), (4, .int (v4 + 3))]) [3, 4, 5, 6, 0] rfl ?_
                          exact ih _ _ _ _ _ _ hcd (by omega) (by omega) h
                        · refine q_if_eq_f 511 d_Lw_law_508 rfl 513 (by decide) c66 ?_
                          refine q_iconst (v := 0) 512 d_Lw_law_511 rfl (by decide) ?_
                          cases h
                          exact q_zret d_Lw_law_512 rfl (by omega) (by omega)
                    · refine q_icmp_eq_f 494 d_Lw_law_491 rfl 496 (by decide) c68 ?_
                      refine q_iconst (v := 0) 495 d_Lw_law_494 rfl (by decide) ?_
                      cases h
                      exact q_zret d_Lw_law_495 rfl (by omega) (by omega)
                  · refine q_ite h (fun c69 h => ?_) (fun c69 h => ?_)
                    · refine q_tableIn (off := 477) 516 d_Lw_law_39 (by rw [c69] <;> decide +kernel) (by rw [c69] <;> decide +kernel) (by rw [c69] <;> decide +kernel) (by decide) ?_
                      refine q_aloadn 517 d_Lw_law_516 rfl 1 rfl ?_
                      refine q_aloadn 518 d_Lw_law_517 rfl 3 rfl ?_
                      refine q_xcallL (as := [.ref 0, .ref 59]) (rest := []) 521 h (fun z e => t_Lw_promises hcd e) (q_invS (Y := m_Lw_promises) d_Lw_law_518 ml_Lw_106 ms_Lw_promises k_Lw_promises.2 k_Lw_promises.1 (by decide) n_Lw_promises) k_Lw_promises ⟨by decide, by decide, by simp only [room_1, q_rm]; omega, by simp only [room_1, q_rm]; omega⟩ (Nat.le_of_ble_eq_true rfl) d_Lw_law_518 rfl rfl rfl (fun q70 eq70 h => ?_)
                      refine q_istore (lv' := [(5, .int q70.1), (0, .ref 900), (1, .ref 0), (2, .ref 32), (3, .ref 59), (4, .int v4)]) 523 d_Lw_law_521 rfl (by decide) rfl ?_
                      refine q_aloadn 524 d_Lw_law_523 rfl 3 rfl ?_
                      refine q_xcallS (as := [.ref 32]) (rest := []) 527 h (fun z e => t_Mo_promises e) (q_xinvV (Y := m_Mo_promises) d_Lw_law_524 ml_Lw_108 ms_Mo_promises.1 ms_Mo_promises.2 k_Mo_promises.1 (by decide) n_Mo_promises (by decide) rfl rfl) k_Mo_promises ⟨by decide, by decide, by simp only [room_1, q_rm]; omega, by simp only [room_1, q_rm]; omega⟩ (Nat.le_of_ble_eq_true rfl) d_Lw_law_524 rfl rfl rfl (fun q71 eq71 h => ?_)
                      refine q_istore (lv' := [(6, .int q71.1), (5, .int q70.1), (0, .ref 900), (1, .ref 0), (2, .ref 32), (3, .ref 59), (4, .int v4)]) 529 d_Lw_law_527 rfl (by decide) rfl ?_
                      refine q_aloadn 530 d_Lw_law_529 rfl 4 rfl ?_
                      refine q_xcallP (as := [.ref 32]) (rest := []) 533 h (fun z e => t_Mo_thrown e) (q_xinvV (Y := m_Mo_thrown) d_Lw_law_530 ml_Lw_83 ms_Mo_thrown.1 ms_Mo_thrown.2 k_Mo_thrown.1 (by decide) n_Mo_thrown (by decide) rfl rfl) k_Mo_thrown ⟨by decide, by decide, by simp only [room_1, q_rm]; omega, by simp only [room_1, q_rm]; omega⟩ (Nat.le_of_ble_eq_true rfl) d_Lw_law_530 rfl rfl rfl (fun w72 ew72 h => ?_)
                      refine q_iload 535 d_Lw_law_533 rfl 1 rfl ?_
                      refine q_ite h (fun c75 h => ?_) (fun c75 h => ?_)
                      · refine q_icmp_eq_t 540 d_Lw_law_535 (by decide) c75 ?_
                        refine q_iload 542 d_Lw_law_540 rfl 1 rfl ?_
                        refine q_ite h (fun c74 h => ?_) (fun c74 h => ?_)
                        · refine q_if_ne_t 557 d_Lw_law_542 (by decide) c74 ?_
                          refine q_goto 1041 d_Lw_law_557 (by decide) ?_
                          refine q_iinc (v := (v4 + 3)) (lv' := [(4, .int (v4 + 3)), (6, .int q71.1), (5, .int q70.1), (0, .ref 900), (1, .ref 0), (2, .ref 32), (3, .ref 59)]) 1044 d_Lw_law_1041 rfl 6 rfl (q_ai (by decide)) (by decide) rfl ?_
                          refine q_goto 23 d_Lw_law_1044 (by decide) ?_
                          refine q_sub (lv' := [(0, .ref 900), (1, .ref 0), (2, .ref 32), (3, .ref 59), (4, .int (v4 + 3))]) [3, 4, 5, 6, 0] rfl ?_
                          exact ih _ _ _ _ _ _ hcd (by omega) (by omega) h
                        · refine q_if_ne_f 545 d_Lw_law_542 rfl 557 (by decide) (Classical.not_not.mp c74) ?_
                          refine q_aloadn 546 d_Lw_law_545 rfl 5 rfl ?_
                          refine q_iconst (v := 0) 547 d_Lw_law_546 rfl (by decide) ?_
                          refine q_xlald 548 d_Lw_law_547 rfl ?_
                          refine q_iload 550 d_Lw_law_548 rfl 0 rfl ?_
                          refine q_i2l 551 d_Lw_law_550 rfl ?_
                          refine q_lcmp 552 d_Lw_law_551 rfl ?_
                          refine q_ite h (fun c73 h => ?_) (fun c73 h => ?_)
                          · refine q_if_eq_t 557 d_Lw_law_552 (by decide) c73 ?_
                            refine q_goto 1041 d_Lw_law_557 (by decide) ?_
                            refine q_iinc (v := (v4 + 3)) (lv' := [(4, .int (v4 + 3)), (6, .int q71.1), (5, .int q70.1), (0, .ref 900), (1, .ref 0), (2, .ref 32), (3, .ref 59)]) 1044 d_Lw_law_1041 rfl 6 rfl (q_ai (by decide)) (by decide) rfl ?_
                            refine q_goto 23 d_Lw_law_1044 (by decide) ?_
                            refine q_sub (lv' := [(0, .ref 900), (1, .ref 0), (2, .ref 32), (3, .ref 59), (4, .int (v4 + 3))]) [3, 4, 5, 6, 0] rfl ?_
                            exact ih _ _ _ _ _ _ hcd (by omega) (by omega) h
                          · refine q_if_eq_f 555 d_Lw_law_552 rfl 557 (by decide) c73 ?_
                            refine q_iconst (v := 0) 556 d_Lw_law_555 rfl (by decide) ?_
                            cases h
                            exact q_zret d_Lw_law_556 rfl (by omega) (by omega)
                      · refine q_icmp_eq_f 538 d_Lw_law_535 rfl 540 (by decide) c75 ?_
                        refine q_iconst (v := 0) 539 d_Lw_law_538 rfl (by decide) ?_
                        cases h
                        exact q_zret d_Lw_law_539 rfl (by omega) (by omega)
                    · refine q_ite h (fun c76 h => ?_) (fun c76 h => ?_)
                      · refine q_tableIn (off := 521) 560 d_Lw_law_39 (by rw [c76] <;> decide +kernel) (by rw [c76] <;> decide +kernel) (by rw [c76] <;> decide +kernel) (by decide) ?_
                        refine q_aloadn 561 d_Lw_law_560 rfl 1 rfl ?_
                        refine q_aloadn 562 d_Lw_law_561 rfl 3 rfl ?_
                        refine q_xcallL (as := [.ref 0, .ref 59]) (rest := []) 565 h (fun z e => t_Lw_can hcd e) (q_invS (Y := m_Lw_can) d_Lw_law_562 ml_Lw_109 ms_Lw_can k_Lw_can.2 k_Lw_can.1 (by decide) n_Lw_can) k_Lw_can ⟨by decide, by decide, by simp only [room_1, q_rm]; omega, by simp only [room_1, q_rm]; omega⟩ (Nat.le_of_ble_eq_true rfl) d_Lw_law_562 rfl rfl rfl (fun q77 eq77 h => ?_)
                        refine q_istore (lv' := [(5, .int q77.1), (0, .ref 900), (1, .ref 0), (2, .ref 32), (3, .ref 59), (4, .int v4)]) 567 d_Lw_law_565 rfl (by decide) rfl ?_
                        refine q_aloadn 568 d_Lw_law_567 rfl 3 rfl ?_
                        refine q_xcallS (as := [.ref 32]) (rest := []) 571 h (fun z e => t_Mo_can e) (q_xinvV (Y := m_Mo_can) d_Lw_law_568 ml_Lw_111 ms_Mo_can.1 ms_Mo_can.2 k_Mo_can.1 (by decide) n_Mo_can (by decide) rfl rfl) k_Mo_can ⟨by decide, by decide, by simp only [room_1, q_rm]; omega, by simp only [room_1, q_rm]; omega⟩ (Nat.le_of_ble_eq_true rfl) d_Lw_law_568 rfl rfl rfl (fun q78 eq78 h => ?_)
                        refine q_istore (lv' := [(6, .int q78.1), (5, .int q77.1), (0, .ref 900), (1, .ref 0), (2, .ref 32), (3, .ref 59), (4, .int v4)]) 573 d_Lw_law_571 rfl (by decide) rfl ?_
                        refine q_aloadn 574 d_Lw_law_573 rfl 4 rfl ?_
                        refine q_xcallP (as := [.ref 32]) (rest := []) 577 h (fun z e => t_Mo_thrown e) (q_xinvV (Y := m_Mo_thrown) d_Lw_law_574 ml_Lw_83 ms_Mo_thrown.1 ms_Mo_thrown.2 k_Mo_thrown.1 (by decide) n_Mo_thrown (by decide) rfl rfl) k_Mo_thrown ⟨by decide, by decide, by simp only [room_1, q_rm]; omega, by simp only [room_1, q_rm]; omega⟩ (Nat.le_of_ble_eq_true rfl) d_Lw_law_574 rfl rfl rfl (fun w79 ew79 h => ?_)
                        refine q_iload 579 d_Lw_law_577 rfl 1 rfl ?_
                        refine q_ite h (fun c84 h => ?_) (fun c84 h => ?_)
                        · refine q_icmp_eq_t 584 d_Lw_law_579 (by decide) c84 ?_
                          refine q_iload 586 d_Lw_law_584 rfl 1 rfl ?_
                          refine q_ite h (fun c83 h => ?_) (fun c83 h => ?_)
                          · refine q_if_ne_t 608 d_Lw_law_586 (by decide) c83 ?_
                            refine q_goto 1041 d_Lw_law_608 (by decide) ?_
                            refine q_iinc (v := (v4 + 3)) (lv' := [(4, .int (v4 + 3)), (6, .int q78.1), (5, .int q77.1), (0, .ref 900), (1, .ref 0), (2, .ref 32), (3, .ref 59)]) 1044 d_Lw_law_1041 rfl 6 rfl (q_ai (by decide)) (by decide) rfl ?_
                            refine q_goto 23 d_Lw_law_1044 (by decide) ?_
                            refine q_sub (lv' := [(0, .ref 900), (1, .ref 0), (2, .ref 32), (3, .ref 59), (4, .int (v4 + 3))]) [3, 4, 5, 6, 0] rfl ?_
                            exact ih _ _ _ _ _ _ hcd (by omega) (by omega) h
                          · refine q_if_ne_f 589 d_Lw_law_586 rfl 608 (by decide) (Classical.not_not.mp c83) ?_
                            refine q_aloadn 590 d_Lw_law_589 rfl 5 rfl ?_
                            refine q_iconst (v := 0) 591 d_Lw_law_590 rfl (by decide) ?_
                            refine q_xlald 592 d_Lw_law_591 rfl ?_
                            refine q_iload 594 d_Lw_law_592 rfl 0 rfl ?_
                            refine q_ite h (fun c82 h => ?_) (fun c82 h => ?_)
                            · refine q_if_eq_t 601 d_Lw_law_594 (by decide) c82 ?_
                              refine q_lconst (v := 0) 602 d_Lw_law_601 rfl (by decide) ?_
                              refine q_lcmp 603 d_Lw_law_602 rfl ?_
                              refine q_ite h (fun c80 h => ?_) (fun c80 h => ?_)
                              · refine q_if_eq_t 608 d_Lw_law_603 (by decide) c80 ?_
                                refine q_goto 1041 d_Lw_law_608 (by decide) ?_
                                refine q_iinc (v := (v4 + 3)) (lv' := [(4, .int (v4 + 3)), (6, .int q78.1), (5, .int q77.1), (0, .ref 900), (1, .ref 0), (2, .ref 32), (3, .ref 59)]) 1044 d_Lw_law_1041 rfl 6 rfl (q_ai (by decide)) (by decide) rfl ?_
                                refine q_goto 23 d_Lw_law_1044 (by decide) ?_
                                refine q_sub (lv' := [(0, .ref 900), (1, .ref 0), (2, .ref 32), (3, .ref 59), (4, .int (v4 + 3))]) [3, 4, 5, 6, 0] rfl ?_
                                exact ih _ _ _ _ _ _ hcd (by omega) (by omega) h
                              · refine q_if_eq_f 606 d_Lw_law_603 rfl 608 (by decide) c80 ?_
                                refine q_iconst (v := 0) 607 d_Lw_law_606 rfl (by decide) ?_
                                cases h
                                exact q_zret d_Lw_law_607 rfl (by omega) (by omega)
                            · refine q_if_eq_f 597 d_Lw_law_594 rfl 601 (by decide) c82 ?_
                              refine q_lconst (v := 1) 598 d_Lw_law_597 rfl (by decide) ?_
                              refine q_goto 602 d_Lw_law_598 (by decide) ?_
                              refine q_lcmp 603 d_Lw_law_602 rfl ?_
                              refine q_ite h (fun c81 h => ?_) (fun c81 h => ?_)
                              · refine q_if_eq_t 608 d_Lw_law_603 (by decide) c81 ?_
                                refine q_goto 1041 d_Lw_law_608 (by decide) ?_
                                refine q_iinc (v := (v4 + 3)) (lv' := [(4, .int (v4 + 3)), (6, .int q78.1), (5, .int q77.1), (0, .ref 900), (1, .ref 0), (2, .ref 32), (3, .ref 59)]) 1044 d_Lw_law_1041 rfl 6 rfl (q_ai (by decide)) (by decide) rfl ?_
                                refine q_goto 23 d_Lw_law_1044 (by decide) ?_
                                refine q_sub (lv' := [(0, .ref 900), (1, .ref 0), (2, .ref 32), (3, .ref 59), (4, .int (v4 + 3))]) [3, 4, 5, 6, 0] rfl ?_
                                exact ih _ _ _ _ _ _ hcd (by omega) (by omega) h
                              · refine q_if_eq_f 606 d_Lw_law_603 rfl 608 (by decide) c81 ?_
                                refine q_iconst (v := 0) 607 d_Lw_law_606 rfl (by decide) ?_
                                cases h
                                exact q_zret d_Lw_law_607 rfl (by omega) (by omega)
                        · refine q_icmp_eq_f 582 d_Lw_law_579 rfl 584 (by decide) c84 ?_
                          refine q_iconst (v := 0) 583 d_Lw_law_582 rfl (by decide) ?_
                          cases h
                          exact q_zret d_Lw_law_583 rfl (by omega) (by omega)
                      · refine q_ite h (fun c85 h => ?_) (fun c85 h => ?_)
                        · refine q_tableIn (off := 572) 611 d_Lw_law_39 (by rw [c85] <;> decide +kernel) (by rw [c85] <;> decide +kernel) (by rw [c85] <;> decide +kernel) (by decide) ?_
                          refine q_aloadn 612 d_Lw_law_611 rfl 1 rfl ?_
                          refine q_aloadn 613 d_Lw_law_612 rfl 3 rfl ?_
                          refine q_xcallL (as := [.ref 0, .ref 59]) (rest := []) 616 h (fun z e => t_Lw_stem hcd e) (q_invS (Y := m_Lw_stem) d_Lw_law_613 ml_Lw_112 ms_Lw_stem k_Lw_stem.2 k_Lw_stem.1 (by decide) n_Lw_stem) k_Lw_stem ⟨by decide, by decide, by simp only [room_1, q_rm]; omega, by simp only [room_1, q_rm]; omega⟩ (Nat.le_of_ble_eq_true rfl) d_Lw_law_613 rfl rfl rfl (fun q86 eq86 h => ?_)
                          refine q_istore (lv' := [(5, .int q86.1), (0, .ref 900), (1, .ref 0), (2, .ref 32), (3, .ref 59), (4, .int v4)]) 618 d_Lw_law_616 rfl (by decide) rfl ?_
                          refine q_aloadn 619 d_Lw_law_618 rfl 3 rfl ?_
                          refine q_xcallS (as := [.ref 32]) (rest := []) 622 h (fun z e => t_Mo_stem e) (q_xinvV (Y := m_Mo_stem) d_Lw_law_619 ml_Lw_114 ms_Mo_stem.1 ms_Mo_stem.2 k_Mo_stem.1 (by decide) n_Mo_stem (by decide) rfl rfl) k_Mo_stem ⟨by decide, by decide, by simp only [room_1, q_rm]; omega, by simp only [room_1, q_rm]; omega⟩ (Nat.le_of_ble_eq_true rfl) d_Lw_law_619 rfl rfl rfl (fun q87 eq87 h => ?_)
                          refine q_istore (lv' := [(6, .int q87.1), (5, .int q86.1), (0, .ref 900), (1, .ref 0), (2, .ref 32), (3, .ref 59), (4, .int v4)]) 624 d_Lw_law_622 rfl (by decide) rfl ?_
                          refine q_aloadn 625 d_Lw_law_624 rfl 4 rfl ?_
                          refine q_xcallP (as := [.ref 32]) (rest := []) 628 h (fun z e => t_Mo_thrown e) (q_xinvV (Y := m_Mo_thrown) d_Lw_law_625 ml_Lw_83 ms_Mo_thrown.1 ms_Mo_thrown.2 k_Mo_thrown.1 (by decide) n_Mo_thrown (by decide) rfl rfl) k_Mo_thrown ⟨by decide, by decide, by simp only [room_1, q_rm]; omega, by simp only [room_1, q_rm]; omega⟩ (Nat.le_of_ble_eq_true rfl) d_Lw_law_625 rfl rfl rfl (fun w88 ew88 h => ?_)
                          refine q_iload 630 d_Lw_law_628 rfl 1 rfl ?_
                          refine q_ite h (fun c91 h => ?_) (fun c91 h => ?_)
                          · refine q_icmp_eq_t 635 d_Lw_law_630 (by decide) c91 ?_
                            refine q_iload 637 d_Lw_law_635 rfl 1 rfl ?_
                            refine q_ite h (fun c90 h => ?_) (fun c90 h => ?_)
                            · refine q_if_ne_t 652 d_Lw_law_637 (by decide) c90 ?_
                              refine q_goto 1041 d_Lw_law_652 (by decide) ?_
                              refine q_iinc (v := (v4 + 3)) (lv' := [(4, .int (v4 + 3)), (6, .int q87.1), (5, .int q86.1), (0, .ref 900), (1, .ref 0), (2, .ref 32), (3, .ref 59)]) 1044 d_Lw_law_1041 rfl 6 rfl (q_ai (by decide)) (by decide) rfl ?_
                              refine q_goto 23 d_Lw_law_1044 (by decide) ?_
                              refine q_sub (lv' := [(0, .ref 900), (1, .ref 0), (2, .ref 32), (3, .ref 59), (4, .int (v4 + 3))]) [3, 4, 5, 6, 0] rfl ?_
                              exact ih _ _ _ _ _ _ hcd (by omega) (by omega) h
                            · refine q_if_ne_f 640 d_Lw_law_637 rfl 652 (by decide) (Classical.not_not.mp c90) ?_
                              refine q_aloadn 641 d_Lw_law_640 rfl 5 rfl ?_
                              refine q_iconst (v := 0) 642 d_Lw_law_641 rfl (by decide) ?_
                              refine q_xlald 643 d_Lw_law_642 rfl ?_
                              refine q_iload 645 d_Lw_law_643 rfl 0 rfl ?_
                              refine q_i2l 646 d_Lw_law_645 rfl ?_
                              refine q_lcmp 647 d_Lw_law_646 rfl ?_
                              refine q_ite h (fun c89 h => ?_) (fun c89 h => ?_)
                              · refine q_if_eq_t 652 d_Lw_law_647 (by decide) c89 ?_
                                refine q_goto 1041 d_Lw_law_652 (by decide) ?_
                                refine q_iinc (v := (v4 + 3)) (lv' := [(4, .int (v4 + 3)), (6, .int q87.1), (5, .int q86.1), (0, .ref 900), (1, .ref 0), (2, .ref 32), (3, .ref 59)]) 1044 d_Lw_law_1041 rfl 6 rfl (q_ai (by decide)) (by decide) rfl ?_
                                refine q_goto 23 d_Lw_law_1044 (by decide) ?_
                                refine q_sub (lv' := [(0, .ref 900), (1, .ref 0), (2, .ref 32), (3, .ref 59), (4, .int (v4 + 3))]) [3, 4, 5, 6, 0] rfl ?_
                                exact ih _ _ _ _ _ _ hcd (by omega) (by omega) h
                              · refine q_if_eq_f 650 d_Lw_law_647 rfl 652 (by decide) c89 ?_
                                refine q_iconst (v := 0) 651 d_Lw_law_650 rfl (by decide) ?_
                                cases h
                                exact q_zret d_Lw_law_651 rfl (by omega) (by omega)
                          · refine q_icmp_eq_f 633 d_Lw_law_630 rfl 635 (by decide) c91 ?_
                            refine q_iconst (v := 0) 634 d_Lw_law_633 rfl (by decide) ?_
                            cases h
                            exact q_zret d_Lw_law_634 rfl (by omega) (by omega)
                        · refine q_ite h (fun c92 h => ?_) (fun c92 h => ?_)
                          · refine q_tableIn (off := 616) 655 d_Lw_law_39 (by rw [c92] <;> decide +kernel) (by rw [c92] <;> decide +kernel) (by rw [c92] <;> decide +kernel) (by decide) ?_
                            refine q_aloadn 656 d_Lw_law_655 rfl 1 rfl ?_
                            refine q_aloadn 657 d_Lw_law_656 rfl 3 rfl ?_
                            refine q_xcallL (as := [.ref 0, .ref 59]) (rest := []) 660 h (fun z e => t_Lw_loop hcd e) (q_invS (Y := m_Lw_loop) d_Lw_law_657 ml_Lw_115 ms_Lw_loop k_Lw_loop.2 k_Lw_loop.1 (by decide) n_Lw_loop) k_Lw_loop ⟨by decide, by decide, by simp only [room_1, q_rm]; omega, by simp only [room_1, q_rm]; omega⟩ (Nat.le_of_ble_eq_true rfl) d_Lw_law_657 rfl rfl rfl (fun q93 eq93 h => ?_)
                            refine q_istore (lv' := [(5, .int q93.1), (0, .ref 900), (1, .ref 0), (2, .ref 32), (3, .ref 59), (4, .int v4)]) 662 d_Lw_law_660 rfl (by decide) rfl ?_
                            refine q_aloadn 663 d_Lw_law_662 rfl 3 rfl ?_
                            refine q_xcallS (as := [.ref 32]) (rest := []) 666 h (fun z e => t_Mo_loop e) (q_xinvV (Y := m_Mo_loop) d_Lw_law_663 ml_Lw_117 ms_Mo_loop.1 ms_Mo_loop.2 k_Mo_loop.1 (by decide) n_Mo_loop (by decide) rfl rfl) k_Mo_loop ⟨by decide, by decide, by simp only [room_1, q_rm]; omega, by simp only [room_1, q_rm]; omega⟩ (Nat.le_of_ble_eq_true rfl) d_Lw_law_663 rfl rfl rfl (fun q94 eq94 h => ?_)
                            refine q_istore (lv' := [(6, .int q94.1), (5, .int q93.1), (0, .ref 900), (1, .ref 0), (2, .ref 32), (3, .ref 59), (4, .int v4)]) 668 d_Lw_law_666 rfl (by decide) rfl ?_
                            refine q_aloadn 669 d_Lw_law_668 rfl 4 rfl ?_
                            refine q_xcallP (as := [.ref 32]) (rest := []) 672 h (fun z e => t_Mo_thrown e) (q_xinvV (Y := m_Mo_thrown) d_Lw_law_669 ml_Lw_83 ms_Mo_thrown.1 ms_Mo_thrown.2 k_Mo_thrown.1 (by decide) n_Mo_thrown (by decide) rfl rfl) k_Mo_thrown ⟨by decide, by decide, by simp only [room_1, q_rm]; omega, by simp only [room_1, q_rm]; omega⟩ (Nat.le_of_ble_eq_true rfl) d_Lw_law_669 rfl rfl rfl (fun w95 ew95 h => ?_)
                            refine q_iload 674 d_Lw_law_672 rfl 1 rfl ?_
                            refine q_ite h (fun c98 h => ?_) (fun c98 h => ?_)
                            · refine q_icmp_eq_t 679 d_Lw_law_674 (by decide) c98 ?_
                              refine q_iload 681 d_Lw_law_679 rfl 1 rfl ?_
                              refine q_ite h (fun c97 h => ?_) (fun c97 h => ?_)
                              · refine q_if_ne_t 696 d_Lw_law_681 (by decide) c97 ?_
                                refine q_goto 1041 d_Lw_law_696 (by decide) ?_
                                refine q_iinc (v := (v4 + 3)) (lv' := [(4, .int (v4 + 3)), (6, .int q94.1), (5, .int q93.1), (0, .ref 900), (1, .ref 0), (2, .ref 32), (3, .ref 59)]) 1044 d_Lw_law_1041 rfl 6 rfl (q_ai (by decide)) (by decide) rfl ?_
                                refine q_goto 23 d_Lw_law_1044 (by decide) ?_
                                refine q_sub (lv' := [(0, .ref 900), (1, .ref 0), (2, .ref 32), (3, .ref 59), (4, .int (v4 + 3))]) [3, 4, 5, 6, 0] rfl ?_
                                exact ih _ _ _ _ _ _ hcd (by omega) (by omega) h
                              · refine q_if_ne_f 684 d_Lw_law_681 rfl 696 (by decide) (Classical.not_not.mp c97) ?_
                                refine q_aloadn 685 d_Lw_law_684 rfl 5 rfl ?_
                                refine q_iconst (v := 0) 686 d_Lw_law_685 rfl (by decide) ?_
                                refine q_xlald 687 d_Lw_law_686 rfl ?_
                                refine q_iload 689 d_Lw_law_687 rfl 0 rfl ?_
                                refine q_i2l 690 d_Lw_law_689 rfl ?_
                                refine q_lcmp 691 d_Lw_law_690 rfl ?_
                                refine q_ite h (fun c96 h => ?_) (fun c96 h => ?_)
                                · refine q_if_eq_t 696 d_Lw_law_691 (by decide) c96 ?_
                                  refine q_goto 1041 d_Lw_law_696 (by decide) ?_
                                  refine q_iinc (v := (v4 + 3)) (lv' := [(4, .int (v4 + 3)), (6, .int q94.1), (5, .int q93.1), (0, .ref 900), (1, .ref 0), (2, .ref 32), (3, .ref 59)]) 1044 d_Lw_law_1041 rfl 6 rfl (q_ai (by decide)) (by decide) rfl ?_
                                  refine q_goto 23 d_Lw_law_1044 (by decide) ?_
                                  refine q_sub (lv' := [(0, .ref 900), (1, .ref 0), (2, .ref 32), (3, .ref 59), (4, .int (v4 + 3))]) [3, 4, 5, 6, 0] rfl ?_
                                  exact ih _ _ _ _ _ _ hcd (by omega) (by omega) h
                                · refine q_if_eq_f 694 d_Lw_law_691 rfl 696 (by decide) c96 ?_
                                  refine q_iconst (v := 0) 695 d_Lw_law_694 rfl (by decide) ?_
                                  cases h
                                  exact q_zret d_Lw_law_695 rfl (by omega) (by omega)
                            · refine q_icmp_eq_f 677 d_Lw_law_674 rfl 679 (by decide) c98 ?_
                              refine q_iconst (v := 0) 678 d_Lw_law_677 rfl (by decide) ?_
                              cases h
                              exact q_zret d_Lw_law_678 rfl (by omega) (by omega)
                          · refine q_ite h (fun c99 h => ?_) (fun c99 h => ?_)
                            · refine q_tableIn (off := 660) 699 d_Lw_law_39 (by rw [c99] <;> decide +kernel) (by rw [c99] <;> decide +kernel) (by rw [c99] <;> decide +kernel) (by decide) ?_
                              refine q_aloadn 700 d_Lw_law_699 rfl 1 rfl ?_
                              refine q_aloadn 701 d_Lw_law_700 rfl 0 rfl ?_
                              refine q_iload 703 d_Lw_law_701 rfl 4 rfl ?_
                              refine q_iconst (v := 1) 704 d_Lw_law_703 rfl (by decide) ?_
                              refine q_iadd 705 d_Lw_law_704 rfl ?_
                              refine q_xsld 706 d_Lw_law_705 rfl h (fun w100 ew100 h => ?_)
                              refine q_aloadn 707 d_Lw_law_706 rfl 3 rfl ?_
                              refine q_xcallL (as := [.ref 0, .int w100, .ref 59]) (rest := []) 710 h (fun z e => t_Lw_step hcd e) (q_invS (Y := m_Lw_step) d_Lw_law_707 ml_Lw_118 ms_Lw_step k_Lw_step.2 k_Lw_step.1 (by decide) n_Lw_step) k_Lw_step ⟨by decide, by decide, by simp only [room_1, q_rm]; omega, by simp only [room_1, q_rm]; omega⟩ (Nat.le_of_ble_eq_true rfl) d_Lw_law_707 rfl rfl rfl (fun q101 eq101 h => ?_)
                              refine q_istore (lv' := [(5, .int q101.1), (0, .ref 900), (1, .ref 0), (2, .ref 32), (3, .ref 59), (4, .int v4)]) 712 d_Lw_law_710 rfl (by decide) rfl ?_
                              refine q_aloadn 713 d_Lw_law_712 rfl 3 rfl ?_
                              refine q_aloadn 714 d_Lw_law_713 rfl 1 rfl ?_
                              refine q_iload 716 d_Lw_law_714 rfl 5 rfl ?_
                              refine q_iconst (v := 1) 717 d_Lw_law_716 rfl (by decide) ?_
                              refine q_iadd 718 d_Lw_law_717 rfl ?_
                              refine q_xsld 719 d_Lw_law_718 rfl h (fun w102 ew102 h => ?_)
                              refine q_xcallS (as := [.ref 32, .int w102]) (rest := []) 722 h (fun z e => t_Mo_step e) (q_xinvV (Y := m_Mo_step) d_Lw_law_719 ml_Lw_120 ms_Mo_step.1 ms_Mo_step.2 k_Mo_step.1 (by decide) n_Mo_step (by decide) rfl rfl) k_Mo_step ⟨by decide, by decide, by simp only [room_1, q_rm]; omega, by simp only [room_1, q_rm]; omega⟩ (Nat.le_of_ble_eq_true rfl) d_Lw_law_719 rfl rfl rfl (fun q103 eq103 h => ?_)
                              refine q_istore (lv' := [(6, .int q103.1), (5, .int q101.1), (0, .ref 900), (1, .ref 0), (2, .ref 32), (3, .ref 59), (4, .int v4)]) 724 d_Lw_law_722 rfl (by decide) rfl ?_
                              refine q_aloadn 725 d_Lw_law_724 rfl 4 rfl ?_
                              refine q_xcallP (as := [.ref 32]) (rest := []) 728 h (fun z e => t_Mo_thrown e) (q_xinvV (Y := m_Mo_thrown) d_Lw_law_725 ml_Lw_83 ms_Mo_thrown.1 ms_Mo_thrown.2 k_Mo_thrown.1 (by decide) n_Mo_thrown (by decide) rfl rfl) k_Mo_thrown ⟨by decide, by decide, by simp only [room_1, q_rm]; omega, by simp only [room_1, q_rm]; omega⟩ (Nat.le_of_ble_eq_true rfl) d_Lw_law_725 rfl rfl rfl (fun w104 ew104 h => ?_)
                              refine q_iload 730 d_Lw_law_728 rfl 1 rfl ?_
                              refine q_ite h (fun c107 h => ?_) (fun c107 h => ?_)
                              · refine q_icmp_eq_t 735 d_Lw_law_730 (by decide) c107 ?_
                                refine q_iload 737 d_Lw_law_735 rfl 1 rfl ?_
                                refine q_ite h (fun c106 h => ?_) (fun c106 h => ?_)
                                · refine q_if_ne_t 752 d_Lw_law_737 (by decide) c106 ?_
                                  refine q_goto 1041 d_Lw_law_752 (by decide) ?_
                                  refine q_iinc (v := (v4 + 3)) (lv' := [(4, .int (v4 + 3)), (6, .int q103.1), (5, .int q101.1), (0, .ref 900), (1, .ref 0), (2, .ref 32), (3, .ref 59)]) 1044 d_Lw_law_1041 rfl 6 rfl (q_ai (by decide)) (by decide) rfl ?_
                                  refine q_goto 23 d_Lw_law_1044 (by decide) ?_
                                  refine q_sub (lv' := [(0, .ref 900), (1, .ref 0), (2, .ref 32), (3, .ref 59), (4, .int (v4 + 3))]) [3, 4, 5, 6, 0] rfl ?_
                                  exact ih _ _ _ _ _ _ hcd (by omega) (by omega) h
                                · refine q_if_ne_f 740 d_Lw_law_737 rfl 752 (by decide) (Classical.not_not.mp c106) ?_
                                  refine q_aloadn 741 d_Lw_law_740 rfl 5 rfl ?_
                                  refine q_iconst (v := 0) 742 d_Lw_law_741 rfl (by decide) ?_
                                  refine q_xlald 743 d_Lw_law_742 rfl ?_
                                  refine q_iload 745 d_Lw_law_743 rfl 0 rfl ?_
                                  refine q_i2l 746 d_Lw_law_745 rfl ?_
                                  refine q_lcmp 747 d_Lw_law_746 rfl ?_
                                  refine q_ite h (fun c105 h => ?_) (fun c105 h => ?_)
                                  · refine q_if_eq_t 752 d_Lw_law_747 (by decide) c105 ?_
                                    refine q_goto 1041 d_Lw_law_752 (by decide) ?_
                                    refine q_iinc (v := (v4 + 3)) (lv' := [(4, .int (v4 + 3)), (6, .int q103.1), (5, .int q101.1), (0, .ref 900), (1, .ref 0), (2, .ref 32), (3, .ref 59)]) 1044 d_Lw_law_1041 rfl 6 rfl (q_ai (by decide)) (by decide) rfl ?_
                                    refine q_goto 23 d_Lw_law_1044 (by decide) ?_
                                    refine q_sub (lv' := [(0, .ref 900), (1, .ref 0), (2, .ref 32), (3, .ref 59), (4, .int (v4 + 3))]) [3, 4, 5, 6, 0] rfl ?_
                                    exact ih _ _ _ _ _ _ hcd (by omega) (by omega) h
                                  · refine q_if_eq_f 750 d_Lw_law_747 rfl 752 (by decide) c105 ?_
                                    refine q_iconst (v := 0) 751 d_Lw_law_750 rfl (by decide) ?_
                                    cases h
                                    exact q_zret d_Lw_law_751 rfl (by omega) (by omega)
                              · refine q_icmp_eq_f 733 d_Lw_law_730 rfl 735 (by decide) c107 ?_
                                refine q_iconst (v := 0) 734 d_Lw_law_733 rfl (by decide) ?_
                                cases h
                                exact q_zret d_Lw_law_734 rfl (by omega) (by omega)
                            · refine q_ite h (fun c108 h => ?_) (fun c108 h => ?_)
                              · refine q_tableIn (off := 716) 755 d_Lw_law_39 (by rw [c108] <;> decide +kernel) (by rw [c108] <;> decide +kernel) (by rw [c108] <;> decide +kernel) (by decide) ?_
                                refine q_aloadn 756 d_Lw_law_755 rfl 1 rfl ?_
                                refine q_aloadn 757 d_Lw_law_756 rfl 0 rfl ?_
                                refine q_iload 759 d_Lw_law_757 rfl 4 rfl ?_
                                refine q_iconst (v := 1) 760 d_Lw_law_759 rfl (by decide) ?_
                                refine q_iadd 761 d_Lw_law_760 rfl ?_
                                refine q_xsld 762 d_Lw_law_761 rfl h (fun w109 ew109 h => ?_)
                                refine q_aloadn 763 d_Lw_law_762 rfl 0 rfl ?_
                                refine q_iload 765 d_Lw_law_763 rfl 4 rfl ?_
                                refine q_iconst (v := 2) 766 d_Lw_law_765 rfl (by decide) ?_
                                refine q_iadd 767 d_Lw_law_766 rfl ?_
                                refine q_xsld 768 d_Lw_law_767 rfl h (fun w110 ew110 h => ?_)
                                refine q_xcallL (as := [.ref 0, .int w109, .int w110]) (rest := []) 771 h (fun z e => t_Lw_shape hcd e) (q_invS (Y := m_Lw_shape) d_Lw_law_768 ml_Lw_121 ms_Lw_shape k_Lw_shape.2 k_Lw_shape.1 (by decide) n_Lw_shape) k_Lw_shape ⟨by decide, by decide, by simp only [room_1, q_rm]; omega, by simp only [room_1, q_rm]; omega⟩ (Nat.le_of_ble_eq_true rfl) d_Lw_law_768 rfl rfl rfl (fun q111 eq111 h => ?_)
                                refine q_istore (lv' := [(5, .int q111.1), (0, .ref 900), (1, .ref 0), (2, .ref 32), (3, .ref 59), (4, .int v4)]) 773 d_Lw_law_771 rfl (by decide) rfl ?_
                                refine q_aloadn 774 d_Lw_law_773 rfl 3 rfl ?_
                                refine q_aloadn 775 d_Lw_law_774 rfl 1 rfl ?_
                                refine q_iload 777 d_Lw_law_775 rfl 5 rfl ?_
                                refine q_iconst (v := 1) 778 d_Lw_law_777 rfl (by decide) ?_
                                refine q_iadd 779 d_Lw_law_778 rfl ?_
                                refine q_xsld 780 d_Lw_law_779 rfl h (fun w112 ew112 h => ?_)
                                refine q_aloadn 781 d_Lw_law_780 rfl 1 rfl ?_
                                refine q_iload 783 d_Lw_law_781 rfl 5 rfl ?_
                                refine q_iconst (v := 2) 784 d_Lw_law_783 rfl (by decide) ?_
                                refine q_iadd 785 d_Lw_law_784 rfl ?_
                                refine q_xsld 786 d_Lw_law_785 rfl h (fun w113 ew113 h => ?_)
                                refine q_xcallV (as := [.ref 32, .int w112, .int w113]) (rest := []) 789 h (fun z e => t_Mo_shape e) (q_xinvV (Y := m_Mo_shape) d_Lw_law_786 ml_Lw_124 ms_Mo_shape.1 ms_Mo_shape.2 k_Mo_shape.1 (by decide) n_Mo_shape (by decide) rfl rfl) k_Mo_shape ⟨by decide, by decide, by simp only [room_1, q_rm]; omega, by simp only [room_1, q_rm]; omega⟩ (Nat.le_of_ble_eq_true rfl) d_Lw_law_786 rfl rfl rfl (fun x114 ex114 h => ?_)
                                refine q_aloadn 790 d_Lw_law_789 rfl 3 rfl ?_
                                refine q_xcallP (as := [.ref 32]) (rest := []) 793 h (fun z e => t_Mo_thrown e) (q_xinvV (Y := m_Mo_thrown) d_Lw_law_790 ml_Lw_83 ms_Mo_thrown.1 ms_Mo_thrown.2 k_Mo_thrown.1 (by decide) n_Mo_thrown (by decide) rfl rfl) k_Mo_thrown ⟨by decide, by decide, by simp only [room_1, q_rm]; omega, by simp only [room_1, q_rm]; omega⟩ (Nat.le_of_ble_eq_true rfl) d_Lw_law_790 rfl rfl rfl (fun w115 ew115 h => ?_)
                                refine q_iload 795 d_Lw_law_793 rfl 0 rfl ?_
                                refine q_ite h (fun c116 h => ?_) (fun c116 h => ?_)
                                · refine q_icmp_eq_t 800 d_Lw_law_795 (by decide) c116 ?_
                                  refine q_goto 1041 d_Lw_law_800 (by decide) ?_
                                  refine q_iinc (v := (v4 + 3)) (lv' := [(4, .int (v4 + 3)), (5, .int q111.1), (0, .ref 900), (1, .ref 0), (2, .ref 32), (3, .ref 59)]) 1044 d_Lw_law_1041 rfl 5 rfl (q_ai (by decide)) (by decide) rfl ?_
                                  refine q_goto 23 d_Lw_law_1044 (by decide) ?_
                                  refine q_sub (lv' := [(0, .ref 900), (1, .ref 0), (2, .ref 32), (3, .ref 59), (4, .int (v4 + 3))]) [2, 3, 4, 5, 0] rfl ?_
                                  exact ih _ _ _ _ _ _ hcd (by omega) (by omega) h
                                · refine q_icmp_eq_f 798 d_Lw_law_795 rfl 800 (by decide) c116 ?_
                                  refine q_iconst (v := 0) 799 d_Lw_law_798 rfl (by decide) ?_
                                  cases h
                                  exact q_zret d_Lw_law_799 rfl (by omega) (by omega)
                              · refine q_ite h (fun c117 h => ?_) (fun c117 h => ?_)
                                · refine q_tableIn (off := 764) 803 d_Lw_law_39 (by rw [c117] <;> decide +kernel) (by rw [c117] <;> decide +kernel) (by rw [c117] <;> decide +kernel) (by decide) ?_
                                  refine q_aloadn 804 d_Lw_law_803 rfl 1 rfl ?_
                                  refine q_aloadn 805 d_Lw_law_804 rfl 0 rfl ?_
                                  refine q_iload 807 d_Lw_law_805 rfl 4 rfl ?_
                                  refine q_iconst (v := 1) 808 d_Lw_law_807 rfl (by decide) ?_
                                  refine q_iadd 809 d_Lw_law_808 rfl ?_
                                  refine q_xsld 810 d_Lw_law_809 rfl h (fun w118 ew118 h => ?_)
                                  refine q_aloadn 811 d_Lw_law_810 rfl 0 rfl ?_
                                  refine q_iload 813 d_Lw_law_811 rfl 4 rfl ?_
                                  refine q_iconst (v := 2) 814 d_Lw_law_813 rfl (by decide) ?_
                                  refine q_iadd 815 d_Lw_law_814 rfl ?_
                                  refine q_xsld 816 d_Lw_law_815 rfl h (fun w119 ew119 h => ?_)
                                  refine q_aloadn 817 d_Lw_law_816 rfl 3 rfl ?_
                                  refine q_xcallL (as := [.ref 0, .int w118, .int w119, .ref 59]) (rest := []) 820 h (fun z e => t_Lw_set hcd e) (q_invS (Y := m_Lw_set) d_Lw_law_817 ml_Lw_125 ms_Lw_set k_Lw_set.2 k_Lw_set.1 (by decide) n_Lw_set) k_Lw_set ⟨by decide, by decide, by simp only [room_1, q_rm]; omega, by simp only [room_1, q_rm]; omega⟩ (Nat.le_of_ble_eq_true rfl) d_Lw_law_817 rfl rfl rfl (fun q120 eq120 h => ?_)
                                  refine q_istore (lv' := [(5, .int q120.1), (0, .ref 900), (1, .ref 0), (2, .ref 32), (3, .ref 59), (4, .int v4)]) 822 d_Lw_law_820 rfl (by decide) rfl ?_
                                  refine q_aloadn 823 d_Lw_law_822 rfl 3 rfl ?_
                                  refine q_aloadn 824 d_Lw_law_823 rfl 1 rfl ?_
                                  refine q_iload 826 d_Lw_law_824 rfl 5 rfl ?_
                                  refine q_iconst (v := 1) 827 d_Lw_law_826 rfl (by decide) ?_
                                  refine q_iadd 828 d_Lw_law_827 rfl ?_
                                  refine q_xsld 829 d_Lw_law_828 rfl h (fun w121 ew121 h => ?_)
                                  refine q_aloadn 830 d_Lw_law_829 rfl 1 rfl ?_
                                  refine q_iload 832 d_Lw_law_830 rfl 5 rfl ?_
                                  refine q_iconst (v := 2) 833 d_Lw_law_832 rfl (by decide) ?_
                                  refine q_iadd 834 d_Lw_law_833 rfl ?_
                                  refine q_xsld 835 d_Lw_law_834 rfl h (fun w122 ew122 h => ?_)
                                  refine q_xcallS (as := [.ref 32, .int w121, .int w122]) (rest := []) 838 h (fun z e => t_Mo_set e) (q_xinvV (Y := m_Mo_set) d_Lw_law_835 ml_Lw_127 ms_Mo_set.1 ms_Mo_set.2 k_Mo_set.1 (by decide) n_Mo_set (by decide) rfl rfl) k_Mo_set ⟨by decide, by decide, by simp only [room_1, q_rm]; omega, by simp only [room_1, q_rm]; omega⟩ (Nat.le_of_ble_eq_true rfl) d_Lw_law_835 rfl rfl rfl (fun q123 eq123 h => ?_)
                                  refine q_istore (lv' := [(6, .int q123.1), (5, .int q120.1), (0, .ref 900), (1, .ref 0), (2, .ref 32), (3, .ref 59), (4, .int v4)]) 840 d_Lw_law_838 rfl (by decide) rfl ?_
                                  refine q_aloadn 841 d_Lw_law_840 rfl 4 rfl ?_
                                  refine q_xcallP (as := [.ref 32]) (rest := []) 844 h (fun z e => t_Mo_thrown e) (q_xinvV (Y := m_Mo_thrown) d_Lw_law_841 ml_Lw_83 ms_Mo_thrown.1 ms_Mo_thrown.2 k_Mo_thrown.1 (by decide) n_Mo_thrown (by decide) rfl rfl) k_Mo_thrown ⟨by decide, by decide, by simp only [room_1, q_rm]; omega, by simp only [room_1, q_rm]; omega⟩ (Nat.le_of_ble_eq_true rfl) d_Lw_law_841 rfl rfl rfl (fun w124 ew124 h => ?_)
                                  refine q_iload 846 d_Lw_law_844 rfl 1 rfl ?_
                                  refine q_ite h (fun c127 h => ?_) (fun c127 h => ?_)
                                  · refine q_icmp_eq_t 851 d_Lw_law_846 (by decide) c127 ?_
                                    refine q_iload 853 d_Lw_law_851 rfl 1 rfl ?_
                                    refine q_ite h (fun c126 h => ?_) (fun c126 h => ?_)
                                    · refine q_if_ne_t 868 d_Lw_law_853 (by decide) c126 ?_
                                      refine q_goto 1041 d_Lw_law_868 (by decide) ?_
                                      refine q_iinc (v := (v4 + 3)) (lv' := [(4, .int (v4 + 3)), (6, .int q123.1), (5, .int q120.1), (0, .ref 900), (1, .ref 0), (2, .ref 32), (3, .ref 59)]) 1044 d_Lw_law_1041 rfl 6 rfl (q_ai (by decide)) (by decide) rfl ?_
                                      refine q_goto 23 d_Lw_law_1044 (by decide) ?_
                                      refine q_sub (lv' := [(0, .ref 900), (1, .ref 0), (2, .ref 32), (3, .ref 59), (4, .int (v4 + 3))]) [3, 4, 5, 6, 0] rfl ?_
                                      exact ih _ _ _ _ _ _ hcd (by omega) (by omega) h
                                    · refine q_if_ne_f 856 d_Lw_law_853 rfl 868 (by decide) (Classical.not_not.mp c126) ?_
                                      refine q_aloadn 857 d_Lw_law_856 rfl 5 rfl ?_
                                      refine q_iconst (v := 0) 858 d_Lw_law_857 rfl (by decide) ?_
                                      refine q_xlald 859 d_Lw_law_858 rfl ?_
                                      refine q_iload 861 d_Lw_law_859 rfl 0 rfl ?_
                                      refine q_i2l 862 d_Lw_law_861 rfl ?_
                                      refine q_lcmp 863 d_Lw_law_862 rfl ?_
                                      refine q_ite h (fun c125 h => ?_) (fun c125 h => ?_)
                                      · refine q_if_eq_t 868 d_Lw_law_863 (by decide) c125 ?_
                                        refine q_goto 1041 d_Lw_law_868 (by decide) ?_
                                        refine q_iinc (v := (v4 + 3)) (lv' := [(4, .int (v4 + 3)), (6, .int q123.1), (5, .int q120.1), (0, .ref 900), (1, .ref 0), (2, .ref 32), (3, .ref 59)]) 1044 d_Lw_law_1041 rfl 6 rfl (q_ai (by decide)) (by decide) rfl ?_
                                        refine q_goto 23 d_Lw_law_1044 (by decide) ?_
                                        refine q_sub (lv' := [(0, .ref 900), (1, .ref 0), (2, .ref 32), (3, .ref 59), (4, .int (v4 + 3))]) [3, 4, 5, 6, 0] rfl ?_
                                        exact ih _ _ _ _ _ _ hcd (by omega) (by omega) h
                                      · refine q_if_eq_f 866 d_Lw_law_863 rfl 868 (by decide) c125 ?_
                                        refine q_iconst (v := 0) 867 d_Lw_law_866 rfl (by decide) ?_
                                        cases h
                                        exact q_zret d_Lw_law_867 rfl (by omega) (by omega)
                                  · refine q_icmp_eq_f 849 d_Lw_law_846 rfl 851 (by decide) c127 ?_
                                    refine q_iconst (v := 0) 850 d_Lw_law_849 rfl (by decide) ?_
                                    cases h
                                    exact q_zret d_Lw_law_850 rfl (by omega) (by omega)
                                · refine q_ite h (fun c128 h => ?_) (fun c128 h => ?_)
                                  · refine q_tableIn (off := 832) 871 d_Lw_law_39 (by rw [c128] <;> decide +kernel) (by rw [c128] <;> decide +kernel) (by rw [c128] <;> decide +kernel) (by decide) ?_
                                    refine q_aloadn 872 d_Lw_law_871 rfl 1 rfl ?_
                                    refine q_aloadn 873 d_Lw_law_872 rfl 3 rfl ?_
                                    refine q_xcallL (as := [.ref 0, .ref 59]) (rest := []) 876 h (fun z e => t_Lw_adopt hcd e) (q_invS (Y := m_Lw_adopt) d_Lw_law_873 ml_Lw_128 ms_Lw_adopt k_Lw_adopt.2 k_Lw_adopt.1 (by decide) n_Lw_adopt) k_Lw_adopt ⟨by decide, by decide, by simp only [room_1, q_rm]; omega, by simp only [room_1, q_rm]; omega⟩ (Nat.le_of_ble_eq_true rfl) d_Lw_law_873 rfl rfl rfl (fun q129 eq129 h => ?_)
                                    refine q_istore (lv' := [(5, .int q129.1), (0, .ref 900), (1, .ref 0), (2, .ref 32), (3, .ref 59), (4, .int v4)]) 878 d_Lw_law_876 rfl (by decide) rfl ?_
                                    refine q_aloadn 879 d_Lw_law_878 rfl 3 rfl ?_
                                    refine q_xcallS (as := [.ref 32]) (rest := []) 882 h (fun z e => t_Mo_adopt e) (q_xinvV (Y := m_Mo_adopt) d_Lw_law_879 ml_Lw_130 ms_Mo_adopt.1 ms_Mo_adopt.2 k_Mo_adopt.1 (by decide) n_Mo_adopt (by decide) rfl rfl) k_Mo_adopt ⟨by decide, by decide, by simp only [room_1, q_rm]; omega, by simp only [room_1, q_rm]; omega⟩ (Nat.le_of_ble_eq_true rfl) d_Lw_law_879 rfl rfl rfl (fun q130 eq130 h => ?_)
                                    refine q_istore (lv' := [(6, .int q130.1), (5, .int q129.1), (0, .ref 900), (1, .ref 0), (2, .ref 32), (3, .ref 59), (4, .int v4)]) 884 d_Lw_law_882 rfl (by decide) rfl ?_
                                    refine q_aloadn 885 d_Lw_law_884 rfl 4 rfl ?_
                                    refine q_xcallP (as := [.ref 32]) (rest := []) 888 h (fun z e => t_Mo_thrown e) (q_xinvV (Y := m_Mo_thrown) d_Lw_law_885 ml_Lw_83 ms_Mo_thrown.1 ms_Mo_thrown.2 k_Mo_thrown.1 (by decide) n_Mo_thrown (by decide) rfl rfl) k_Mo_thrown ⟨by decide, by decide, by simp only [room_1, q_rm]; omega, by simp only [room_1, q_rm]; omega⟩ (Nat.le_of_ble_eq_true rfl) d_Lw_law_885 rfl rfl rfl (fun w131 ew131 h => ?_)
                                    refine q_iload 890 d_Lw_law_888 rfl 1 rfl ?_
                                    refine q_ite h (fun c136 h => ?_) (fun c136 h => ?_)
                                    · refine q_icmp_eq_t 895 d_Lw_law_890 (by decide) c136 ?_
                                      refine q_iload 897 d_Lw_law_895 rfl 1 rfl ?_
                                      refine q_ite h (fun c135 h => ?_) (fun c135 h => ?_)
                                      · refine q_if_ne_t 919 d_Lw_law_897 (by decide) c135 ?_
                                        refine q_goto 1041 d_Lw_law_919 (by decide) ?_
                                        refine q_iinc (v := (v4 + 3)) (lv' := [(4, .int (v4 + 3)), (6, .int q130.1), (5, .int q129.1), (0, .ref 900), (1, .ref 0), (2, .ref 32), (3, .ref 59)]) 1044 d_Lw_law_1041 rfl 6 rfl (q_ai (by decide)) (by decide) rfl ?_
                                        refine q_goto 23 d_Lw_law_1044 (by decide) ?_
                                        refine q_sub (lv' := [(0, .ref 900), (1, .ref 0), (2, .ref 32), (3, .ref 59), (4, .int (v4 + 3))]) [3, 4, 5, 6, 0] rfl ?_
                                        exact ih _ _ _ _ _ _ hcd (by omega) (by omega) h
                                      · refine q_if_ne_f 900 d_Lw_law_897 rfl 919 (by decide) (Classical.not_not.mp c135) ?_
                                        refine q_aloadn 901 d_Lw_law_900 rfl 5 rfl ?_
                                        refine q_iconst (v := 0) 902 d_Lw_law_901 rfl (by decide) ?_
                                        refine q_xlald 903 d_Lw_law_902 rfl ?_
                                        refine q_iload 905 d_Lw_law_903 rfl 0 rfl ?_
                                        refine q_ite h (fun c134 h => ?_) (fun c134 h => ?_)
                                        · refine q_if_eq_t 912 d_Lw_law_905 (by decide) c134 ?_
                                          refine q_lconst (v := 0) 913 d_Lw_law_912 rfl (by decide) ?_
                                          refine q_lcmp 914 d_Lw_law_913 rfl ?_
                                          refine q_ite h (fun c132 h => ?_) (fun c132 h => ?_)
                                          · refine q_if_eq_t 919 d_Lw_law_914 (by decide) c132 ?_
                                            refine q_goto 1041 d_Lw_law_919 (by decide) ?_
                                            refine q_iinc (v := (v4 + 3)) (lv' := [(4, .int (v4 + 3)), (6, .int q130.1), (5, .int q129.1), (0, .ref 900), (1, .ref 0), (2, .ref 32), (3, .ref 59)]) 1044 d_Lw_law_1041 rfl 6 rfl (q_ai (by decide)) (by decide) rfl ?_
                                            refine q_goto 23 d_Lw_law_1044 (by decide) ?_
                                            refine q_sub (lv' := [(0, .ref 900), (1, .ref 0), (2, .ref 32), (3, .ref 59), (4, .int (v4 + 3))]) [3, 4, 5, 6, 0] rfl ?_
                                            exact ih _ _ _ _ _ _ hcd (by omega) (by omega) h
                                          · refine q_if_eq_f 917 d_Lw_law_914 rfl 919 (by decide) c132 ?_
                                            refine q_iconst (v := 0) 918 d_Lw_law_917 rfl (by decide) ?_
                                            cases h
                                            exact q_zret d_Lw_law_918 rfl (by omega) (by omega)
                                        · refine q_if_eq_f 908 d_Lw_law_905 rfl 912 (by decide) c134 ?_
                                          refine q_lconst (v := 1) 909 d_Lw_law_908 rfl (by decide) ?_
                                          refine q_goto 913 d_Lw_law_909 (by decide) ?_
                                          refine q_lcmp 914 d_Lw_law_913 rfl ?_
                                          refine q_ite h (fun c133 h => ?_) (fun c133 h => ?_)
                                          · refine q_if_eq_t 919 d_Lw_law_914 (by decide) c133 ?_
                                            refine q_goto 1041 d_Lw_law_919 (by decide) ?_
                                            refine q_iinc (v := (v4 + 3)) (lv' := [(4, .int (v4 + 3)), (6, .int q130.1), (5, .int q129.1), (0, .ref 900), (1, .ref 0), (2, .ref 32), (3, .ref 59)]) 1044 d_Lw_law_1041 rfl 6 rfl (q_ai (by decide)) (by decide) rfl ?_
                                            refine q_goto 23 d_Lw_law_1044 (by decide) ?_
                                            refine q_sub (lv' := [(0, .ref 900), (1, .ref 0), (2, .ref 32), (3, .ref 59), (4, .int (v4 + 3))]) [3, 4, 5, 6, 0] rfl ?_
                                            exact ih _ _ _ _ _ _ hcd (by omega) (by omega) h
                                          · refine q_if_eq_f 917 d_Lw_law_914 rfl 919 (by decide) c133 ?_
                                            refine q_iconst (v := 0) 918 d_Lw_law_917 rfl (by decide) ?_
                                            cases h
                                            exact q_zret d_Lw_law_918 rfl (by omega) (by omega)
                                    · refine q_icmp_eq_f 893 d_Lw_law_890 rfl 895 (by decide) c136 ?_
                                      refine q_iconst (v := 0) 894 d_Lw_law_893 rfl (by decide) ?_
                                      cases h
                                      exact q_zret d_Lw_law_894 rfl (by omega) (by omega)
                                  · refine q_ite h (fun c137 h => ?_) (fun c137 h => ?_)
                                    · refine q_tableIn (off := 883) 922 d_Lw_law_39 (by rw [c137] <;> decide +kernel) (by rw [c137] <;> decide +kernel) (by rw [c137] <;> decide +kernel) (by decide) ?_
                                      refine q_aloadn 923 d_Lw_law_922 rfl 1 rfl ?_
                                      refine q_aloadn 924 d_Lw_law_923 rfl 0 rfl ?_
                                      refine q_iload 926 d_Lw_law_924 rfl 4 rfl ?_
                                      refine q_iconst (v := 1) 927 d_Lw_law_926 rfl (by decide) ?_
                                      refine q_iadd 928 d_Lw_law_927 rfl ?_
                                      refine q_xsld 929 d_Lw_law_928 rfl h (fun w138 ew138 h => ?_)
                                      refine q_aloadn 930 d_Lw_law_929 rfl 3 rfl ?_
                                      refine q_xcallL (as := [.ref 0, .int w138, .ref 59]) (rest := []) 933 h (fun z e => t_Lw_letter hcd e) (q_invS (Y := m_Lw_letter) d_Lw_law_930 ml_Lw_131 ms_Lw_letter k_Lw_letter.2 k_Lw_letter.1 (by decide) n_Lw_letter) k_Lw_letter ⟨by decide, by decide, by simp only [room_1, q_rm]; omega, by simp only [room_1, q_rm]; omega⟩ (Nat.le_of_ble_eq_true rfl) d_Lw_law_930 rfl rfl rfl (fun q139 eq139 h => ?_)
                                      refine q_istore (lv' := [(5, .int q139.1), (0, .ref 900), (1, .ref 0), (2, .ref 32), (3, .ref 59), (4, .int v4)]) 935 d_Lw_law_933 rfl (by decide) rfl ?_
                                      refine q_aloadn 936 d_Lw_law_935 rfl 3 rfl ?_
                                      refine q_aloadn 937 d_Lw_law_936 rfl 1 rfl ?_
                                      refine q_iload 939 d_Lw_law_937 rfl 5 rfl ?_
                                      refine q_iconst (v := 1) 940 d_Lw_law_939 rfl (by decide) ?_
                                      refine q_iadd 941 d_Lw_law_940 rfl ?_
                                      refine q_xsld 942 d_Lw_law_941 rfl h (fun w140 ew140 h => ?_)
                                      refine q_xcallS (as := [.ref 32, .int w140]) (rest := []) 945 h (fun z e => t_Mo_letter e) (q_xinvV (Y := m_Mo_letter) d_Lw_law_942 ml_Lw_133 ms_Mo_letter.1 ms_Mo_letter.2 k_Mo_letter.1 (by decide) n_Mo_letter (by decide) rfl rfl) k_Mo_letter ⟨by decide, by decide, by simp only [room_1, q_rm]; omega, by simp only [room_1, q_rm]; omega⟩ (Nat.le_of_ble_eq_true rfl) d_Lw_law_942 rfl rfl rfl (fun q141 eq141 h => ?_)
                                      refine q_istore (lv' := [(6, .int q141.1), (5, .int q139.1), (0, .ref 900), (1, .ref 0), (2, .ref 32), (3, .ref 59), (4, .int v4)]) 947 d_Lw_law_945 rfl (by decide) rfl ?_
                                      refine q_aloadn 948 d_Lw_law_947 rfl 4 rfl ?_
                                      refine q_xcallP (as := [.ref 32]) (rest := []) 951 h (fun z e => t_Mo_thrown e) (q_xinvV (Y := m_Mo_thrown) d_Lw_law_948 ml_Lw_83 ms_Mo_thrown.1 ms_Mo_thrown.2 k_Mo_thrown.1 (by decide) n_Mo_thrown (by decide) rfl rfl) k_Mo_thrown ⟨by decide, by decide, by simp only [room_1, q_rm]; omega, by simp only [room_1, q_rm]; omega⟩ (Nat.le_of_ble_eq_true rfl) d_Lw_law_948 rfl rfl rfl (fun w142 ew142 h => ?_)
                                      refine q_iload 953 d_Lw_law_951 rfl 1 rfl ?_
                                      refine q_ite h (fun c145 h => ?_) (fun c145 h => ?_)
                                      · refine q_icmp_eq_t 958 d_Lw_law_953 (by decide) c145 ?_
                                        refine q_iload 960 d_Lw_law_958 rfl 1 rfl ?_
                                        refine q_ite h (fun c144 h => ?_) (fun c144 h => ?_)
                                        · refine q_if_ne_t 975 d_Lw_law_960 (by decide) c144 ?_
                                          refine q_goto 1041 d_Lw_law_975 (by decide) ?_
                                          refine q_iinc (v := (v4 + 3)) (lv' := [(4, .int (v4 + 3)), (6, .int q141.1), (5, .int q139.1), (0, .ref 900), (1, .ref 0), (2, .ref 32), (3, .ref 59)]) 1044 d_Lw_law_1041 rfl 6 rfl (q_ai (by decide)) (by decide) rfl ?_
                                          refine q_goto 23 d_Lw_law_1044 (by decide) ?_
                                          refine q_sub (lv' := [(0, .ref 900), (1, .ref 0), (2, .ref 32), (3, .ref 59), (4, .int (v4 + 3))]) [3, 4, 5, 6, 0] rfl ?_
                                          exact ih _ _ _ _ _ _ hcd (by omega) (by omega) h
                                        · refine q_if_ne_f 963 d_Lw_law_960 rfl 975 (by decide) (Classical.not_not.mp c144) ?_
                                          refine q_aloadn 964 d_Lw_law_963 rfl 5 rfl ?_
                                          refine q_iconst (v := 0) 965 d_Lw_law_964 rfl (by decide) ?_
                                          refine q_xlald 966 d_Lw_law_965 rfl ?_
                                          refine q_iload 968 d_Lw_law_966 rfl 0 rfl ?_
                                          refine q_i2l 969 d_Lw_law_968 rfl ?_
                                          refine q_lcmp 970 d_Lw_law_969 rfl ?_
                                          refine q_ite h (fun c143 h => ?_) (fun c143 h => ?_)
                                          · refine q_if_eq_t 975 d_Lw_law_970 (by decide) c143 ?_
                                            refine q_goto 1041 d_Lw_law_975 (by decide) ?_
                                            refine q_iinc (v := (v4 + 3)) (lv' := [(4, .int (v4 + 3)), (6, .int q141.1), (5, .int q139.1), (0, .ref 900), (1, .ref 0), (2, .ref 32), (3, .ref 59)]) 1044 d_Lw_law_1041 rfl 6 rfl (q_ai (by decide)) (by decide) rfl ?_
                                            refine q_goto 23 d_Lw_law_1044 (by decide) ?_
                                            refine q_sub (lv' := [(0, .ref 900), (1, .ref 0), (2, .ref 32), (3, .ref 59), (4, .int (v4 + 3))]) [3, 4, 5, 6, 0] rfl ?_
                                            exact ih _ _ _ _ _ _ hcd (by omega) (by omega) h
                                          · refine q_if_eq_f 973 d_Lw_law_970 rfl 975 (by decide) c143 ?_
                                            refine q_iconst (v := 0) 974 d_Lw_law_973 rfl (by decide) ?_
                                            cases h
                                            exact q_zret d_Lw_law_974 rfl (by omega) (by omega)
                                      · refine q_icmp_eq_f 956 d_Lw_law_953 rfl 958 (by decide) c145 ?_
                                        refine q_iconst (v := 0) 957 d_Lw_law_956 rfl (by decide) ?_
                                        cases h
                                        exact q_zret d_Lw_law_957 rfl (by omega) (by omega)
                                    · refine q_ite h (fun c146 h => ?_) (fun c146 h => ?_)
                                      · refine q_tableIn (off := 939) 978 d_Lw_law_39 (by rw [c146] <;> decide +kernel) (by rw [c146] <;> decide +kernel) (by rw [c146] <;> decide +kernel) (by decide) ?_
                                        refine q_aloadn 979 d_Lw_law_978 rfl 1 rfl ?_
                                        refine q_aloadn 980 d_Lw_law_979 rfl 0 rfl ?_
                                        refine q_iload 982 d_Lw_law_980 rfl 4 rfl ?_
                                        refine q_iconst (v := 1) 983 d_Lw_law_982 rfl (by decide) ?_
                                        refine q_iadd 984 d_Lw_law_983 rfl ?_
                                        refine q_xsld 985 d_Lw_law_984 rfl h (fun w147 ew147 h => ?_)
                                        refine q_aloadn 986 d_Lw_law_985 rfl 3 rfl ?_
                                        refine q_xcallL (as := [.ref 0, .int w147, .ref 59]) (rest := []) 989 h (fun z e => t_Lw_holds hcd e) (q_invS (Y := m_Lw_holds) d_Lw_law_986 ml_Lw_134 ms_Lw_holds k_Lw_holds.2 k_Lw_holds.1 (by decide) n_Lw_holds) k_Lw_holds ⟨by decide, by decide, by simp only [room_1, q_rm]; omega, by simp only [room_1, q_rm]; omega⟩ (Nat.le_of_ble_eq_true rfl) d_Lw_law_986 rfl rfl rfl (fun q148 eq148 h => ?_)
                                        refine q_istore (lv' := [(5, .int q148.1), (0, .ref 900), (1, .ref 0), (2, .ref 32), (3, .ref 59), (4, .int v4)]) 991 d_Lw_law_989 rfl (by decide) rfl ?_
                                        refine q_aloadn 992 d_Lw_law_991 rfl 3 rfl ?_
                                        refine q_aloadn 993 d_Lw_law_992 rfl 1 rfl ?_
                                        refine q_iload 995 d_Lw_law_993 rfl 5 rfl ?_
                                        refine q_iconst (v := 1) 996 d_Lw_law_995 rfl (by decide) ?_
                                        refine q_iadd 997 d_Lw_law_996 rfl ?_
                                        refine q_xsld 998 d_Lw_law_997 rfl h (fun w149 ew149 h => ?_)
                                        refine q_xcallS (as := [.ref 32, .int w149]) (rest := []) 1001 h (fun z e => t_Mo_holds e) (q_xinvV (Y := m_Mo_holds) d_Lw_law_998 ml_Lw_136 ms_Mo_holds.1 ms_Mo_holds.2 k_Mo_holds.1 (by decide) n_Mo_holds (by decide) rfl rfl) k_Mo_holds ⟨by decide, by decide, by simp only [room_1, q_rm]; omega, by simp only [room_1, q_rm]; omega⟩ (Nat.le_of_ble_eq_true rfl) d_Lw_law_998 rfl rfl rfl (fun q150 eq150 h => ?_)
                                        refine q_istore (lv' := [(6, .int q150.1), (5, .int q148.1), (0, .ref 900), (1, .ref 0), (2, .ref 32), (3, .ref 59), (4, .int v4)]) 1003 d_Lw_law_1001 rfl (by decide) rfl ?_
                                        refine q_aloadn 1004 d_Lw_law_1003 rfl 4 rfl ?_
                                        refine q_xcallP (as := [.ref 32]) (rest := []) 1007 h (fun z e => t_Mo_thrown e) (q_xinvV (Y := m_Mo_thrown) d_Lw_law_1004 ml_Lw_83 ms_Mo_thrown.1 ms_Mo_thrown.2 k_Mo_thrown.1 (by decide) n_Mo_thrown (by decide) rfl rfl) k_Mo_thrown ⟨by decide, by decide, by simp only [room_1, q_rm]; omega, by simp only [room_1, q_rm]; omega⟩ (Nat.le_of_ble_eq_true rfl) d_Lw_law_1004 rfl rfl rfl (fun w151 ew151 h => ?_)
                                        refine q_iload 1009 d_Lw_law_1007 rfl 1 rfl ?_
                                        refine q_ite h (fun c156 h => ?_) (fun c156 h => ?_)
                                        · refine q_icmp_eq_t 1014 d_Lw_law_1009 (by decide) c156 ?_
                                          refine q_iload 1016 d_Lw_law_1014 rfl 1 rfl ?_
                                          refine q_ite h (fun c155 h => ?_) (fun c155 h => ?_)
                                          · refine q_if_ne_t 1038 d_Lw_law_1016 (by decide) c155 ?_
                                            refine q_goto 1041 d_Lw_law_1038 (by decide) ?_
                                            refine q_iinc (v := (v4 + 3)) (lv' := [(4, .int (v4 + 3)), (6, .int q150.1), (5, .int q148.1), (0, .ref 900), (1, .ref 0), (2, .ref 32), (3, .ref 59)]) 1044 d_Lw_law_1041 rfl 6 rfl (q_ai (by decide)) (by decide) rfl ?_
                                            refine q_goto 23 d_Lw_law_1044 (by decide) ?_
                                            refine q_sub (lv' := [(0, .ref 900), (1, .ref 0), (2, .ref 32), (3, .ref 59), (4, .int (v4 + 3))]) [3, 4, 5, 6, 0] rfl ?_
                                            exact ih _ _ _ _ _ _ hcd (by omega) (by omega) h
                                          · refine q_if_ne_f 1019 d_Lw_law_1016 rfl 1038 (by decide) (Classical.not_not.mp c155) ?_
                                            refine q_aloadn 1020 d_Lw_law_1019 rfl 5 rfl ?_
                                            refine q_iconst (v := 0) 1021 d_Lw_law_1020 rfl (by decide) ?_
                                            refine q_xlald 1022 d_Lw_law_1021 rfl ?_
                                            refine q_iload 1024 d_Lw_law_1022 rfl 0 rfl ?_
                                            refine q_ite h (fun c154 h => ?_) (fun c154 h => ?_)
                                            · refine q_if_eq_t 1031 d_Lw_law_1024 (by decide) c154 ?_
                                              refine q_lconst (v := 0) 1032 d_Lw_law_1031 rfl (by decide) ?_
                                              refine q_lcmp 1033 d_Lw_law_1032 rfl ?_
                                              refine q_ite h (fun c152 h => ?_) (fun c152 h => ?_)
                                              · refine q_if_eq_t 1038 d_Lw_law_1033 (by decide) c152 ?_
                                                refine q_goto 1041 d_Lw_law_1038 (by decide) ?_
                                                refine q_iinc (v := (v4 + 3)) (lv' := [(4, .int (v4 + 3)), (6, .int q150.1), (5, .int q148.1), (0, .ref 900), (1, .ref 0), (2, .ref 32), (3, .ref 59)]) 1044 d_Lw_law_1041 rfl 6 rfl (q_ai (by decide)) (by decide) rfl ?_
                                                refine q_goto 23 d_Lw_law_1044 (by decide) ?_
                                                refine q_sub (lv' := [(0, .ref 900), (1, .ref 0), (2, .ref 32), (3, .ref 59), (4, .int (v4 + 3))]) [3, 4, 5, 6, 0] rfl ?_
                                                exact ih _ _ _ _ _ _ hcd (by omega) (by omega) h
                                              · refine q_if_eq_f 1036 d_Lw_law_1033 rfl 1038 (by decide) c152 ?_
                                                refine q_iconst (v := 0) 1037 d_Lw_law_1036 rfl (by decide) ?_
                                                cases h
                                                exact q_zret d_Lw_law_1037 rfl (by omega) (by omega)
                                            · refine q_if_eq_f 1027 d_Lw_law_1024 rfl 1031 (by decide) c154 ?_
                                              refine q_lconst (v := 1) 1028 d_Lw_law_1027 rfl (by decide) ?_
                                              refine q_goto 1032 d_Lw_law_1028 (by decide) ?_
                                              refine q_lcmp 1033 d_Lw_law_1032 rfl ?_
                                              refine q_ite h (fun c153 h => ?_) (fun c153 h => ?_)
                                              · refine q_if_eq_t 1038 d_Lw_law_1033 (by decide) c153 ?_
                                                refine q_goto 1041 d_Lw_law_1038 (by decide) ?_
                                                refine q_iinc (v := (v4 + 3)) (lv' := [(4, .int (v4 + 3)), (6, .int q150.1), (5, .int q148.1), (0, .ref 900), (1, .ref 0), (2, .ref 32), (3, .ref 59)]) 1044 d_Lw_law_1041 rfl 6 rfl (q_ai (by decide)) (by decide) rfl ?_
                                                refine q_goto 23 d_Lw_law_1044 (by decide) ?_
                                                refine q_sub (lv' := [(0, .ref 900), (1, .ref 0), (2, .ref 32), (3, .ref 59), (4, .int (v4 + 3))]) [3, 4, 5, 6, 0] rfl ?_
                                                exact ih _ _ _ _ _ _ hcd (by omega) (by omega) h
                                              · refine q_if_eq_f 1036 d_Lw_law_1033 rfl 1038 (by decide) c153 ?_
                                                refine q_iconst (v := 0) 1037 d_Lw_law_1036 rfl (by decide) ?_
                                                cases h
                                                exact q_zret d_Lw_law_1037 rfl (by omega) (by omega)
                                        · refine q_icmp_eq_f 1012 d_Lw_law_1009 rfl 1014 (by decide) c156 ?_
                                          refine q_iconst (v := 0) 1013 d_Lw_law_1012 rfl (by decide) ?_
                                          cases h
                                          exact q_zret d_Lw_law_1013 rfl (by omega) (by omega)
                                      · refine q_tableOut 1041 d_Lw_law_39 (by have ec2 := lv_neT c2 (by decide : (0 : Int32).toInt = 0); have ec13 := lv_neT c13 (by decide : (1 : Int32).toInt = 1); have ec20 := lv_neT c20 (by decide : (2 : Int32).toInt = 2); have ec27 := lv_neT c27 (by decide : (3 : Int32).toInt = 3); have ec38 := lv_neT c38 (by decide : (4 : Int32).toInt = 4); have ec51 := lv_neT c51 (by decide : (5 : Int32).toInt = 5); have ec62 := lv_neT c62 (by decide : (6 : Int32).toInt = 6); have ec69 := lv_neT c69 (by decide : (7 : Int32).toInt = 7); have ec76 := lv_neT c76 (by decide : (8 : Int32).toInt = 8); have ec85 := lv_neT c85 (by decide : (9 : Int32).toInt = 9); have ec92 := lv_neT c92 (by decide : (10 : Int32).toInt = 10); have ec99 := lv_neT c99 (by decide : (11 : Int32).toInt = 11); have ec108 := lv_neT c108 (by decide : (12 : Int32).toInt = 12); have ec117 := lv_neT c117 (by decide : (13 : Int32).toInt = 13); have ec128 := lv_neT c128 (by decide : (14 : Int32).toInt = 14); have ec137 := lv_neT c137 (by decide : (15 : Int32).toInt = 15); have ec146 := lv_neT c146 (by decide : (16 : Int32).toInt = 16); omega) (by decide) ?_
                                        refine q_iinc (v := (v4 + 3)) (lv' := [(4, .int (v4 + 3)), (0, .ref 900), (1, .ref 0), (2, .ref 32), (3, .ref 59)]) 1044 d_Lw_law_1041 rfl 4 rfl (q_ai (by decide)) (by decide) rfl ?_
                                        refine q_goto 23 d_Lw_law_1044 (by decide) ?_
                                        refine q_sub (lv' := [(0, .ref 900), (1, .ref 0), (2, .ref 32), (3, .ref 59), (4, .int (v4 + 3))]) [1, 2, 3, 4, 0] rfl ?_
                                        exact ih _ _ _ _ _ _ hcd (by omega) (by omega) h
