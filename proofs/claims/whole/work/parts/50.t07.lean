set_option maxHeartbeats 4000000 in
set_option maxRecDepth 100000 in
theorem t_Mo_reads_J310 {E : q_E} {c d : Nat} {ρ : Int32 × q_W} : ∀ (x : q_W) (v3 : Int32) (v4 : Int32), f_Mo_reads_J310  x v3 v4 = some ρ → AW E (q_rm 2) m_Mo_reads (q_cells E c d x) 0 0 310 [(0, .ref 32), (3, .int v3), (4, .int v4)] [] (q_rS E c d ρ) := by
  intro x v3 v4 h
  unfold f_Mo_reads_J310 at h
  refine q_iload 312 d_Mo_reads_310 rfl 2 rfl ?_
  refine q_ite h (fun c25 h => ?_) (fun c25 h => ?_)
  · refine q_if_eq_t 339 d_Mo_reads_312 (by decide) c25 ?_
    refine q_iconst (v := 0) 340 d_Mo_reads_339 rfl (by decide) ?_
    cases h
    exact q_zret d_Mo_reads_340 rfl (Nat.zero_le _) (Nat.zero_le _)
  · refine q_if_eq_f 315 d_Mo_reads_312 rfl 339 (by decide) c25 ?_
    refine q_iloadn 316 d_Mo_reads_315 rfl 1 rfl ?_
    refine q_ite h (fun c24 h => ?_) (fun c24 h => ?_)
    · refine q_if_eq_t 339 d_Mo_reads_316 (by decide) c24 ?_
      refine q_iconst (v := 0) 340 d_Mo_reads_339 rfl (by decide) ?_
      cases h
      exact q_zret d_Mo_reads_340 rfl (Nat.zero_le _) (Nat.zero_le _)
    · refine q_if_eq_f 319 d_Mo_reads_316 rfl 339 (by decide) c24 ?_
      refine q_aloadn 320 d_Mo_reads_319 rfl 0 rfl ?_
      refine q_xget 323 d_Mo_reads_320 rfl fl_Mo_105 (by decide) rfl rfl ?_
      refine q_ite h (fun c23 h => ?_) (fun c23 h => ?_)
      · refine q_if_ne_t 339 d_Mo_reads_323 (by decide) c23 ?_
        refine q_iconst (v := 0) 340 d_Mo_reads_339 rfl (by decide) ?_
        cases h
        exact q_zret d_Mo_reads_340 rfl (Nat.zero_le _) (Nat.zero_le _)
      · refine q_if_ne_f 326 d_Mo_reads_323 rfl 339 (by decide) (Classical.not_not.mp c23) ?_
        refine q_aloadn 327 d_Mo_reads_326 rfl 0 rfl ?_
        refine q_xget 330 d_Mo_reads_327 rfl fl_Mo_120 (by decide) rfl rfl ?_
        refine q_bipush (v := 6) 332 d_Mo_reads_330 rfl (by decide) ?_
        refine q_ite h (fun c22 h => ?_) (fun c22 h => ?_)
        · refine q_icmp_ge_t 339 d_Mo_reads_332 (by decide) c22 ?_
          refine q_iconst (v := 0) 340 d_Mo_reads_339 rfl (by decide) ?_
          cases h
          exact q_zret d_Mo_reads_340 rfl (Nat.zero_le _) (Nat.zero_le _)
        · refine q_icmp_ge_f 335 d_Mo_reads_332 rfl 339 (by decide) c22 ?_
          refine q_iconst (v := 1) 336 d_Mo_reads_335 rfl (by decide) ?_
          refine q_goto 340 d_Mo_reads_336 (by decide) ?_
          cases h
          exact q_zret d_Mo_reads_340 rfl (Nat.zero_le _) (Nat.zero_le _)
set_option maxHeartbeats 4000000 in
set_option maxRecDepth 100000 in
theorem t_Mo_reads_J296 {E : q_E} {c d : Nat} {ρ : Int32 × q_W} : ∀ (x : q_W) (v3 : Int32) (v4 : Int32), f_Mo_reads_J296  x v3 v4 = some ρ → AW E (q_rm 2) m_Mo_reads (q_cells E c d x) 0 0 296 [(0, .ref 32), (3, .int v3), (4, .int v4)] [] (q_rS E c d ρ) := by
  intro x v3 v4 h
  unfold f_Mo_reads_J296 at h
  refine q_iload 298 d_Mo_reads_296 rfl 2 rfl ?_
  refine q_ite h (fun c10 h => ?_) (fun c10 h => ?_)
  · refine q_if_eq_t 310 d_Mo_reads_298 (by decide) c10 ?_
    exact t_Mo_reads_J310  _ _ _ h
  · refine q_if_eq_f 301 d_Mo_reads_298 rfl 310 (by decide) c10 ?_
    refine q_iloadn 302 d_Mo_reads_301 rfl 1 rfl ?_
    refine q_ite h (fun c9 h => ?_) (fun c9 h => ?_)
    · refine q_if_eq_t 310 d_Mo_reads_302 (by decide) c9 ?_
      exact t_Mo_reads_J310  _ _ _ h
    · refine q_if_eq_f 305 d_Mo_reads_302 rfl 310 (by decide) c9 ?_
      refine q_aloadn 306 d_Mo_reads_305 rfl 0 rfl ?_
      refine q_iconst (v := 1) 307 d_Mo_reads_306 rfl (by decide) ?_
      refine q_xcallV (as := [.ref 32, .int 1]) (rest := []) 310 h (fun z e => t_Mo_settle e) (q_xinvV (Y := m_Mo_settle) d_Mo_reads_307 ml_Mo_137 ms_Mo_settle.1 ms_Mo_settle.2 k_Mo_settle.1 (by decide) n_Mo_settle (by decide) rfl rfl) k_Mo_settle (q_ro (by decide) (by decide)) (Nat.le_of_ble_eq_true rfl) d_Mo_reads_307 rfl rfl rfl (fun x8 ex8 h => ?_)
      exact t_Mo_reads_J310  _ _ _ h
set_option maxHeartbeats 4000000 in
set_option maxRecDepth 100000 in
theorem t_Mo_reads_J285 {E : q_E} {c d : Nat} {ρ : Int32 × q_W} {K30 : q_W → Int32 → Int32 → Int32 → Int32 → Int32 → Option (Int32 × q_W)} {E30 : q_W → Int32 → Int32 → Option (Int32 × q_W)} (hK30 : ∀ x v1 v2 v3 v4 v5, K30 x v1 v2 v3 v4 v5 = some ρ → AW E (q_rm 2) m_Mo_reads (q_cells E c d x) 0 0 30 [(0, .ref 32), (1, .int v1), (2, .int v2), (3, .int v3), (4, .int v4), (5, .int v5)] [] (q_rS E c d ρ)) (hE30 : ∀ x u3 u4, E30 x u3 u4 = some ρ → AW E (q_rm 2) m_Mo_reads (q_cells E c d x) 0 0 296 [(0, .ref 32), (3, .int u3), (4, .int u4)] [] (q_rS E c d ρ)) : ∀ (x : q_W) (v1 : Int32) (v2 : Int32) (v4 : Int32) (v5 : Int32) (s0 : Int32), f_Mo_reads_J285 K30 E30 x v1 v2 v4 v5 s0 = some ρ → AW E (q_rm 2) m_Mo_reads (q_cells E c d x) 0 0 285 [(0, .ref 32), (1, .int v1), (2, .int v2), (4, .int v4), (5, .int v5)] [.int s0, .ref 32] (q_rS E c d ρ) := by
  intro x v1 v2 v4 v5 s0 h
  unfold f_Mo_reads_J285 at h
  refine q_xcallV (as := [.ref 32, .int s0]) (rest := []) 288 h (fun z e => t_Mo_push e) (q_xinvV (Y := m_Mo_push) d_Mo_reads_285 ml_Mo_133 ms_Mo_push.1 ms_Mo_push.2 k_Mo_push.1 (by decide) n_Mo_push (by decide) rfl rfl) k_Mo_push (q_ro (by decide) (by decide)) (Nat.le_of_ble_eq_true rfl) d_Mo_reads_285 rfl rfl rfl (fun x44 ex44 h => ?_)
  refine q_iconst (v := 0) 289 d_Mo_reads_288 rfl (by decide) ?_
  refine q_istoren (lv' := [(3, .int 0), (0, .ref 32), (1, .int v1), (2, .int v2), (4, .int v4), (5, .int v5)]) 290 d_Mo_reads_289 rfl (by decide) rfl ?_
  refine q_iinc (v := (v5 + 1)) (lv' := [(5, .int (v5 + 1)), (3, .int 0), (0, .ref 32), (1, .int v1), (2, .int v2), (4, .int v4)]) 293 d_Mo_reads_290 rfl 5 rfl (q_ai (by decide)) (by decide) rfl ?_
  refine q_goto 30 d_Mo_reads_293 (by decide) ?_
  refine q_sub (lv' := [(0, .ref 32), (1, .int v1), (2, .int v2), (3, .int 0), (4, .int v4), (5, .int (v5 + 1))]) [2, 3, 4, 1, 5, 0] rfl ?_
  exact hK30 _ _ _ _ _ _ h
set_option maxHeartbeats 4000000 in
set_option maxRecDepth 100000 in
theorem t_Mo_reads_J270 {E : q_E} {c d : Nat} {ρ : Int32 × q_W} {K30 : q_W → Int32 → Int32 → Int32 → Int32 → Int32 → Option (Int32 × q_W)} {E30 : q_W → Int32 → Int32 → Option (Int32 × q_W)} (hK30 : ∀ x v1 v2 v3 v4 v5, K30 x v1 v2 v3 v4 v5 = some ρ → AW E (q_rm 2) m_Mo_reads (q_cells E c d x) 0 0 30 [(0, .ref 32), (1, .int v1), (2, .int v2), (3, .int v3), (4, .int v4), (5, .int v5)] [] (q_rS E c d ρ)) (hE30 : ∀ x u3 u4, E30 x u3 u4 = some ρ → AW E (q_rm 2) m_Mo_reads (q_cells E c d x) 0 0 296 [(0, .ref 32), (3, .int u3), (4, .int u4)] [] (q_rS E c d ρ)) : ∀ (x : q_W) (v1 : Int32) (v2 : Int32) (v4 : Int32) (v5 : Int32) (v7 : Int32) (s0 : Int32), f_Mo_reads_J270 K30 E30 x v1 v2 v4 v5 v7 s0 = some ρ → AW E (q_rm 2) m_Mo_reads (q_cells E c d x) 0 0 270 [(0, .ref 32), (1, .int v1), (2, .int v2), (4, .int v4), (5, .int v5), (7, .int v7)] [.int s0, .ref 32] (q_rS E c d ρ) := by
  intro x v1 v2 v4 v5 v7 s0 h
  unfold f_Mo_reads_J270 at h
  refine q_xcallV (as := [.ref 32, .int s0]) (rest := []) 273 h (fun z e => t_Mo_settle e) (q_xinvV (Y := m_Mo_settle) d_Mo_reads_270 ml_Mo_137 ms_Mo_settle.1 ms_Mo_settle.2 k_Mo_settle.1 (by decide) n_Mo_settle (by decide) rfl rfl) k_Mo_settle (q_ro (by decide) (by decide)) (Nat.le_of_ble_eq_true rfl) d_Mo_reads_270 rfl rfl rfl (fun x39 ex39 h => ?_)
  refine q_aloadn 274 d_Mo_reads_273 rfl 0 rfl ?_
  refine q_iload 276 d_Mo_reads_274 rfl 3 rfl ?_
  refine q_ite h (fun c40 h => ?_) (fun c40 h => ?_)
  · refine q_if_eq_t 284 d_Mo_reads_276 (by decide) c40 ?_
    refine q_iconst (v := 5) 285 d_Mo_reads_284 rfl (by decide) ?_
    refine q_sub (lv' := [(0, .ref 32), (1, .int v1), (2, .int v2), (4, .int v4), (5, .int v5)]) [0, 1, 2, 3, 4] rfl ?_
    exact t_Mo_reads_J285 hK30 hE30 _ _ _ _ _ _ h
  · refine q_if_eq_f 279 d_Mo_reads_276 rfl 284 (by decide) c40 ?_
    refine q_iload 281 d_Mo_reads_279 rfl 5 rfl ?_
    refine q_goto 285 d_Mo_reads_281 (by decide) ?_
    refine q_sub (lv' := [(0, .ref 32), (1, .int v1), (2, .int v2), (4, .int v4), (5, .int v5)]) [0, 1, 2, 3, 4] rfl ?_
    exact t_Mo_reads_J285 hK30 hE30 _ _ _ _ _ _ h
set_option maxHeartbeats 4000000 in
set_option maxRecDepth 100000 in
theorem t_Mo_reads_J265 {E : q_E} {c d : Nat} {ρ : Int32 × q_W} {K30 : q_W → Int32 → Int32 → Int32 → Int32 → Int32 → Option (Int32 × q_W)} {E30 : q_W → Int32 → Int32 → Option (Int32 × q_W)} (hK30 : ∀ x v1 v2 v3 v4 v5, K30 x v1 v2 v3 v4 v5 = some ρ → AW E (q_rm 2) m_Mo_reads (q_cells E c d x) 0 0 30 [(0, .ref 32), (1, .int v1), (2, .int v2), (3, .int v3), (4, .int v4), (5, .int v5)] [] (q_rS E c d ρ)) (hE30 : ∀ x u3 u4, E30 x u3 u4 = some ρ → AW E (q_rm 2) m_Mo_reads (q_cells E c d x) 0 0 296 [(0, .ref 32), (3, .int u3), (4, .int u4)] [] (q_rS E c d ρ)) : ∀ (x : q_W) (v1 : Int32) (v2 : Int32) (v4 : Int32) (v5 : Int32) (v7 : Int32), f_Mo_reads_J265 K30 E30 x v1 v2 v4 v5 v7 = some ρ → AW E (q_rm 2) m_Mo_reads (q_cells E c d x) 0 0 265 [(0, .ref 32), (1, .int v1), (2, .int v2), (4, .int v4), (5, .int v5), (7, .int v7)] [.ref 32] (q_rS E c d ρ) := by
  intro x v1 v2 v4 v5 v7 h
  unfold f_Mo_reads_J265 at h
  refine q_iconst (v := 2) 266 d_Mo_reads_265 rfl (by decide) ?_
  refine q_goto 270 d_Mo_reads_266 (by decide) ?_
  exact t_Mo_reads_J270 hK30 hE30 _ _ _ _ _ _ _ h
set_option maxHeartbeats 4000000 in
set_option maxRecDepth 100000 in
theorem t_Mo_reads_J237 {E : q_E} {c d : Nat} {ρ : Int32 × q_W} {K30 : q_W → Int32 → Int32 → Int32 → Int32 → Int32 → Option (Int32 × q_W)} {E30 : q_W → Int32 → Int32 → Option (Int32 × q_W)} (hK30 : ∀ x v1 v2 v3 v4 v5, K30 x v1 v2 v3 v4 v5 = some ρ → AW E (q_rm 2) m_Mo_reads (q_cells E c d x) 0 0 30 [(0, .ref 32), (1, .int v1), (2, .int v2), (3, .int v3), (4, .int v4), (5, .int v5)] [] (q_rS E c d ρ)) (hE30 : ∀ x u3 u4, E30 x u3 u4 = some ρ → AW E (q_rm 2) m_Mo_reads (q_cells E c d x) 0 0 296 [(0, .ref 32), (3, .int u3), (4, .int u4)] [] (q_rS E c d ρ)) : ∀ (x : q_W) (v1 : Int32) (v2 : Int32) (v5 : Int32) (v7 : Int32) (s0 : Int32), f_Mo_reads_J237 K30 E30 x v1 v2 v5 v7 s0 = some ρ → AW E (q_rm 2) m_Mo_reads (q_cells E c d x) 0 0 237 [(0, .ref 32), (1, .int v1), (2, .int v2), (5, .int v5), (7, .int v7)] [.int s0] (q_rS E c d ρ) := by
  intro x v1 v2 v5 v7 s0 h
  unfold f_Mo_reads_J237 at h
  refine q_istore (lv' := [(4, .int s0), (0, .ref 32), (1, .int v1), (2, .int v2), (5, .int v5), (7, .int v7)]) 239 d_Mo_reads_237 rfl (by decide) rfl ?_
  refine q_aloadn 240 d_Mo_reads_239 rfl 1 rfl ?_
  refine q_iload 242 d_Mo_reads_240 rfl 5 rfl ?_
  refine q_bipush (v := 11) 244 d_Mo_reads_242 rfl (by decide) ?_
  refine q_ite h (fun c28 h => ?_) (fun c28 h => ?_)
  · refine q_icmp_ne_t 251 d_Mo_reads_244 (by decide) c28 ?_
    refine q_iload 253 d_Mo_reads_251 rfl 5 rfl ?_
    refine q_bipush (v := 12) 255 d_Mo_reads_253 rfl (by decide) ?_
    refine q_ite h (fun c27 h => ?_) (fun c27 h => ?_)
    · refine q_icmp_eq_t 265 d_Mo_reads_255 (by decide) c27 ?_
      refine q_sub (lv' := [(0, .ref 32), (1, .int v1), (2, .int v2), (4, .int s0), (5, .int v5), (7, .int v7)]) [1, 2, 3, 0, 4, 5] rfl ?_
      exact t_Mo_reads_J265 hK30 hE30 _ _ _ _ _ _ h
    · refine q_icmp_eq_f 258 d_Mo_reads_255 rfl 265 (by decide) c27 ?_
      refine q_iload 260 d_Mo_reads_258 rfl 5 rfl ?_
      refine q_bipush (v := 13) 262 d_Mo_reads_260 rfl (by decide) ?_
      refine q_ite h (fun c26 h => ?_) (fun c26 h => ?_)
      · refine q_icmp_ne_t 269 d_Mo_reads_262 (by decide) c26 ?_
        refine q_iconst (v := 5) 270 d_Mo_reads_269 rfl (by decide) ?_
        refine q_sub (lv' := [(0, .ref 32), (1, .int v1), (2, .int v2), (4, .int s0), (5, .int v5), (7, .int v7)]) [1, 2, 3, 0, 4, 5] rfl ?_
        exact t_Mo_reads_J270 hK30 hE30 _ _ _ _ _ _ _ h
      · refine q_icmp_ne_f 265 d_Mo_reads_262 rfl 269 (by decide) (Classical.not_not.mp c26) ?_
        refine q_sub (lv' := [(0, .ref 32), (1, .int v1), (2, .int v2), (4, .int s0), (5, .int v5), (7, .int v7)]) [1, 2, 3, 0, 4, 5] rfl ?_
        exact t_Mo_reads_J265 hK30 hE30 _ _ _ _ _ _ h
  · refine q_icmp_ne_f 247 d_Mo_reads_244 rfl 251 (by decide) (Classical.not_not.mp c28) ?_
    refine q_iconst (v := 3) 248 d_Mo_reads_247 rfl (by decide) ?_
    refine q_goto 270 d_Mo_reads_248 (by decide) ?_
    refine q_sub (lv' := [(0, .ref 32), (1, .int v1), (2, .int v2), (4, .int s0), (5, .int v5), (7, .int v7)]) [1, 2, 3, 0, 4, 5] rfl ?_
    exact t_Mo_reads_J270 hK30 hE30 _ _ _ _ _ _ _ h
set_option maxHeartbeats 4000000 in
set_option maxRecDepth 100000 in
theorem t_Mo_reads_J211 {E : q_E} {c d : Nat} {ρ : Int32 × q_W} {K30 : q_W → Int32 → Int32 → Int32 → Int32 → Int32 → Option (Int32 × q_W)} {E30 : q_W → Int32 → Int32 → Option (Int32 × q_W)} (hK30 : ∀ x v1 v2 v3 v4 v5, K30 x v1 v2 v3 v4 v5 = some ρ → AW E (q_rm 2) m_Mo_reads (q_cells E c d x) 0 0 30 [(0, .ref 32), (1, .int v1), (2, .int v2), (3, .int v3), (4, .int v4), (5, .int v5)] [] (q_rS E c d ρ)) (hE30 : ∀ x u3 u4, E30 x u3 u4 = some ρ → AW E (q_rm 2) m_Mo_reads (q_cells E c d x) 0 0 296 [(0, .ref 32), (3, .int u3), (4, .int u4)] [] (q_rS E c d ρ)) : ∀ (x : q_W) (v1 : Int32) (v2 : Int32) (v3 : Int32) (v4 : Int32) (v5 : Int32) (s0 : Int32), f_Mo_reads_J211 K30 E30 x v1 v2 v3 v4 v5 s0 = some ρ → AW E (q_rm 2) m_Mo_reads (q_cells E c d x) 0 0 211 [(0, .ref 32), (1, .int v1), (2, .int v2), (3, .int v3), (4, .int v4), (5, .int v5)] [.int s0, .ref 32] (q_rS E c d ρ) := by
  intro x v1 v2 v3 v4 v5 s0 h
  unfold f_Mo_reads_J211 at h
  refine q_xput 214 d_Mo_reads_211 rfl fl_Mo_105 (by decide) rfl rfl rfl rfl (Nat.le_of_ble_eq_true rfl) (fun _ => rfl) h (fun x41 ex41 h => ?_)
  refine q_iinc (v := (v2 + (-1))) (lv' := [(2, .int (v2 + (-1))), (0, .ref 32), (1, .int v1), (3, .int v3), (4, .int v4), (5, .int v5)]) 217 d_Mo_reads_214 rfl 2 rfl (q_ai (by decide)) (by decide) rfl ?_
  refine q_goto 290 d_Mo_reads_217 (by decide) ?_
  refine q_iinc (v := (v5 + 1)) (lv' := [(5, .int (v5 + 1)), (2, .int (v2 + (-1))), (0, .ref 32), (1, .int v1), (3, .int v3), (4, .int v4)]) 293 d_Mo_reads_290 rfl 5 rfl (q_ai (by decide)) (by decide) rfl ?_
  refine q_goto 30 d_Mo_reads_293 (by decide) ?_
  refine q_sub (lv' := [(0, .ref 32), (1, .int v1), (2, .int (v2 + (-1))), (3, .int v3), (4, .int v4), (5, .int (v5 + 1))]) [2, 3, 1, 4, 5, 0] rfl ?_
  exact hK30 _ _ _ _ _ _ h
set_option maxHeartbeats 4000000 in
set_option maxRecDepth 100000 in
theorem t_Mo_reads_J193 {E : q_E} {c d : Nat} {ρ : Int32 × q_W} {K30 : q_W → Int32 → Int32 → Int32 → Int32 → Int32 → Option (Int32 × q_W)} {E30 : q_W → Int32 → Int32 → Option (Int32 × q_W)} (hK30 : ∀ x v1 v2 v3 v4 v5, K30 x v1 v2 v3 v4 v5 = some ρ → AW E (q_rm 2) m_Mo_reads (q_cells E c d x) 0 0 30 [(0, .ref 32), (1, .int v1), (2, .int v2), (3, .int v3), (4, .int v4), (5, .int v5)] [] (q_rS E c d ρ)) (hE30 : ∀ x u3 u4, E30 x u3 u4 = some ρ → AW E (q_rm 2) m_Mo_reads (q_cells E c d x) 0 0 296 [(0, .ref 32), (3, .int u3), (4, .int u4)] [] (q_rS E c d ρ)) : ∀ (x : q_W) (v1 : Int32) (v2 : Int32) (v3 : Int32) (v5 : Int32) (s0 : Int32), f_Mo_reads_J193 K30 E30 x v1 v2 v3 v5 s0 = some ρ → AW E (q_rm 2) m_Mo_reads (q_cells E c d x) 0 0 193 [(0, .ref 32), (1, .int v1), (2, .int v2), (3, .int v3), (5, .int v5)] [.int s0] (q_rS E c d ρ) := by
  intro x v1 v2 v3 v5 s0 h
  unfold f_Mo_reads_J193 at h
  refine q_istore (lv' := [(4, .int s0), (0, .ref 32), (1, .int v1), (2, .int v2), (3, .int v3), (5, .int v5)]) 195 d_Mo_reads_193 rfl (by decide) rfl ?_
  refine q_aloadn 196 d_Mo_reads_195 rfl 1 rfl ?_
  refine q_iload 198 d_Mo_reads_196 rfl 0 rfl ?_
  refine q_ite h (fun c29 h => ?_) (fun c29 h => ?_)
  · refine q_if_eq_t 210 d_Mo_reads_198 (by decide) c29 ?_
    refine q_iconst (v := 0) 211 d_Mo_reads_210 rfl (by decide) ?_
    refine q_sub (lv' := [(0, .ref 32), (1, .int v1), (2, .int v2), (3, .int v3), (4, .int s0), (5, .int v5)]) [1, 2, 3, 4, 0, 5] rfl ?_
    exact t_Mo_reads_J211 hK30 hE30 _ _ _ _ _ _ _ h
  · refine q_if_eq_f 201 d_Mo_reads_198 rfl 210 (by decide) c29 ?_
    refine q_aloadn 202 d_Mo_reads_201 rfl 1 rfl ?_
    refine q_xget 205 d_Mo_reads_202 rfl fl_Mo_105 (by decide) rfl rfl ?_
    refine q_iconst (v := 1) 206 d_Mo_reads_205 rfl (by decide) ?_
    refine q_isub 207 d_Mo_reads_206 rfl ?_
    refine q_goto 211 d_Mo_reads_207 (by decide) ?_
    refine q_sub (lv' := [(0, .ref 32), (1, .int v1), (2, .int v2), (3, .int v3), (4, .int s0), (5, .int v5)]) [1, 2, 3, 4, 0, 5] rfl ?_
    exact t_Mo_reads_J211 hK30 hE30 _ _ _ _ _ _ _ h
set_option maxHeartbeats 4000000 in
set_option maxRecDepth 100000 in
theorem t_Mo_reads_J163 {E : q_E} {c d : Nat} {ρ : Int32 × q_W} {K30 : q_W → Int32 → Int32 → Int32 → Int32 → Int32 → Option (Int32 × q_W)} {E30 : q_W → Int32 → Int32 → Option (Int32 × q_W)} (hK30 : ∀ x v1 v2 v3 v4 v5, K30 x v1 v2 v3 v4 v5 = some ρ → AW E (q_rm 2) m_Mo_reads (q_cells E c d x) 0 0 30 [(0, .ref 32), (1, .int v1), (2, .int v2), (3, .int v3), (4, .int v4), (5, .int v5)] [] (q_rS E c d ρ)) (hE30 : ∀ x u3 u4, E30 x u3 u4 = some ρ → AW E (q_rm 2) m_Mo_reads (q_cells E c d x) 0 0 296 [(0, .ref 32), (3, .int u3), (4, .int u4)] [] (q_rS E c d ρ)) : ∀ (x : q_W) (v1 : Int32) (v2 : Int32) (v3 : Int32) (v4 : Int32) (v5 : Int32) (s0 : Int32), f_Mo_reads_J163 K30 E30 x v1 v2 v3 v4 v5 s0 = some ρ → AW E (q_rm 2) m_Mo_reads (q_cells E c d x) 0 0 163 [(0, .ref 32), (1, .int v1), (2, .int v2), (3, .int v3), (4, .int v4), (5, .int v5)] [.int s0, .ref 32] (q_rS E c d ρ) := by
  intro x v1 v2 v3 v4 v5 s0 h
  unfold f_Mo_reads_J163 at h
  refine q_xcallV (as := [.ref 32, .int s0]) (rest := []) 166 h (fun z e => t_Mo_push e) (q_xinvV (Y := m_Mo_push) d_Mo_reads_163 ml_Mo_133 ms_Mo_push.1 ms_Mo_push.2 k_Mo_push.1 (by decide) n_Mo_push (by decide) rfl rfl) k_Mo_push (q_ro (by decide) (by decide)) (Nat.le_of_ble_eq_true rfl) d_Mo_reads_163 rfl rfl rfl (fun x45 ex45 h => ?_)
  refine q_goto 290 d_Mo_reads_166 (by decide) ?_
  refine q_iinc (v := (v5 + 1)) (lv' := [(5, .int (v5 + 1)), (0, .ref 32), (1, .int v1), (2, .int v2), (3, .int v3), (4, .int v4)]) 293 d_Mo_reads_290 rfl 5 rfl (q_ai (by decide)) (by decide) rfl ?_
  refine q_goto 30 d_Mo_reads_293 (by decide) ?_
  refine q_sub (lv' := [(0, .ref 32), (1, .int v1), (2, .int v2), (3, .int v3), (4, .int v4), (5, .int (v5 + 1))]) [1, 2, 3, 4, 5, 0] rfl ?_
  exact hK30 _ _ _ _ _ _ h
set_option maxHeartbeats 4000000 in
set_option maxRecDepth 100000 in
theorem t_Mo_reads_J146 {E : q_E} {c d : Nat} {ρ : Int32 × q_W} {K30 : q_W → Int32 → Int32 → Int32 → Int32 → Int32 → Option (Int32 × q_W)} {E30 : q_W → Int32 → Int32 → Option (Int32 × q_W)} (hK30 : ∀ x v1 v2 v3 v4 v5, K30 x v1 v2 v3 v4 v5 = some ρ → AW E (q_rm 2) m_Mo_reads (q_cells E c d x) 0 0 30 [(0, .ref 32), (1, .int v1), (2, .int v2), (3, .int v3), (4, .int v4), (5, .int v5)] [] (q_rS E c d ρ)) (hE30 : ∀ x u3 u4, E30 x u3 u4 = some ρ → AW E (q_rm 2) m_Mo_reads (q_cells E c d x) 0 0 296 [(0, .ref 32), (3, .int u3), (4, .int u4)] [] (q_rS E c d ρ)) : ∀ (x : q_W) (v1 : Int32) (v2 : Int32) (v3 : Int32) (v5 : Int32) (v6 : Int32) (s0 : Int32), f_Mo_reads_J146 K30 E30 x v1 v2 v3 v5 v6 s0 = some ρ → AW E (q_rm 2) m_Mo_reads (q_cells E c d x) 0 0 146 [(0, .ref 32), (1, .int v1), (2, .int v2), (3, .int v3), (5, .int v5), (6, .int v6)] [.int s0] (q_rS E c d ρ) := by
  intro x v1 v2 v3 v5 v6 s0 h
  unfold f_Mo_reads_J146 at h
  refine q_istore (lv' := [(4, .int s0), (0, .ref 32), (1, .int v1), (2, .int v2), (3, .int v3), (5, .int v5), (6, .int v6)]) 148 d_Mo_reads_146 rfl (by decide) rfl ?_
  refine q_aloadn 149 d_Mo_reads_148 rfl 1 rfl ?_
  refine q_iload 151 d_Mo_reads_149 rfl 0 rfl ?_
  refine q_ite h (fun c43 h => ?_) (fun c43 h => ?_)
  · refine q_if_eq_t 162 d_Mo_reads_151 (by decide) c43 ?_
    refine q_iconst (v := 5) 163 d_Mo_reads_162 rfl (by decide) ?_
    refine q_sub (lv' := [(0, .ref 32), (1, .int v1), (2, .int v2), (3, .int v3), (4, .int s0), (5, .int v5)]) [1, 2, 3, 4, 0, 5] rfl ?_
    exact t_Mo_reads_J163 hK30 hE30 _ _ _ _ _ _ _ h
  · refine q_if_eq_f 154 d_Mo_reads_151 rfl 162 (by decide) c43 ?_
    refine q_iload 156 d_Mo_reads_154 rfl 6 rfl ?_
    refine q_xcallP (as := [.int v6]) (rest := [.ref 32]) 159 h (fun z e => t_Mo_prefixOf e) (q_invS (Y := m_Mo_prefixOf) d_Mo_reads_156 ml_Mo_130 ms_Mo_prefixOf k_Mo_prefixOf.2 k_Mo_prefixOf.1 (by decide) n_Mo_prefixOf) k_Mo_prefixOf (q_ro (by decide) (by decide)) (Nat.le_of_ble_eq_true rfl) d_Mo_reads_156 rfl rfl rfl (fun w42 ew42 h => ?_)
    refine q_goto 163 d_Mo_reads_159 (by decide) ?_
    refine q_sub (lv' := [(0, .ref 32), (1, .int v1), (2, .int v2), (3, .int v3), (4, .int s0), (5, .int v5)]) [1, 2, 3, 4, 0, 5] rfl ?_
    exact t_Mo_reads_J163 hK30 hE30 _ _ _ _ _ _ _ h
set_option maxHeartbeats 4000000 in
set_option maxRecDepth 100000 in
theorem t_Mo_reads_J67 {E : q_E} {c d : Nat} {ρ : Int32 × q_W} {K30 : q_W → Int32 → Int32 → Int32 → Int32 → Int32 → Option (Int32 × q_W)} {E30 : q_W → Int32 → Int32 → Option (Int32 × q_W)} (hK30 : ∀ x v1 v2 v3 v4 v5, K30 x v1 v2 v3 v4 v5 = some ρ → AW E (q_rm 2) m_Mo_reads (q_cells E c d x) 0 0 30 [(0, .ref 32), (1, .int v1), (2, .int v2), (3, .int v3), (4, .int v4), (5, .int v5)] [] (q_rS E c d ρ)) (hE30 : ∀ x u3 u4, E30 x u3 u4 = some ρ → AW E (q_rm 2) m_Mo_reads (q_cells E c d x) 0 0 296 [(0, .ref 32), (3, .int u3), (4, .int u4)] [] (q_rS E c d ρ)) : ∀ (x : q_W) (v1 : Int32) (v2 : Int32) (v4 : Int32) (v5 : Int32) (v6 : Int32) (s0 : Int32), f_Mo_reads_J67 K30 E30 x v1 v2 v4 v5 v6 s0 = some ρ → AW E (q_rm 2) m_Mo_reads (q_cells E c d x) 0 0 67 [(0, .ref 32), (1, .int v1), (2, .int v2), (4, .int v4), (5, .int v5), (6, .int v6)] [.int s0] (q_rS E c d ρ) := by
  intro x v1 v2 v4 v5 v6 s0 h
  unfold f_Mo_reads_J67 at h
  refine q_istoren (lv' := [(3, .int s0), (0, .ref 32), (1, .int v1), (2, .int v2), (4, .int v4), (5, .int v5), (6, .int v6)]) 68 d_Mo_reads_67 rfl (by decide) rfl ?_
  refine q_iloadn 69 d_Mo_reads_68 rfl 0 rfl ?_
  refine q_ite h (fun c38 h => ?_) (fun c38 h => ?_)
  · refine q_if_eq_t 87 d_Mo_reads_69 (by decide) c38 ?_
    refine q_iload 89 d_Mo_reads_87 rfl 6 rfl ?_
    refine q_bipush (v := 40) 91 d_Mo_reads_89 rfl (by decide) ?_
    refine q_ite h (fun c35 h => ?_) (fun c35 h => ?_)
    · refine q_icmp_ne_t 133 d_Mo_reads_91 (by decide) c35 ?_
      refine q_iload 135 d_Mo_reads_133 rfl 6 rfl ?_
      refine q_xcallP (as := [.int v6]) (rest := []) 138 h (fun z e => t_Mo_prefixOf e) (q_invS (Y := m_Mo_prefixOf) d_Mo_reads_135 ml_Mo_130 ms_Mo_prefixOf k_Mo_prefixOf.2 k_Mo_prefixOf.1 (by decide) n_Mo_prefixOf) k_Mo_prefixOf (q_ro (by decide) (by decide)) (Nat.le_of_ble_eq_true rfl) d_Mo_reads_135 rfl rfl rfl (fun w30 ew30 h => ?_)
      refine q_ite h (fun c31 h => ?_) (fun c31 h => ?_)
      · refine q_if_lt_t 145 d_Mo_reads_138 (by decide) c31 ?_
        refine q_iconst (v := 0) 146 d_Mo_reads_145 rfl (by decide) ?_
        refine q_sub (lv' := [(0, .ref 32), (1, .int v1), (2, .int v2), (3, .int s0), (5, .int v5), (6, .int v6)]) [1, 2, 3, 0, 5, 6] rfl ?_
        exact t_Mo_reads_J146 hK30 hE30 _ _ _ _ _ _ _ h
      · refine q_if_lt_f 141 d_Mo_reads_138 rfl 145 (by decide) c31 ?_
        refine q_iconst (v := 1) 142 d_Mo_reads_141 rfl (by decide) ?_
        refine q_goto 146 d_Mo_reads_142 (by decide) ?_
        refine q_sub (lv' := [(0, .ref 32), (1, .int v1), (2, .int v2), (3, .int s0), (5, .int v5), (6, .int v6)]) [1, 2, 3, 0, 5, 6] rfl ?_
        exact t_Mo_reads_J146 hK30 hE30 _ _ _ _ _ _ _ h
    · refine q_icmp_ne_f 94 d_Mo_reads_91 rfl 133 (by decide) (Classical.not_not.mp c35) ?_
      refine q_aloadn 95 d_Mo_reads_94 rfl 1 rfl ?_
      refine q_xget 98 d_Mo_reads_95 rfl fl_Mo_46 (by decide) rfl rfl ?_
      refine q_aloadn 99 d_Mo_reads_98 rfl 1 rfl ?_
      refine q_xget 102 d_Mo_reads_99 rfl fl_Mo_105 (by decide) rfl rfl ?_
      refine q_bipush (v := 14) 104 d_Mo_reads_102 rfl (by decide) ?_
      refine q_xiast 105 d_Mo_reads_104 rfl (by decide) (fun _ => rfl) h (fun x32 ex32 h => ?_)
      refine q_aloadn 106 d_Mo_reads_105 rfl 1 rfl ?_
      refine q_dup 107 d_Mo_reads_106 rfl rfl ?_
      refine q_xget 110 d_Mo_reads_107 rfl fl_Mo_105 (by decide) rfl rfl ?_
      refine q_iconst (v := 1) 111 d_Mo_reads_110 rfl (by decide) ?_
      refine q_iadd 112 d_Mo_reads_111 rfl ?_
      refine q_xput 115 d_Mo_reads_112 rfl fl_Mo_105 (by decide) rfl rfl rfl rfl (Nat.le_of_ble_eq_true rfl) (fun _ => rfl) h (fun x33 ex33 h => ?_)
      refine q_iinc (v := (v2 + 1)) (lv' := [(2, .int (v2 + 1)), (3, .int s0), (0, .ref 32), (1, .int v1), (4, .int v4), (5, .int v5), (6, .int v6)]) 118 d_Mo_reads_115 rfl 3 rfl (q_ai (by decide)) (by decide) rfl ?_
      refine q_iloadn 119 d_Mo_reads_118 rfl 0 rfl ?_
      refine q_iconst (v := 5) 120 d_Mo_reads_119 rfl (by decide) ?_
      refine q_ite h (fun c34 h => ?_) (fun c34 h => ?_)
      · refine q_icmp_ge_t 127 d_Mo_reads_120 (by decide) c34 ?_
        refine q_iconst (v := 0) 128 d_Mo_reads_127 rfl (by decide) ?_
        refine q_istore (lv' := [(4, .int 0), (2, .int (v2 + 1)), (3, .int s0), (0, .ref 32), (1, .int v1), (5, .int v5), (6, .int v6)]) 130 d_Mo_reads_128 rfl (by decide) rfl ?_
        refine q_goto 290 d_Mo_reads_130 (by decide) ?_
        refine q_iinc (v := (v5 + 1)) (lv' := [(5, .int (v5 + 1)), (4, .int 0), (2, .int (v2 + 1)), (3, .int s0), (0, .ref 32), (1, .int v1), (6, .int v6)]) 293 d_Mo_reads_290 rfl 5 rfl (q_ai (by decide)) (by decide) rfl ?_
        refine q_goto 30 d_Mo_reads_293 (by decide) ?_
        refine q_sub (lv' := [(0, .ref 32), (1, .int v1), (2, .int (v2 + 1)), (3, .int s0), (4, .int 0), (5, .int (v5 + 1))]) [4, 5, 2, 3, 1, 0] rfl ?_
        exact hK30 _ _ _ _ _ _ h
      · refine q_icmp_ge_f 123 d_Mo_reads_120 rfl 127 (by decide) c34 ?_
        refine q_iconst (v := 1) 124 d_Mo_reads_123 rfl (by decide) ?_
        refine q_goto 128 d_Mo_reads_124 (by decide) ?_
        refine q_istore (lv' := [(4, .int 1), (2, .int (v2 + 1)), (3, .int s0), (0, .ref 32), (1, .int v1), (5, .int v5), (6, .int v6)]) 130 d_Mo_reads_128 rfl (by decide) rfl ?_
        refine q_goto 290 d_Mo_reads_130 (by decide) ?_
        refine q_iinc (v := (v5 + 1)) (lv' := [(5, .int (v5 + 1)), (4, .int 1), (2, .int (v2 + 1)), (3, .int s0), (0, .ref 32), (1, .int v1), (6, .int v6)]) 293 d_Mo_reads_290 rfl 5 rfl (q_ai (by decide)) (by decide) rfl ?_
        refine q_goto 30 d_Mo_reads_293 (by decide) ?_
        refine q_sub (lv' := [(0, .ref 32), (1, .int v1), (2, .int (v2 + 1)), (3, .int s0), (4, .int 1), (5, .int (v5 + 1))]) [4, 5, 2, 3, 1, 0] rfl ?_
        exact hK30 _ _ _ _ _ _ h
  · refine q_if_eq_f 72 d_Mo_reads_69 rfl 87 (by decide) c38 ?_
    refine q_aloadn 73 d_Mo_reads_72 rfl 1 rfl ?_
    refine q_iload 75 d_Mo_reads_73 rfl 6 rfl ?_
    refine q_xcallP (as := [.int v6]) (rest := [.ref 32]) 78 h (fun z e => t_Mo_leafOf e) (q_invS (Y := m_Mo_leafOf) d_Mo_reads_75 ml_Mo_127 ms_Mo_leafOf k_Mo_leafOf.2 k_Mo_leafOf.1 (by decide) n_Mo_leafOf) k_Mo_leafOf (q_ro (by decide) (by decide)) (Nat.le_of_ble_eq_true rfl) d_Mo_reads_75 rfl rfl rfl (fun w36 ew36 h => ?_)
    refine q_iconst (v := 0) 79 d_Mo_reads_78 rfl (by decide) ?_
    refine q_iconst (v := (-1)) 80 d_Mo_reads_79 rfl (by decide) ?_
    refine q_iconst (v := (-1)) 81 d_Mo_reads_80 rfl (by decide) ?_
    refine q_xcallV (as := [.ref 32, .int w36, .int 0, .int (-1), .int (-1)]) (rest := []) 84 h (fun z e => t_Mo_part e) (q_xinvV (Y := m_Mo_part) d_Mo_reads_81 ml_Mo_116 ms_Mo_part.1 ms_Mo_part.2 k_Mo_part.1 (by decide) n_Mo_part (by decide) rfl rfl) k_Mo_part (q_ro (by decide) (by decide)) (Nat.le_of_ble_eq_true rfl) d_Mo_reads_81 rfl rfl rfl (fun x37 ex37 h => ?_)
    refine q_goto 290 d_Mo_reads_84 (by decide) ?_
    refine q_iinc (v := (v5 + 1)) (lv' := [(5, .int (v5 + 1)), (3, .int s0), (0, .ref 32), (1, .int v1), (2, .int v2), (4, .int v4), (6, .int v6)]) 293 d_Mo_reads_290 rfl 5 rfl (q_ai (by decide)) (by decide) rfl ?_
    refine q_goto 30 d_Mo_reads_293 (by decide) ?_
    refine q_sub (lv' := [(0, .ref 32), (1, .int v1), (2, .int v2), (3, .int s0), (4, .int v4), (5, .int (v5 + 1))]) [2, 3, 4, 1, 5, 0] rfl ?_
    exact hK30 _ _ _ _ _ _ h
set_option maxHeartbeats 4000000 in
set_option maxRecDepth 100000 in
theorem t_Mo_reads_L30 {E : q_E} {c d : Nat} {ρ : Int32 × q_W} {E30 : q_W → Int32 → Int32 → Option (Int32 × q_W)} (hE30 : ∀ x u3 u4, E30 x u3 u4 = some ρ → AW E (q_rm 2) m_Mo_reads (q_cells E c d x) 0 0 296 [(0, .ref 32), (3, .int u3), (4, .int u4)] [] (q_rS E c d ρ)) : ∀ (n : Nat) (x : q_W) (v1 : Int32) (v2 : Int32) (v3 : Int32) (v4 : Int32) (v5 : Int32), f_Mo_reads_L30 E30 n x v1 v2 v3 v4 v5 = some ρ → AW E (q_rm 2) m_Mo_reads (q_cells E c d x) 0 0 30 [(0, .ref 32), (1, .int v1), (2, .int v2), (3, .int v3), (4, .int v4), (5, .int v5)] [] (q_rS E c d ρ) := by
  intro n
  induction n with
  | zero =>
    intro x v1 v2 v3 v4 v5 h
    have h : (none : Option (Int32 × q_W)) = some ρ := h
    cases h
  | succ n ih =>
    intro x v1 v2 v3 v4 v5 h
    unfold f_Mo_reads_L30 at h
    refine q_iload 32 d_Mo_reads_30 rfl 5 rfl ?_
    refine q_iloadn 33 d_Mo_reads_32 rfl 1 rfl ?_
    refine q_ite h (fun c21 h => ?_) (fun c21 h => ?_)
    · refine q_icmp_ge_t 296 d_Mo_reads_33 (by decide) c21 ?_
      refine q_sub (lv' := [(0, .ref 32), (3, .int v3), (4, .int v4)]) [0, 3, 4] rfl ?_
      exact hE30 _ _ _ h
    · refine q_icmp_ge_f 36 d_Mo_reads_33 rfl 296 (by decide) c21 ?_
      refine q_iload 38 d_Mo_reads_36 rfl 4 rfl ?_
      refine q_ite h (fun c20 h => ?_) (fun c20 h => ?_)
      · refine q_if_eq_t 296 d_Mo_reads_38 (by decide) c20 ?_
        refine q_sub (lv' := [(0, .ref 32), (3, .int v3), (4, .int v4)]) [0, 3, 4] rfl ?_
        exact hE30 _ _ _ h
      · refine q_if_eq_f 41 d_Mo_reads_38 rfl 296 (by decide) c20 ?_
        refine q_aloadn 42 d_Mo_reads_41 rfl 0 rfl ?_
        refine q_xget 45 d_Mo_reads_42 rfl fl_Mo_7 (by decide) rfl rfl ?_
        refine q_iload 47 d_Mo_reads_45 rfl 5 rfl ?_
        refine q_xiald 48 d_Mo_reads_47 rfl (by decide) (fun _ => rfl) h (fun w11 ew11 h => ?_)
        refine q_istore (lv' := [(6, .int w11), (0, .ref 32), (1, .int v1), (2, .int v2), (3, .int v3), (4, .int v4), (5, .int v5)]) 50 d_Mo_reads_48 rfl (by decide) rfl ?_
        refine q_iloadn 51 d_Mo_reads_50 rfl 4 rfl ?_
        refine q_ite h (fun c19 h => ?_) (fun c19 h => ?_)
        · refine q_if_ne_t 169 d_Mo_reads_51 (by decide) c19 ?_
          refine q_iload 171 d_Mo_reads_169 rfl 0 rfl ?_
          refine q_bipush (v := 41) 173 d_Mo_reads_171 rfl (by decide) ?_
          refine q_ite h (fun c16 h => ?_) (fun c16 h => ?_)
          · refine q_icmp_ne_t 220 d_Mo_reads_173 (by decide) c16 ?_
            refine q_iload 222 d_Mo_reads_220 rfl 0 rfl ?_
            refine q_xcallP (as := [.int w11]) (rest := []) 225 h (fun z e => t_Mo_signOf e) (q_invS (Y := m_Mo_signOf) d_Mo_reads_222 ml_Mo_140 ms_Mo_signOf k_Mo_signOf.2 k_Mo_signOf.1 (by decide) n_Mo_signOf) k_Mo_signOf (q_ro (by decide) (by decide)) (Nat.le_of_ble_eq_true rfl) d_Mo_reads_222 rfl rfl rfl (fun w12 ew12 h => ?_)
            refine q_istore (lv' := [(7, .int w12), (6, .int w11), (0, .ref 32), (1, .int v1), (2, .int v2), (3, .int v3), (4, .int v4), (5, .int v5)]) 227 d_Mo_reads_225 rfl (by decide) rfl ?_
            refine q_iload 229 d_Mo_reads_227 rfl 0 rfl ?_
            refine q_ite h (fun c13 h => ?_) (fun c13 h => ?_)
            · refine q_if_lt_t 236 d_Mo_reads_229 (by decide) c13 ?_
              refine q_iconst (v := 0) 237 d_Mo_reads_236 rfl (by decide) ?_
              refine q_sub (lv' := [(0, .ref 32), (1, .int v1), (2, .int v2), (5, .int v5), (7, .int w12)]) [2, 3, 4, 7, 0] rfl ?_
              exact t_Mo_reads_J237 ih hE30 _ _ _ _ _ _ h
            · refine q_if_lt_f 232 d_Mo_reads_229 rfl 236 (by decide) c13 ?_
              refine q_iconst (v := 1) 233 d_Mo_reads_232 rfl (by decide) ?_
              refine q_goto 237 d_Mo_reads_233 (by decide) ?_
              refine q_sub (lv' := [(0, .ref 32), (1, .int v1), (2, .int v2), (5, .int v5), (7, .int w12)]) [2, 3, 4, 7, 0] rfl ?_
              exact t_Mo_reads_J237 ih hE30 _ _ _ _ _ _ h
          · refine q_icmp_ne_f 176 d_Mo_reads_173 rfl 220 (by decide) (Classical.not_not.mp c16) ?_
            refine q_aloadn 177 d_Mo_reads_176 rfl 1 rfl ?_
            refine q_iconst (v := 1) 178 d_Mo_reads_177 rfl (by decide) ?_
            refine q_xcallV (as := [.ref 32, .int 1]) (rest := []) 181 h (fun z e => t_Mo_settle e) (q_xinvV (Y := m_Mo_settle) d_Mo_reads_178 ml_Mo_137 ms_Mo_settle.1 ms_Mo_settle.2 k_Mo_settle.1 (by decide) n_Mo_settle (by decide) rfl rfl) k_Mo_settle (q_ro (by decide) (by decide)) (Nat.le_of_ble_eq_true rfl) d_Mo_reads_178 rfl rfl rfl (fun x14 ex14 h => ?_)
            refine q_aloadn 182 d_Mo_reads_181 rfl 1 rfl ?_
            refine q_xget 185 d_Mo_reads_182 rfl fl_Mo_105 (by decide) rfl rfl ?_
            refine q_ite h (fun c15 h => ?_) (fun c15 h => ?_)
            · refine q_if_le_t 192 d_Mo_reads_185 (by decide) c15 ?_
              refine q_iconst (v := 0) 193 d_Mo_reads_192 rfl (by decide) ?_
              refine q_sub (lv' := [(0, .ref 32), (1, .int v1), (2, .int v2), (3, .int v3), (5, .int v5)]) [1, 2, 3, 4, 6] rfl ?_
              exact t_Mo_reads_J193 ih hE30 _ _ _ _ _ _ h
            · refine q_if_le_f 188 d_Mo_reads_185 rfl 192 (by decide) c15 ?_
              refine q_iconst (v := 1) 189 d_Mo_reads_188 rfl (by decide) ?_
              refine q_goto 193 d_Mo_reads_189 (by decide) ?_
              refine q_sub (lv' := [(0, .ref 32), (1, .int v1), (2, .int v2), (3, .int v3), (5, .int v5)]) [1, 2, 3, 4, 6] rfl ?_
              exact t_Mo_reads_J193 ih hE30 _ _ _ _ _ _ h
        · refine q_if_ne_f 54 d_Mo_reads_51 rfl 169 (by decide) (Classical.not_not.mp c19) ?_
          refine q_iload 56 d_Mo_reads_54 rfl 0 rfl ?_
          refine q_xcallP (as := [.int w11]) (rest := []) 59 h (fun z e => t_Mo_leafOf e) (q_invS (Y := m_Mo_leafOf) d_Mo_reads_56 ml_Mo_127 ms_Mo_leafOf k_Mo_leafOf.2 k_Mo_leafOf.1 (by decide) n_Mo_leafOf) k_Mo_leafOf (q_ro (by decide) (by decide)) (Nat.le_of_ble_eq_true rfl) d_Mo_reads_56 rfl rfl rfl (fun w17 ew17 h => ?_)
          refine q_ite h (fun c18 h => ?_) (fun c18 h => ?_)
          · refine q_if_lt_t 66 d_Mo_reads_59 (by decide) c18 ?_
            refine q_iconst (v := 0) 67 d_Mo_reads_66 rfl (by decide) ?_
            refine q_sub (lv' := [(0, .ref 32), (1, .int v1), (2, .int v2), (4, .int v4), (5, .int v5), (6, .int w11)]) [1, 2, 3, 5, 6, 0] rfl ?_
            exact t_Mo_reads_J67 ih hE30 _ _ _ _ _ _ _ h
          · refine q_if_lt_f 62 d_Mo_reads_59 rfl 66 (by decide) c18 ?_
            refine q_iconst (v := 1) 63 d_Mo_reads_62 rfl (by decide) ?_
            refine q_goto 67 d_Mo_reads_63 (by decide) ?_
            refine q_sub (lv' := [(0, .ref 32), (1, .int v1), (2, .int v2), (4, .int v4), (5, .int v5), (6, .int w11)]) [1, 2, 3, 5, 6, 0] rfl ?_
            exact t_Mo_reads_J67 ih hE30 _ _ _ _ _ _ _ h
set_option maxHeartbeats 4000000 in
set_option maxRecDepth 100000 in
theorem t_Mo_reads {E : q_E} {c d : Nat} {x : q_W} {a1 : Int32} {ρ : Int32 × q_W} (h : f_Mo_reads x a1 = some ρ) : q_Ct E y_Mo_reads m_Mo_reads (q_rm 2) (q_cells E c d x) [.ref 32, .int a1] (q_rS E c d ρ) := by
  unfold f_Mo_reads at h
  refine q_Ct.of (lv := [(0, .ref 32), (1, .int a1)]) (by decide) ⟨rfl, rfl⟩ rfl (Nat.le_of_ble_eq_true rfl) ?_
  refine q_aloadn 1 d_Mo_reads_0 rfl 0 rfl ?_
  refine q_iconst (v := 0) 2 d_Mo_reads_1 rfl (by decide) ?_
  refine q_xput 5 d_Mo_reads_2 rfl fl_Mo_99 (by decide) rfl rfl rfl rfl (Nat.le_of_ble_eq_true rfl) (fun _ => rfl) h (fun x1 ex1 h => ?_)
  refine q_aloadn 6 d_Mo_reads_5 rfl 0 rfl ?_
  refine q_iconst (v := 0) 7 d_Mo_reads_6 rfl (by decide) ?_
  refine q_xput 10 d_Mo_reads_7 rfl fl_Mo_120 (by decide) rfl rfl rfl rfl (Nat.le_of_ble_eq_true rfl) (fun _ => rfl) h (fun x2 ex2 h => ?_)
  refine q_aloadn 11 d_Mo_reads_10 rfl 0 rfl ?_
  refine q_iconst (v := 0) 12 d_Mo_reads_11 rfl (by decide) ?_
  refine q_xput 15 d_Mo_reads_12 rfl fl_Mo_102 (by decide) rfl rfl rfl rfl (Nat.le_of_ble_eq_true rfl) (fun _ => rfl) h (fun x3 ex3 h => ?_)
  refine q_aloadn 16 d_Mo_reads_15 rfl 0 rfl ?_
  refine q_iconst (v := 0) 17 d_Mo_reads_16 rfl (by decide) ?_
  refine q_xput 20 d_Mo_reads_17 rfl fl_Mo_105 (by decide) rfl rfl rfl rfl (Nat.le_of_ble_eq_true rfl) (fun _ => rfl) h (fun x4 ex4 h => ?_)
  refine q_iconst (v := 0) 21 d_Mo_reads_20 rfl (by decide) ?_
  refine q_istoren (lv' := [(2, .int 0), (0, .ref 32), (1, .int a1)]) 22 d_Mo_reads_21 rfl (by decide) rfl ?_
  refine q_iconst (v := 0) 23 d_Mo_reads_22 rfl (by decide) ?_
  refine q_istoren (lv' := [(3, .int 0), (2, .int 0), (0, .ref 32), (1, .int a1)]) 24 d_Mo_reads_23 rfl (by decide) rfl ?_
  refine q_iconst (v := 1) 25 d_Mo_reads_24 rfl (by decide) ?_
  refine q_istore (lv' := [(4, .int 1), (3, .int 0), (2, .int 0), (0, .ref 32), (1, .int a1)]) 27 d_Mo_reads_25 rfl (by decide) rfl ?_
  refine q_iconst (v := 0) 28 d_Mo_reads_27 rfl (by decide) ?_
  refine q_istore (lv' := [(5, .int 0), (4, .int 1), (3, .int 0), (2, .int 0), (0, .ref 32), (1, .int a1)]) 30 d_Mo_reads_28 rfl (by decide) rfl ?_
  refine q_sub (lv' := [(0, .ref 32), (1, .int a1), (2, .int 0), (3, .int 0), (4, .int 1), (5, .int 0)]) [4, 5, 3, 2, 1, 0] rfl ?_
  refine t_Mo_reads_L30 (fun x5 u6 u7 h => ?_) q_fu _ _ _ _ _ _ h
  exact t_Mo_reads_J296  _ _ _ h
set_option maxHeartbeats 4000000 in
set_option maxRecDepth 100000 in
theorem t_Mo_count {E : q_E} {c d : Nat} {x : q_W} {ρ : Int32} (h : f_Mo_count x = some ρ) : q_Ct E y_Mo_count m_Mo_count (q_rm 0) (q_cells E c d x) [.ref 32] (q_rP E c d x ρ) := by
  unfold f_Mo_count at h
  refine q_Ct.of (lv := [(0, .ref 32)]) (by decide) ⟨rfl, rfl⟩ rfl (Nat.le_of_ble_eq_true rfl) ?_
  refine q_bipush (v := 8) 2 d_Mo_count_0 rfl (by decide) ?_
  refine q_aloadn 3 d_Mo_count_2 rfl 0 rfl ?_
  refine q_xget 6 d_Mo_count_3 rfl fl_Mo_153 (by decide) rfl rfl ?_
  refine q_ishl 7 d_Mo_count_6 rfl ?_
  cases h
  exact q_iret d_Mo_count_7 rfl (Nat.zero_le _) (Nat.zero_le _)
set_option maxHeartbeats 4000000 in
set_option maxRecDepth 100000 in
theorem t_Mo_leadsToOne {E : q_E} {c d : Nat} {x : q_W} {a1 : Int32} {ρ : Int32} (h : f_Mo_leadsToOne x a1 = some ρ) : q_Ct E y_Mo_leadsToOne m_Mo_leadsToOne (q_rm 0) (q_cells E c d x) [.ref 32, .int a1] (q_rP E c d x ρ) := by
  unfold f_Mo_leadsToOne at h
  refine q_Ct.of (lv := [(0, .ref 32), (1, .int a1)]) (by decide) ⟨rfl, rfl⟩ rfl (Nat.le_of_ble_eq_true rfl) ?_
  refine q_aloadn 1 d_Mo_leadsToOne_0 rfl 0 rfl ?_
  refine q_xget 4 d_Mo_leadsToOne_1 rfl fl_Mo_71 (by decide) rfl rfl ?_
  refine q_iloadn 5 d_Mo_leadsToOne_4 rfl 1 rfl ?_
  refine q_iconst (v := 3) 6 d_Mo_leadsToOne_5 rfl (by decide) ?_
  refine q_ishr 7 d_Mo_leadsToOne_6 rfl ?_
  refine q_xzald 8 d_Mo_leadsToOne_7 rfl (by decide) (fun _ => rfl) h (fun w1 ew1 h => ?_)
  cases h
  exact q_zret d_Mo_leadsToOne_8 rfl (Nat.zero_le _) (Nat.zero_le _)
set_option maxHeartbeats 4000000 in
set_option maxRecDepth 100000 in
theorem t_Mo_noteSome_J64 {E : q_E} {c d : Nat} {ρ : q_W} {K23 : q_W → Int32 → Option q_W} (hK23 : ∀ x v1, K23 x v1 = some ρ → AW E (q_rm 1) m_Mo_noteSome (q_cells E c d x) 0 0 23 [(0, .ref 32), (1, .int v1)] [] (q_rV E c d ρ)) : ∀ (x : q_W) (v1 : Int32) (s0 : Int32), f_Mo_noteSome_J64 K23 x v1 s0 = some ρ → AW E (q_rm 1) m_Mo_noteSome (q_cells E c d x) 0 0 64 [(0, .ref 32), (1, .int v1)] [.int s0, .ref 53] (q_rV E c d ρ) := by
  intro x v1 s0 h
  unfold f_Mo_noteSome_J64 at h
  refine q_iconst (v := 1) 65 d_Mo_noteSome_64 rfl (by decide) ?_
  refine q_goto 69 d_Mo_noteSome_65 (by decide) ?_
  refine q_xzast 70 d_Mo_noteSome_69 rfl (by decide) (fun _ => rfl) h (fun x12 ex12 h => ?_)
  refine q_iinc (v := (v1 + 1)) (lv' := [(1, .int (v1 + 1)), (0, .ref 32)]) 73 d_Mo_noteSome_70 rfl 1 rfl (q_ai (by decide)) (by decide) rfl ?_
  refine q_goto 23 d_Mo_noteSome_73 (by decide) ?_
  refine q_sub (lv' := [(0, .ref 32), (1, .int (v1 + 1))]) [1, 0] rfl ?_
  exact hK23 _ _ h
set_option maxHeartbeats 4000000 in
set_option maxRecDepth 100000 in
theorem t_Mo_noteSome_L23 {E : q_E} {c d : Nat} {ρ : q_W} : ∀ (n : Nat) (x : q_W) (v1 : Int32), f_Mo_noteSome_L23  n x v1 = some ρ → AW E (q_rm 1) m_Mo_noteSome (q_cells E c d x) 0 0 23 [(0, .ref 32), (1, .int v1)] [] (q_rV E c d ρ) := by
  intro n
  induction n with
  | zero =>
    intro x v1 h
    have h : (none : Option q_W) = some ρ := h
    cases h
  | succ n ih =>
    intro x v1 h
    unfold f_Mo_noteSome_L23 at h
    refine q_iloadn 24 d_Mo_noteSome_23 rfl 1 rfl ?_
    refine q_aloadn 25 d_Mo_noteSome_24 rfl 0 rfl ?_
    refine q_xcallP (as := [.ref 32]) (rest := [.int v1]) 28 h (fun z e => t_Mo_count e) (q_xinvV (Y := m_Mo_count) d_Mo_noteSome_25 ml_Mo_159 ms_Mo_count.1 ms_Mo_count.2 k_Mo_count.1 (by decide) n_Mo_count (by decide) rfl rfl) k_Mo_count (q_ro (by decide) (by decide)) (Nat.le_of_ble_eq_true rfl) d_Mo_noteSome_25 rfl rfl rfl (fun w3 ew3 h => ?_)
    refine q_ite h (fun c11 h => ?_) (fun c11 h => ?_)
    · refine q_icmp_ge_t 76 d_Mo_noteSome_28 (by decide) c11 ?_
      cases h
      exact q_vret d_Mo_noteSome_76 rfl (Nat.zero_le _) (Nat.zero_le _)
    · refine q_icmp_ge_f 31 d_Mo_noteSome_28 rfl 76 (by decide) c11 ?_
      refine q_aloadn 32 d_Mo_noteSome_31 rfl 0 rfl ?_
      refine q_xget 35 d_Mo_noteSome_32 rfl fl_Mo_71 (by decide) rfl rfl ?_
      refine q_aloadn 36 d_Mo_noteSome_35 rfl 0 rfl ?_
      refine q_xget 39 d_Mo_noteSome_36 rfl fl_Mo_49 (by decide) rfl rfl ?_
      refine q_iloadn 40 d_Mo_noteSome_39 rfl 1 rfl ?_
      refine q_xiald 41 d_Mo_noteSome_40 rfl (by decide) (fun _ => rfl) h (fun w4 ew4 h => ?_)
      refine q_aloadn 42 d_Mo_noteSome_41 rfl 0 rfl ?_
      refine q_xget 45 d_Mo_noteSome_42 rfl fl_Mo_71 (by decide) rfl rfl ?_
      refine q_aloadn 46 d_Mo_noteSome_45 rfl 0 rfl ?_
      refine q_xget 49 d_Mo_noteSome_46 rfl fl_Mo_49 (by decide) rfl rfl ?_
      refine q_iloadn 50 d_Mo_noteSome_49 rfl 1 rfl ?_
      refine q_xiald 51 d_Mo_noteSome_50 rfl (by decide) (fun _ => rfl) h (fun w5 ew5 h => ?_)
      refine q_xzald 52 d_Mo_noteSome_51 rfl (by decide) (fun _ => rfl) h (fun w6 ew6 h => ?_)
      refine q_ite h (fun c10 h => ?_) (fun c10 h => ?_)
      · refine q_if_ne_t 64 d_Mo_noteSome_52 (by decide) c10 ?_
        exact t_Mo_noteSome_J64 ih _ _ _ h
      · refine q_if_ne_f 55 d_Mo_noteSome_52 rfl 64 (by decide) (Classical.not_not.mp c10) ?_
        refine q_aloadn 56 d_Mo_noteSome_55 rfl 0 rfl ?_
        refine q_xget 59 d_Mo_noteSome_56 rfl fl_Mo_68 (by decide) rfl rfl ?_
        refine q_iloadn 60 d_Mo_noteSome_59 rfl 1 rfl ?_
        refine q_xzald 61 d_Mo_noteSome_60 rfl (by decide) (fun _ => rfl) h (fun w7 ew7 h => ?_)
        refine q_ite h (fun c9 h => ?_) (fun c9 h => ?_)
        · refine q_if_eq_t 68 d_Mo_noteSome_61 (by decide) c9 ?_
          refine q_iconst (v := 0) 69 d_Mo_noteSome_68 rfl (by decide) ?_
          refine q_xzast 70 d_Mo_noteSome_69 rfl (by decide) (fun _ => rfl) h (fun x8 ex8 h => ?_)
          refine q_iinc (v := (v1 + 1)) (lv' := [(1, .int (v1 + 1)), (0, .ref 32)]) 73 d_Mo_noteSome_70 rfl 1 rfl (q_ai (by decide)) (by decide) rfl ?_
          refine q_goto 23 d_Mo_noteSome_73 (by decide) ?_
          refine q_sub (lv' := [(0, .ref 32), (1, .int (v1 + 1))]) [1, 0] rfl ?_
          exact ih _ _ h
        · refine q_if_eq_f 64 d_Mo_noteSome_61 rfl 68 (by decide) c9 ?_
          exact t_Mo_noteSome_J64 ih _ _ _ h
set_option maxHeartbeats 4000000 in
set_option maxRecDepth 100000 in
theorem t_Mo_noteSome_L2 {E : q_E} {c d : Nat} {ρ : q_W} : ∀ (n : Nat) (x : q_W) (v1 : Int32), f_Mo_noteSome_L2  n x v1 = some ρ → AW E (q_rm 1) m_Mo_noteSome (q_cells E c d x) 0 0 2 [(0, .ref 32), (1, .int v1)] [] (q_rV E c d ρ) := by
  intro n
  induction n with
  | zero =>
    intro x v1 h
    have h : (none : Option q_W) = some ρ := h
    cases h
  | succ n ih =>
    intro x v1 h
    unfold f_Mo_noteSome_L2 at h
    refine q_iloadn 3 d_Mo_noteSome_2 rfl 1 rfl ?_
    refine q_bipush (v := 32) 5 d_Mo_noteSome_3 rfl (by decide) ?_
    refine q_ite h (fun c2 h => ?_) (fun c2 h => ?_)
    · refine q_icmp_ge_t 21 d_Mo_noteSome_5 (by decide) c2 ?_
      refine q_iconst (v := 0) 22 d_Mo_noteSome_21 rfl (by decide) ?_
      refine q_istoren (lv' := [(1, .int 0), (0, .ref 32)]) 23 d_Mo_noteSome_22 rfl (by decide) rfl ?_
      refine q_sub (lv' := [(0, .ref 32), (1, .int 0)]) [1, 0] rfl ?_
      exact t_Mo_noteSome_L23  q_fu _ _ h
    · refine q_icmp_ge_f 8 d_Mo_noteSome_5 rfl 21 (by decide) c2 ?_
      refine q_aloadn 9 d_Mo_noteSome_8 rfl 0 rfl ?_
      refine q_xget 12 d_Mo_noteSome_9 rfl fl_Mo_71 (by decide) rfl rfl ?_
      refine q_iloadn 13 d_Mo_noteSome_12 rfl 1 rfl ?_
      refine q_iconst (v := 0) 14 d_Mo_noteSome_13 rfl (by decide) ?_
      refine q_xzast 15 d_Mo_noteSome_14 rfl (by decide) (fun _ => rfl) h (fun x1 ex1 h => ?_)
      refine q_iinc (v := (v1 + 1)) (lv' := [(1, .int (v1 + 1)), (0, .ref 32)]) 18 d_Mo_noteSome_15 rfl 1 rfl (q_ai (by decide)) (by decide) rfl ?_
      refine q_goto 2 d_Mo_noteSome_18 (by decide) ?_
      refine q_sub (lv' := [(0, .ref 32), (1, .int (v1 + 1))]) [1, 0] rfl ?_
      exact ih _ _ h
set_option maxHeartbeats 4000000 in
set_option maxRecDepth 100000 in
theorem t_Mo_noteSome {E : q_E} {c d : Nat} {x : q_W} {ρ : q_W} (h : f_Mo_noteSome x = some ρ) : q_Ct E y_Mo_noteSome m_Mo_noteSome (q_rm 1) (q_cells E c d x) [.ref 32] (q_rV E c d ρ) := by
  unfold f_Mo_noteSome at h
  refine q_Ct.of (lv := [(0, .ref 32)]) (by decide) ⟨rfl, rfl⟩ rfl (Nat.le_of_ble_eq_true rfl) ?_
  refine q_iconst (v := 0) 1 d_Mo_noteSome_0 rfl (by decide) ?_
  refine q_istoren (lv' := [(1, .int 0), (0, .ref 32)]) 2 d_Mo_noteSome_1 rfl (by decide) rfl ?_
  refine q_sub (lv' := [(0, .ref 32), (1, .int 0)]) [1, 0] rfl ?_
  exact t_Mo_noteSome_L2  q_fu _ _ h
set_option maxHeartbeats 4000000 in
set_option maxRecDepth 100000 in
theorem t_Mo_countSteps_L120 {E : q_E} {c d : Nat} {ρ : q_W} {K60 : q_W → Int32 → Int32 → Int32 → Option q_W} (hK60 : ∀ x v1 v2 v3, K60 x v1 v2 v3 = some ρ → AW E (q_rm 2) m_Mo_countSteps (q_cells E c d x) 0 0 60 [(0, .ref 32), (1, .int v1), (2, .int v2), (3, .int v3)] [] (q_rV E c d ρ)) : ∀ (n : Nat) (x : q_W) (v1 : Int32) (v2 : Int32) (v3 : Int32) (v4 : Int32), f_Mo_countSteps_L120 K60 n x v1 v2 v3 v4 = some ρ → AW E (q_rm 2) m_Mo_countSteps (q_cells E c d x) 0 0 120 [(0, .ref 32), (1, .int v1), (2, .int v2), (3, .int v3), (4, .int v4)] [] (q_rV E c d ρ) := by
  intro n
  induction n with
  | zero =>
    intro x v1 v2 v3 v4 h
    have h : (none : Option q_W) = some ρ := h
    cases h
  | succ n ih =>
    intro x v1 v2 v3 v4 h
    unfold f_Mo_countSteps_L120 at h
    refine q_iload 122 d_Mo_countSteps_120 rfl 4 rfl ?_
    refine q_aloadn 123 d_Mo_countSteps_122 rfl 0 rfl ?_
    refine q_xcallP (as := [.ref 32]) (rest := [.int v4]) 126 h (fun z e => t_Mo_count e) (q_xinvV (Y := m_Mo_count) d_Mo_countSteps_123 ml_Mo_159 ms_Mo_count.1 ms_Mo_count.2 k_Mo_count.1 (by decide) n_Mo_count (by decide) rfl rfl) k_Mo_count (q_ro (by decide) (by decide)) (Nat.le_of_ble_eq_true rfl) d_Mo_countSteps_123 rfl rfl rfl (fun w16 ew16 h => ?_)
    refine q_ite h (fun c24 h => ?_) (fun c24 h => ?_)
    · refine q_icmp_ge_t 188 d_Mo_countSteps_126 (by decide) c24 ?_
      refine q_iinc (v := (v3 + 1)) (lv' := [(3, .int (v3 + 1)), (0, .ref 32), (1, .int v1), (2, .int v2), (4, .int v4)]) 191 d_Mo_countSteps_188 rfl 3 rfl (q_ai (by decide)) (by decide) rfl ?_
      refine q_goto 60 d_Mo_countSteps_191 (by decide) ?_
      refine q_sub (lv' := [(0, .ref 32), (1, .int v1), (2, .int v2), (3, .int (v3 + 1))]) [1, 2, 3, 0] rfl ?_
      exact hK60 _ _ _ _ h
    · refine q_icmp_ge_f 129 d_Mo_countSteps_126 rfl 188 (by decide) c24 ?_
      refine q_aloadn 130 d_Mo_countSteps_129 rfl 0 rfl ?_
      refine q_xget 133 d_Mo_countSteps_130 rfl fl_Mo_65 (by decide) rfl rfl ?_
      refine q_iload 135 d_Mo_countSteps_133 rfl 4 rfl ?_
      refine q_xzald 136 d_Mo_countSteps_135 rfl (by decide) (fun _ => rfl) h (fun w17 ew17 h => ?_)
      refine q_ite h (fun c23 h => ?_) (fun c23 h => ?_)
      · refine q_if_eq_t 182 d_Mo_countSteps_136 (by decide) c23 ?_
        refine q_iinc (v := (v4 + 1)) (lv' := [(4, .int (v4 + 1)), (0, .ref 32), (1, .int v1), (2, .int v2), (3, .int v3)]) 185 d_Mo_countSteps_182 rfl 4 rfl (q_ai (by decide)) (by decide) rfl ?_
        refine q_goto 120 d_Mo_countSteps_185 (by decide) ?_
        refine q_sub (lv' := [(0, .ref 32), (1, .int v1), (2, .int v2), (3, .int v3), (4, .int (v4 + 1))]) [1, 2, 3, 4, 0] rfl ?_
        exact ih _ _ _ _ _ h
      · refine q_if_eq_f 139 d_Mo_countSteps_136 rfl 182 (by decide) c23 ?_
        refine q_aloadn 140 d_Mo_countSteps_139 rfl 0 rfl ?_
        refine q_xget 143 d_Mo_countSteps_140 rfl fl_Mo_74 (by decide) rfl rfl ?_
        refine q_sipush (v := 256) 146 d_Mo_countSteps_143 rfl (by decide) ?_
        refine q_iloadn 147 d_Mo_countSteps_146 rfl 1 rfl ?_
        refine q_imul 148 d_Mo_countSteps_147 rfl ?_
        refine q_iload 150 d_Mo_countSteps_148 rfl 4 rfl ?_
        refine q_iadd 151 d_Mo_countSteps_150 rfl ?_
        refine q_xiald 152 d_Mo_countSteps_151 rfl (by decide) (fun _ => rfl) h (fun w18 ew18 h => ?_)
        refine q_ite h (fun c22 h => ?_) (fun c22 h => ?_)
        · refine q_if_ge_t 182 d_Mo_countSteps_152 (by decide) c22 ?_
          refine q_iinc (v := (v4 + 1)) (lv' := [(4, .int (v4 + 1)), (0, .ref 32), (1, .int v1), (2, .int v2), (3, .int v3)]) 185 d_Mo_countSteps_182 rfl 4 rfl (q_ai (by decide)) (by decide) rfl ?_
          refine q_goto 120 d_Mo_countSteps_185 (by decide) ?_
          refine q_sub (lv' := [(0, .ref 32), (1, .int v1), (2, .int v2), (3, .int v3), (4, .int (v4 + 1))]) [1, 2, 3, 4, 0] rfl ?_
          exact ih _ _ _ _ _ h
        · refine q_if_ge_f 155 d_Mo_countSteps_152 rfl 182 (by decide) c22 ?_
          refine q_aloadn 156 d_Mo_countSteps_155 rfl 0 rfl ?_
          refine q_iload 158 d_Mo_countSteps_156 rfl 4 rfl ?_
          refine q_xcallP (as := [.ref 32, .int v4]) (rest := []) 161 h (fun z e => t_Mo_leadsToOne e) (q_xinvV (Y := m_Mo_leadsToOne) d_Mo_countSteps_158 ml_Mo_178 ms_Mo_leadsToOne.1 ms_Mo_leadsToOne.2 k_Mo_leadsToOne.1 (by decide) n_Mo_leadsToOne (by decide) rfl rfl) k_Mo_leadsToOne (q_ro (by decide) (by decide)) (Nat.le_of_ble_eq_true rfl) d_Mo_countSteps_158 rfl rfl rfl (fun w19 ew19 h => ?_)
          refine q_ite h (fun c21 h => ?_) (fun c21 h => ?_)
          · refine q_if_eq_t 182 d_Mo_countSteps_161 (by decide) c21 ?_
            refine q_iinc (v := (v4 + 1)) (lv' := [(4, .int (v4 + 1)), (0, .ref 32), (1, .int v1), (2, .int v2), (3, .int v3)]) 185 d_Mo_countSteps_182 rfl 4 rfl (q_ai (by decide)) (by decide) rfl ?_
            refine q_goto 120 d_Mo_countSteps_185 (by decide) ?_
            refine q_sub (lv' := [(0, .ref 32), (1, .int v1), (2, .int v2), (3, .int v3), (4, .int (v4 + 1))]) [1, 2, 3, 4, 0] rfl ?_
            exact ih _ _ _ _ _ h
          · refine q_if_eq_f 164 d_Mo_countSteps_161 rfl 182 (by decide) c21 ?_
            refine q_aloadn 165 d_Mo_countSteps_164 rfl 0 rfl ?_
            refine q_xget 168 d_Mo_countSteps_165 rfl fl_Mo_74 (by decide) rfl rfl ?_
            refine q_sipush (v := 256) 171 d_Mo_countSteps_168 rfl (by decide) ?_
            refine q_iloadn 172 d_Mo_countSteps_171 rfl 1 rfl ?_
            refine q_imul 173 d_Mo_countSteps_172 rfl ?_
            refine q_iload 175 d_Mo_countSteps_173 rfl 4 rfl ?_
            refine q_iadd 176 d_Mo_countSteps_175 rfl ?_
            refine q_iloadn 177 d_Mo_countSteps_176 rfl 3 rfl ?_
            refine q_iconst (v := 1) 178 d_Mo_countSteps_177 rfl (by decide) ?_
            refine q_iadd 179 d_Mo_countSteps_178 rfl ?_
            refine q_xiast 180 d_Mo_countSteps_179 rfl (by decide) (fun _ => rfl) h (fun x20 ex20 h => ?_)
            refine q_iconst (v := 1) 181 d_Mo_countSteps_180 rfl (by decide) ?_
            refine q_istoren (lv' := [(2, .int 1), (0, .ref 32), (1, .int v1), (3, .int v3), (4, .int v4)]) 182 d_Mo_countSteps_181 rfl (by decide) rfl ?_
            refine q_iinc (v := (v4 + 1)) (lv' := [(4, .int (v4 + 1)), (2, .int 1), (0, .ref 32), (1, .int v1), (3, .int v3)]) 185 d_Mo_countSteps_182 rfl 4 rfl (q_ai (by decide)) (by decide) rfl ?_
            refine q_goto 120 d_Mo_countSteps_185 (by decide) ?_
            refine q_sub (lv' := [(0, .ref 32), (1, .int v1), (2, .int 1), (3, .int v3), (4, .int (v4 + 1))]) [2, 3, 1, 4, 0] rfl ?_
            exact ih _ _ _ _ _ h
set_option maxHeartbeats 4000000 in
set_option maxRecDepth 100000 in
theorem t_Mo_countSteps_L69 {E : q_E} {c d : Nat} {ρ : q_W} {K60 : q_W → Int32 → Int32 → Int32 → Option q_W} {E69 : q_W → Int32 → Int32 → Int32 → Option q_W} (hK60 : ∀ x v1 v2 v3, K60 x v1 v2 v3 = some ρ → AW E (q_rm 2) m_Mo_countSteps (q_cells E c d x) 0 0 60 [(0, .ref 32), (1, .int v1), (2, .int v2), (3, .int v3)] [] (q_rV E c d ρ)) (hE69 : ∀ x u1 u2 u3, E69 x u1 u2 u3 = some ρ → AW E (q_rm 2) m_Mo_countSteps (q_cells E c d x) 0 0 113 [(0, .ref 32), (1, .int u1), (2, .int u2), (3, .int u3)] [] (q_rV E c d ρ)) : ∀ (n : Nat) (x : q_W) (v1 : Int32) (v2 : Int32) (v3 : Int32) (v4 : Int32), f_Mo_countSteps_L69 K60 E69 n x v1 v2 v3 v4 = some ρ → AW E (q_rm 2) m_Mo_countSteps (q_cells E c d x) 0 0 69 [(0, .ref 32), (1, .int v1), (2, .int v2), (3, .int v3), (4, .int v4)] [] (q_rV E c d ρ) := by
  intro n
  induction n with
  | zero =>
    intro x v1 v2 v3 v4 h
    have h : (none : Option q_W) = some ρ := h
    cases h
  | succ n ih =>
    intro x v1 v2 v3 v4 h
    unfold f_Mo_countSteps_L69 at h
    refine q_iload 71 d_Mo_countSteps_69 rfl 4 rfl ?_
    refine q_aloadn 72 d_Mo_countSteps_71 rfl 0 rfl ?_
    refine q_xcallP (as := [.ref 32]) (rest := [.int v4]) 75 h (fun z e => t_Mo_count e) (q_xinvV (Y := m_Mo_count) d_Mo_countSteps_72 ml_Mo_159 ms_Mo_count.1 ms_Mo_count.2 k_Mo_count.1 (by decide) n_Mo_count (by decide) rfl rfl) k_Mo_count (q_ro (by decide) (by decide)) (Nat.le_of_ble_eq_true rfl) d_Mo_countSteps_72 rfl rfl rfl (fun w25 ew25 h => ?_)
    refine q_ite h (fun c30 h => ?_) (fun c30 h => ?_)
    · refine q_icmp_ge_t 113 d_Mo_countSteps_75 (by decide) c30 ?_
      refine q_sub (lv' := [(0, .ref 32), (1, .int v1), (2, .int v2), (3, .int v3)]) [0, 1, 2, 3] rfl ?_
      exact hE69 _ _ _ _ h
    · refine q_icmp_ge_f 78 d_Mo_countSteps_75 rfl 113 (by decide) c30 ?_
      refine q_aloadn 79 d_Mo_countSteps_78 rfl 0 rfl ?_
      refine q_xget 82 d_Mo_countSteps_79 rfl fl_Mo_68 (by decide) rfl rfl ?_
      refine q_iload 84 d_Mo_countSteps_82 rfl 4 rfl ?_
      refine q_aloadn 85 d_Mo_countSteps_84 rfl 0 rfl ?_
      refine q_xget 88 d_Mo_countSteps_85 rfl fl_Mo_74 (by decide) rfl rfl ?_
      refine q_sipush (v := 256) 91 d_Mo_countSteps_88 rfl (by decide) ?_
      refine q_iloadn 92 d_Mo_countSteps_91 rfl 1 rfl ?_
      refine q_imul 93 d_Mo_countSteps_92 rfl ?_
      refine q_iload 95 d_Mo_countSteps_93 rfl 4 rfl ?_
      refine q_iadd 96 d_Mo_countSteps_95 rfl ?_
      refine q_xiald 97 d_Mo_countSteps_96 rfl (by decide) (fun _ => rfl) h (fun w26 ew26 h => ?_)
      refine q_iloadn 98 d_Mo_countSteps_97 rfl 3 rfl ?_
      refine q_ite h (fun c29 h => ?_) (fun c29 h => ?_)
      · refine q_icmp_ne_t 105 d_Mo_countSteps_98 (by decide) c29 ?_
        refine q_iconst (v := 0) 106 d_Mo_countSteps_105 rfl (by decide) ?_
        refine q_xzast 107 d_Mo_countSteps_106 rfl (by decide) (fun _ => rfl) h (fun x27 ex27 h => ?_)
        refine q_iinc (v := (v4 + 1)) (lv' := [(4, .int (v4 + 1)), (0, .ref 32), (1, .int v1), (2, .int v2), (3, .int v3)]) 110 d_Mo_countSteps_107 rfl 4 rfl (q_ai (by decide)) (by decide) rfl ?_
        refine q_goto 69 d_Mo_countSteps_110 (by decide) ?_
        refine q_sub (lv' := [(0, .ref 32), (1, .int v1), (2, .int v2), (3, .int v3), (4, .int (v4 + 1))]) [1, 2, 3, 4, 0] rfl ?_
        exact ih _ _ _ _ _ h
      · refine q_icmp_ne_f 101 d_Mo_countSteps_98 rfl 105 (by decide) (Classical.not_not.mp c29) ?_
        refine q_iconst (v := 1) 102 d_Mo_countSteps_101 rfl (by decide) ?_
        refine q_goto 106 d_Mo_countSteps_102 (by decide) ?_
        refine q_xzast 107 d_Mo_countSteps_106 rfl (by decide) (fun _ => rfl) h (fun x28 ex28 h => ?_)
        refine q_iinc (v := (v4 + 1)) (lv' := [(4, .int (v4 + 1)), (0, .ref 32), (1, .int v1), (2, .int v2), (3, .int v3)]) 110 d_Mo_countSteps_107 rfl 4 rfl (q_ai (by decide)) (by decide) rfl ?_
        refine q_goto 69 d_Mo_countSteps_110 (by decide) ?_
        refine q_sub (lv' := [(0, .ref 32), (1, .int v1), (2, .int v2), (3, .int v3), (4, .int (v4 + 1))]) [1, 2, 3, 4, 0] rfl ?_
        exact ih _ _ _ _ _ h
set_option maxHeartbeats 4000000 in
set_option maxRecDepth 100000 in
theorem t_Mo_countSteps_L60 {E : q_E} {c d : Nat} {ρ : q_W} : ∀ (n : Nat) (x : q_W) (v1 : Int32) (v2 : Int32) (v3 : Int32), f_Mo_countSteps_L60  n x v1 v2 v3 = some ρ → AW E (q_rm 2) m_Mo_countSteps (q_cells E c d x) 0 0 60 [(0, .ref 32), (1, .int v1), (2, .int v2), (3, .int v3)] [] (q_rV E c d ρ) := by
  intro n
  induction n with
  | zero =>
    intro x v1 v2 v3 h
    have h : (none : Option q_W) = some ρ := h
    cases h
  | succ n ih =>
    intro x v1 v2 v3 h
    unfold f_Mo_countSteps_L60 at h
    refine q_iloadn 61 d_Mo_countSteps_60 rfl 2 rfl ?_
    refine q_ite h (fun c15 h => ?_) (fun c15 h => ?_)
    · refine q_if_eq_t 194 d_Mo_countSteps_61 (by decide) c15 ?_
      cases h
      exact q_vret d_Mo_countSteps_194 rfl (Nat.zero_le _) (Nat.zero_le _)
    · refine q_if_eq_f 64 d_Mo_countSteps_61 rfl 194 (by decide) c15 ?_
      refine q_iconst (v := 0) 65 d_Mo_countSteps_64 rfl (by decide) ?_
      refine q_istoren (lv' := [(2, .int 0), (0, .ref 32), (1, .int v1), (3, .int v3)]) 66 d_Mo_countSteps_65 rfl (by decide) rfl ?_
      refine q_iconst (v := 0) 67 d_Mo_countSteps_66 rfl (by decide) ?_
      refine q_istore (lv' := [(4, .int 0), (2, .int 0), (0, .ref 32), (1, .int v1), (3, .int v3)]) 69 d_Mo_countSteps_67 rfl (by decide) rfl ?_
      refine q_sub (lv' := [(0, .ref 32), (1, .int v1), (2, .int 0), (3, .int v3), (4, .int 0)]) [2, 3, 1, 4, 0] rfl ?_
      refine t_Mo_countSteps_L69 ih (fun x10 u11 u12 u13 h => ?_) q_fu _ _ _ _ _ h
      refine q_aloadn 114 d_Mo_countSteps_113 rfl 0 rfl ?_
      refine q_xcallV (as := [.ref 32]) (rest := []) 117 h (fun z e => t_Mo_noteSome e) (q_xinvV (Y := m_Mo_noteSome) d_Mo_countSteps_114 ml_Mo_175 ms_Mo_noteSome.1 ms_Mo_noteSome.2 k_Mo_noteSome.1 (by decide) n_Mo_noteSome (by decide) rfl rfl) k_Mo_noteSome (q_ro (by decide) (by decide)) (Nat.le_of_ble_eq_true rfl) d_Mo_countSteps_114 rfl rfl rfl (fun x14 ex14 h => ?_)
      refine q_iconst (v := 0) 118 d_Mo_countSteps_117 rfl (by decide) ?_
      refine q_istore (lv' := [(4, .int 0), (0, .ref 32), (1, .int u11), (2, .int u12), (3, .int u13)]) 120 d_Mo_countSteps_118 rfl (by decide) rfl ?_
      refine q_sub (lv' := [(0, .ref 32), (1, .int u11), (2, .int u12), (3, .int u13), (4, .int 0)]) [1, 2, 3, 4, 0] rfl ?_
      exact t_Mo_countSteps_L120 ih q_fu _ _ _ _ _ h
set_option maxHeartbeats 4000000 in
set_option maxRecDepth 100000 in
theorem t_Mo_countSteps_L2 {E : q_E} {c d : Nat} {ρ : q_W} : ∀ (n : Nat) (x : q_W) (v1 : Int32) (v2 : Int32), f_Mo_countSteps_L2  n x v1 v2 = some ρ → AW E (q_rm 2) m_Mo_countSteps (q_cells E c d x) 0 0 2 [(0, .ref 32), (1, .int v1), (2, .int v2)] [] (q_rV E c d ρ) := by
  intro n
  induction n with
  | zero =>
    intro x v1 v2 h
    have h : (none : Option q_W) = some ρ := h
    cases h
  | succ n ih =>
    intro x v1 v2 h
    unfold f_Mo_countSteps_L2 at h
    refine q_iloadn 3 d_Mo_countSteps_2 rfl 2 rfl ?_
    refine q_aloadn 4 d_Mo_countSteps_3 rfl 0 rfl ?_
    refine q_xcallP (as := [.ref 32]) (rest := [.int v2]) 7 h (fun z e => t_Mo_count e) (q_xinvV (Y := m_Mo_count) d_Mo_countSteps_4 ml_Mo_159 ms_Mo_count.1 ms_Mo_count.2 k_Mo_count.1 (by decide) n_Mo_count (by decide) rfl rfl) k_Mo_count (q_ro (by decide) (by decide)) (Nat.le_of_ble_eq_true rfl) d_Mo_countSteps_4 rfl rfl rfl (fun w1 ew1 h => ?_)
    refine q_ite h (fun c9 h => ?_) (fun c9 h => ?_)
    · refine q_icmp_ge_t 56 d_Mo_countSteps_7 (by decide) c9 ?_
      refine q_iconst (v := 1) 57 d_Mo_countSteps_56 rfl (by decide) ?_
      refine q_istoren (lv' := [(2, .int 1), (0, .ref 32), (1, .int v1)]) 58 d_Mo_countSteps_57 rfl (by decide) rfl ?_
      refine q_iconst (v := 0) 59 d_Mo_countSteps_58 rfl (by decide) ?_
      refine q_istoren (lv' := [(3, .int 0), (2, .int 1), (0, .ref 32), (1, .int v1)]) 60 d_Mo_countSteps_59 rfl (by decide) rfl ?_
      refine q_sub (lv' := [(0, .ref 32), (1, .int v1), (2, .int 1), (3, .int 0)]) [2, 3, 1, 0] rfl ?_
      exact t_Mo_countSteps_L60  q_fu _ _ _ _ h
    · refine q_icmp_ge_f 10 d_Mo_countSteps_7 rfl 56 (by decide) c9 ?_
      refine q_aloadn 11 d_Mo_countSteps_10 rfl 0 rfl ?_
      refine q_xget 14 d_Mo_countSteps_11 rfl fl_Mo_74 (by decide) rfl rfl ?_
      refine q_sipush (v := 256) 17 d_Mo_countSteps_14 rfl (by decide) ?_
      refine q_iloadn 18 d_Mo_countSteps_17 rfl 1 rfl ?_
      refine q_imul 19 d_Mo_countSteps_18 rfl ?_
      refine q_iloadn 20 d_Mo_countSteps_19 rfl 2 rfl ?_
      refine q_iadd 21 d_Mo_countSteps_20 rfl ?_
      refine q_aloadn 22 d_Mo_countSteps_21 rfl 0 rfl ?_
      refine q_xget 25 d_Mo_countSteps_22 rfl fl_Mo_65 (by decide) rfl rfl ?_
      refine q_iloadn 26 d_Mo_countSteps_25 rfl 2 rfl ?_
      refine q_xzald 27 d_Mo_countSteps_26 rfl (by decide) (fun _ => rfl) h (fun w2 ew2 h => ?_)
      refine q_ite h (fun c8 h => ?_) (fun c8 h => ?_)
      · refine q_if_eq_t 48 d_Mo_countSteps_27 (by decide) c8 ?_
        refine q_iconst (v := (-1)) 49 d_Mo_countSteps_48 rfl (by decide) ?_
        refine q_xiast 50 d_Mo_countSteps_49 rfl (by decide) (fun _ => rfl) h (fun x3 ex3 h => ?_)
        refine q_iinc (v := (v2 + 1)) (lv' := [(2, .int (v2 + 1)), (0, .ref 32), (1, .int v1)]) 53 d_Mo_countSteps_50 rfl 2 rfl (q_ai (by decide)) (by decide) rfl ?_
        refine q_goto 2 d_Mo_countSteps_53 (by decide) ?_
        refine q_sub (lv' := [(0, .ref 32), (1, .int v1), (2, .int (v2 + 1))]) [1, 2, 0] rfl ?_
        exact ih _ _ _ h
      · refine q_if_eq_f 30 d_Mo_countSteps_27 rfl 48 (by decide) c8 ?_
        refine q_aloadn 31 d_Mo_countSteps_30 rfl 0 rfl ?_
        refine q_xget 34 d_Mo_countSteps_31 rfl fl_Mo_59 (by decide) rfl rfl ?_
        refine q_iloadn 35 d_Mo_countSteps_34 rfl 2 rfl ?_
        refine q_xiald 36 d_Mo_countSteps_35 rfl (by decide) (fun _ => rfl) h (fun w4 ew4 h => ?_)
        refine q_iloadn 37 d_Mo_countSteps_36 rfl 1 rfl ?_
        refine q_ishr 38 d_Mo_countSteps_37 rfl ?_
        refine q_iconst (v := 1) 39 d_Mo_countSteps_38 rfl (by decide) ?_
        refine q_iand 40 d_Mo_countSteps_39 rfl ?_
        refine q_iconst (v := 1) 41 d_Mo_countSteps_40 rfl (by decide) ?_
        refine q_ite h (fun c7 h => ?_) (fun c7 h => ?_)
        · refine q_icmp_ne_t 48 d_Mo_countSteps_41 (by decide) c7 ?_
          refine q_iconst (v := (-1)) 49 d_Mo_countSteps_48 rfl (by decide) ?_
          refine q_xiast 50 d_Mo_countSteps_49 rfl (by decide) (fun _ => rfl) h (fun x5 ex5 h => ?_)
          refine q_iinc (v := (v2 + 1)) (lv' := [(2, .int (v2 + 1)), (0, .ref 32), (1, .int v1)]) 53 d_Mo_countSteps_50 rfl 2 rfl (q_ai (by decide)) (by decide) rfl ?_
          refine q_goto 2 d_Mo_countSteps_53 (by decide) ?_
          refine q_sub (lv' := [(0, .ref 32), (1, .int v1), (2, .int (v2 + 1))]) [1, 2, 0] rfl ?_
          exact ih _ _ _ h
        · refine q_icmp_ne_f 44 d_Mo_countSteps_41 rfl 48 (by decide) (Classical.not_not.mp c7) ?_
          refine q_iconst (v := 0) 45 d_Mo_countSteps_44 rfl (by decide) ?_
          refine q_goto 49 d_Mo_countSteps_45 (by decide) ?_
          refine q_xiast 50 d_Mo_countSteps_49 rfl (by decide) (fun _ => rfl) h (fun x6 ex6 h => ?_)
          refine q_iinc (v := (v2 + 1)) (lv' := [(2, .int (v2 + 1)), (0, .ref 32), (1, .int v1)]) 53 d_Mo_countSteps_50 rfl 2 rfl (q_ai (by decide)) (by decide) rfl ?_
          refine q_goto 2 d_Mo_countSteps_53 (by decide) ?_
          refine q_sub (lv' := [(0, .ref 32), (1, .int v1), (2, .int (v2 + 1))]) [1, 2, 0] rfl ?_
          exact ih _ _ _ h
set_option maxHeartbeats 4000000 in
set_option maxRecDepth 100000 in
theorem t_Mo_countSteps {E : q_E} {c d : Nat} {x : q_W} {a1 : Int32} {ρ : q_W} (h : f_Mo_countSteps x a1 = some ρ) : q_Ct E y_Mo_countSteps m_Mo_countSteps (q_rm 2) (q_cells E c d x) [.ref 32, .int a1] (q_rV E c d ρ) := by
  unfold f_Mo_countSteps at h
  refine q_Ct.of (lv := [(0, .ref 32), (1, .int a1)]) (by decide) ⟨rfl, rfl⟩ rfl (Nat.le_of_ble_eq_true rfl) ?_
  refine q_iconst (v := 0) 1 d_Mo_countSteps_0 rfl (by decide) ?_
  refine q_istoren (lv' := [(2, .int 0), (0, .ref 32), (1, .int a1)]) 2 d_Mo_countSteps_1 rfl (by decide) rfl ?_
  refine q_sub (lv' := [(0, .ref 32), (1, .int a1), (2, .int 0)]) [1, 2, 0] rfl ?_
  exact t_Mo_countSteps_L2  q_fu _ _ _ h
