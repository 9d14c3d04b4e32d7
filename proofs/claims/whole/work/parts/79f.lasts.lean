/-! THE CALLS THAT ASK FOR WHAT LASTS, AND FOR THE WALK. -/
section ZC
variable {c d s t : Nat} {pr : List Nat} {W : Nat → Nat} {kp op : Nat → Nat → Bool} {wh S : Nat → Bool} {F : Nat → Nat → Option Nat} {x : q_W}
theorem z_Rel_set (h : z_Rel c d x) (h1 : x.2 0 6 = 1) (h2 : x.2 32 3 = 1) (hM : z_RM c s t pr W kp op wh S F x) (hS : x.2 0 7 = 0 ∨ (x.2 0 7 = 1 ∧ z_RS t pr W kp op wh S F x)) : ∃ y, f_D_settle c d x = some y ∧ z_Rel c d y ∧ y.2 32 3 = 1 ∧ z_RM c s t pr W kp op wh S F y ∧ z_RS t pr W kp op wh S F y := by
  obtain ⟨h0, hL, hF, hW⟩ := h
  have hc : c = 16 ∨ c = 24 := by rcases h0 with h | h <;> omega
  obtain ⟨y, y1, y2, y3, y4, y5⟩ := z_settled (d := d) hc h1 hM hS
  have e : ∀ q, 13 < q → y.2 q = x.2 q := fun q hq => y2.2 q (by omega)
  have hMy : z_RM c s t pr W kp op wh S F y := z_RM_same hM ⟨fun q hq => e q (by omega), fun k _ => by rw [e 32 (by omega)]⟩
  have h3 : y.2 32 3 = 1 := by rw [e 32 (by omega)]; exact h2
  refine ⟨y, y1, ⟨h0, z_RL_same hL (by rw [y2.2 1 (by omega)]) (y2.2 2 (by omega)) (e 33 (by omega)) (by rw [e 32 (by omega)]), Or.inr ⟨y3, h3, s, t, pr, W, kp, op, wh, S, F, hMy, Or.inr ⟨y4, y5⟩⟩, z_RW_same hW (by rw [e 14 (by omega)]; exact ⟨rfl, rfl⟩) (e 15 (by omega)) (e 57 (by omega)) (by rw [e 32 (by omega)]; exact ⟨rfl, rfl⟩)⟩, h3, hMy, y5⟩
theorem z_c_lasts {a : Int32} (h : z_Rel c d x) : z_CaB c d (f_Lw_lasts c d x a) (fun y => f_Mo_lasts y a) := by
  rcases h.2.2.1 with ⟨h1, h2⟩ | ⟨h1, h2, s, t, pr, W, kp, op, wh, S, F, hM, hS⟩
  · refine ⟨1, x, 0, q_wr x 32 0 1, ?_, ?_, z_wr1, fun h => absurd h z_10, z_Rel_thr h⟩
    · unfold f_Lw_lasts f_D_lasts
      rw [z_rq0 h1]
      rfl
    · show f_Mo_lasts x a = _
      unfold f_Mo_lasts
      rw [z_isS0 h2]
      simp only [Option.bind_some]
      rw [z_ref0 h2]
      rfl
  · obtain ⟨⟨hZ, hE⟩, hLm, -⟩ := id hM
    have bad : f_D_requireState c d x a = some (.inr 2) → f_Mo_isState x a = some 0 → z_CaB c d (f_Lw_lasts c d x a) (fun y => f_Mo_lasts y a) := by
      intro e1 e2
      refine ⟨2, x, 0, q_wr x 32 0 2, ?_, ?_, z_wr1, fun h => absurd h (by decide), z_Rel_thr h⟩
      · unfold f_Lw_lasts f_D_lasts
        rw [z_rq1 h1, e1]
        rfl
      · simp only [f_Mo_lasts, e2, Option.bind_some]
        rw [z_ref2 h2]
        rfl
    by_cases ha : a < 0
    · exact bad (z_rsn ha) (z_isSn ha)
    · obtain ⟨n, hn, rfl⟩ := zi_of ha
      have e1 := z_rs (c := c) (d := d) (x := x) hZ.1.2.2.1 hZ.2.1.2.1 hn
      have e2 := z_isS (x := x) hZ.1.2.2.1 hZ.2.2.1.2.1 h2 hn
      have hp := z_p2 t hZ.1.2.2.1
      by_cases hlt : n < 8 * 2 ^ t
      · rw [if_pos hlt] at e1 e2
        obtain ⟨y, y1, y2, y3, y4, y5⟩ := z_Rel_set h h1 h2 hM hS
        obtain ⟨⟨hZy, -⟩, -, ⟨hMs, -⟩, -⟩ := id y4
        have e2 := z_isS (x := y) hZy.1.2.2.1 hZy.2.2.1.2.1 y3 hn
        rw [if_pos hlt] at e2
        refine ⟨0, ((if S n then 1 else 0), y.2), zb (S n), q_wr ((if S n then 1 else 0), y.2) 32 0 0, ?_, ?_, z_wr1, fun _ => z_ansB _, z_Rel_thr (z_Rel_ans y2)⟩
        · unfold f_Lw_lasts f_D_lasts
          rw [z_rq1 h1, e1]
          simp only [q_tp]
          rw [y1]
          simp only [Option.bind_some]
          unfold f_La_has
          rw [z_ld (show n < 256 by omega) (by omega), y5.1.1.2.2.1 n hlt]
          simp only [Option.bind_some, zb_nb, q_tcT, zb_0, q_let]
          cases S n <;> rfl
        · show f_Mo_lasts ((if S n then 1 else 0), y.2) (zi n) = _
          unfold f_Mo_lasts
          rw [show f_Mo_isState ((if S n then 1 else 0), y.2) (zi n) = some 1 from e2]
          simp only [Option.bind_some]
          rw [z_ref1 (x := ((if S n then 1 else 0), y.2)) y3 z_10]
          simp only [Option.bind_some]
          rw [if_neg (by simp), z_ld (show n < 256 by omega) (by omega), z_wrp (by omega)]
          show (some (y.2 51 n)).bind _ = _
          rw [hMs.1.2.2.1 n hlt]
          simp only [Option.bind_some, zb_0]
          cases S n <;> rfl
      · rw [if_neg hlt] at e1 e2
        exact bad e1 e2
theorem z_cntL {N r : Nat} (hM : z_Ms t N r W kp op S x) : ∀ n i, i ≤ N → N < i + n → f_Mo_lasting_L14 n x (zi (z_cd S i)) (zi i) = some (zi (z_cd S N), x) := by
  intro n
  induction n with
  | zero => intro i h1 h2; omega
  | succ n ih =>
    intro i h1 h2
    have hN := z_Mb_N hM.1
    simp only [f_Mo_lasting_L14]
    rw [z_Mb_cnt hM.1]
    simp only [Option.bind_some]
    by_cases hiN : i = N
    · subst hiN
      rw [if_pos (by rw [zi_le (by omega) (by omega)]; omega)]
    · rw [if_neg (by rw [zi_le (by omega) (by omega)]; omega), z_ld (show i < 256 by omega) (by omega), hM.1.2.2.1 i (by omega)]
      simp only [Option.bind_some, zb_0, zi_succ, q_let]
      have := ih (i + 1) (by omega) (by omega)
      simp only [z_cd] at this
      by_cases hS : S i = true
      · rw [if_pos hS] at this
        rw [if_neg (by rw [hS]; simp)]
        exact this
      · rw [if_neg hS] at this
        rw [if_pos (by simpa using hS)]
        exact this
theorem z_c_lasting (h : z_Rel c d x) : z_CaI c d (f_Lw_lasting c d x) f_Mo_lasting := by
  rcases h.2.2.1 with ⟨h1, h2⟩ | ⟨h1, h2, s, t, pr, W, kp, op, wh, S, F, hM, hS⟩
  · refine ⟨1, x, 0, q_wr x 32 0 1, ?_, ?_, z_wr1, fun h => absurd h z_10, z_Rel_thr h⟩
    · unfold f_Lw_lasting f_D_lasting
      rw [z_rq0 h1]
      rfl
    · unfold f_Mo_lasting
      rw [z_ref0 h2]
      rfl
  · obtain ⟨y, y1, y2, y3, y4, y5⟩ := z_Rel_set h h1 h2 hM hS
    obtain ⟨⟨hZy, -⟩, -, ⟨hMs, -⟩, -⟩ := id y4
    have hp := z_p2 t hZy.1.2.2.1
    refine ⟨0, ((zi (z_cd S (8 * 2 ^ t))).toInt64, y.2), zi (z_cd S (8 * 2 ^ t)), q_wr ((zi (z_cd S (8 * 2 ^ t))).toInt64, y.2) 32 0 0, ?_, ?_, z_wr1, fun _ => rfl, z_Rel_thr (z_Rel_ans y2)⟩
    · unfold f_Lw_lasting f_D_lasting f_La_size
      rw [z_rq1 h1]
      simp only [q_tp]
      rw [y1]
      simp only [Option.bind_some]
      rw [y5.1.2.2]
      rfl
    · unfold f_Mo_lasting
      rw [z_ref1 (x := ((zi (z_cd S (8 * 2 ^ t))).toInt64, y.2)) y3 z_10]
      simp only [Option.bind_some, if_true]
      have hMz : z_Ms t (8 * 2 ^ t) pr.length W kp op S (q_wr ((zi (z_cd S (8 * 2 ^ t))).toInt64, y.2) 32 0 0) := z_Ms_same' (x := y) hMs (fun q hq => (z_wrp (by omega))) ⟨z_wr2 (Or.inr (by omega)), z_wr2 (Or.inr (by omega))⟩
      exact z_cntL hMz q_fu 0 (by omega) (by simp only [q_fu]; omega)
theorem z_Wo_stem {N : Nat} {res : Option (Nat × Nat) × (Nat → Nat)} {a b : Int32} {g : Nat → Int32} (h : z_Wo N res a b g) : (res.1 = none ∧ a = -1 ∧ b = -1) ∨ ∃ q l, res.1 = some (q, l) ∧ a = zi q ∧ b = zi l ∧ 1 ≤ l ∧ q + l ≤ 1280 ∧ ∀ i, i < q + l → g i = zi (res.2 i) ∧ res.2 i < N := by
  unfold z_Wo at h
  cases hr : res.1 with
  | none => rw [hr] at h; exact Or.inl ⟨rfl, h⟩
  | some ql =>
    obtain ⟨q, l⟩ := ql
    rw [hr] at h
    exact Or.inr ⟨q, l, rfl, h⟩
/-- both walks: none, or the same stem, loop and row -/
theorem z_two (hM : z_RM c s t pr W kp op wh S F x) (hS : z_RS t pr W kp op wh S F x) : (x.2 11 2 = -1 ∧ x.2 11 3 = -1 ∧ x.2 32 32 = -1 ∧ x.2 32 33 = -1) ∨ ∃ (q l : Nat) (row : Nat → Nat), x.2 11 2 = zi q ∧ x.2 11 3 = zi l ∧ x.2 32 32 = zi q ∧ x.2 32 33 = zi l ∧ 1 ≤ l ∧ q + l ≤ 1280 ∧ ∀ i, i < q + l → x.2 12 i = zi (row i) ∧ x.2 55 i = zi (row i) ∧ row i < 256 := by
  have hp := z_p2 t hM.1.1.1.2.2.1
  rcases z_Wo_stem hM.2.2.2.2 with ⟨r1, r2, r3⟩ | ⟨q, l, r1, r2, r3, r4, r5, r6⟩
  · rcases z_Wo_stem hS.2 with ⟨u1, u2, u3⟩ | ⟨q, l, u1, -⟩
    · exact Or.inl ⟨u2, u3, r2, r3⟩
    · rw [r1] at u1; cases u1
  · rcases z_Wo_stem hS.2 with ⟨u1, u2, u3⟩ | ⟨q', l', u1, u2, u3, u4, u5, u6⟩
    · rw [r1] at u1; cases u1
    · rw [r1] at u1
      cases u1
      exact Or.inr ⟨q, l, _, u2, u3, r2, r3, r4, r5, fun i hi => ⟨(u6 i hi).1, (r6 i hi).1, by have := (r6 i hi).2; omega⟩⟩
theorem z_c_can (h : z_Rel c d x) : z_CaB c d (f_Lw_can c d x) f_Mo_can := by
  rcases h.2.2.1 with ⟨h1, h2⟩ | ⟨h1, h2, s, t, pr, W, kp, op, wh, S, F, hM, hS⟩
  · refine ⟨1, x, 0, q_wr x 32 0 1, ?_, ?_, z_wr1, fun h => absurd h z_10, z_Rel_thr h⟩
    · unfold f_Lw_can f_D_can
      rw [z_rq0 h1]
      rfl
    · unfold f_Mo_can
      rw [z_ref0 h2]
      rfl
  · obtain ⟨y, y1, y2, y3, y4, y5⟩ := z_Rel_set h h1 h2 hM hS
    rcases z_two y4 y5 with ⟨u1, u2, u3, u4⟩ | ⟨q, l, row, u1, u2, u3, u4, u5, u6, u7⟩
    · refine ⟨0, (0, y.2), 0, q_wr (0, y.2) 32 0 0, ?_, ?_, z_wr1, fun _ => rfl, z_Rel_thr (z_Rel_ans y2)⟩
      · unfold f_Lw_can f_D_can f_Wa_exists
        rw [z_rq1 h1]
        simp only [q_tp]
        rw [y1]
        simp only [Option.bind_some]
        rw [u1]
        rfl
      · unfold f_Mo_can
        rw [z_ref1 (x := (0, y.2)) y3 z_10]
        simp only [Option.bind_some]
        rw [if_neg (by simp), z_wr2 (Or.inr (by omega))]
        show (if y.2 32 32 < 0 then _ else _) = _
        rw [u3]
        rfl
    · refine ⟨0, (1, y.2), 1, q_wr (1, y.2) 32 0 0, ?_, ?_, z_wr1, fun _ => rfl, z_Rel_thr (z_Rel_ans y2)⟩
      · unfold f_Lw_can f_D_can f_Wa_exists
        rw [z_rq1 h1]
        simp only [q_tp]
        rw [y1]
        simp only [Option.bind_some]
        rw [u1, if_neg (zi_m1 (by omega))]
        rfl
      · unfold f_Mo_can
        rw [z_ref1 (x := (1, y.2)) y3 z_10]
        simp only [Option.bind_some]
        rw [if_neg (by simp), z_wr2 (Or.inr (by omega))]
        show (if y.2 32 32 < 0 then _ else _) = _
        rw [u3, if_neg (zi_neg (by omega))]
        rfl
theorem z_c_stem (h : z_Rel c d x) : z_CaI c d (f_Lw_stem c d x) f_Mo_stem := by
  rcases h.2.2.1 with ⟨h1, h2⟩ | ⟨h1, h2, s, t, pr, W, kp, op, wh, S, F, hM, hS⟩
  · refine ⟨1, x, 0, q_wr x 32 0 1, ?_, ?_, z_wr1, fun h => absurd h z_10, z_Rel_thr h⟩
    · unfold f_Lw_stem f_D_stem
      rw [z_rq0 h1]
      rfl
    · unfold f_Mo_stem
      rw [z_ref0 h2]
      rfl
  · obtain ⟨y, y1, y2, y3, y4, y5⟩ := z_Rel_set h h1 h2 hM hS
    have hst : y.2 11 2 = y.2 32 32 := by
      rcases z_two y4 y5 with ⟨u1, u2, u3, u4⟩ | ⟨q, l, row, u1, u2, u3, u4, u5, u6, u7⟩
      · rw [u1, u3]
      · rw [u1, u3]
    refine ⟨0, ((y.2 32 32).toInt64, y.2), y.2 32 32, q_wr ((y.2 32 32).toInt64, y.2) 32 0 0, ?_, ?_, z_wr1, fun _ => rfl, z_Rel_thr (z_Rel_ans y2)⟩
    · unfold f_Lw_stem f_D_stem f_Wa_stemLength
      rw [z_rq1 h1]
      simp only [q_tp]
      rw [y1]
      simp only [Option.bind_some]
      rw [hst]
      rfl
    · unfold f_Mo_stem
      rw [z_ref1 (x := ((y.2 32 32).toInt64, y.2)) y3 z_10]
      simp only [Option.bind_some, if_true]
      rw [z_wr2 (Or.inr (by omega))]
theorem z_c_loop (h : z_Rel c d x) : z_CaI c d (f_Lw_loop c d x) f_Mo_loop := by
  rcases h.2.2.1 with ⟨h1, h2⟩ | ⟨h1, h2, s, t, pr, W, kp, op, wh, S, F, hM, hS⟩
  · refine ⟨1, x, 0, q_wr x 32 0 1, ?_, ?_, z_wr1, fun h => absurd h z_10, z_Rel_thr h⟩
    · unfold f_Lw_loop f_D_loop
      rw [z_rq0 h1]
      rfl
    · unfold f_Mo_loop
      rw [z_ref0 h2]
      rfl
  · obtain ⟨y, y1, y2, y3, y4, y5⟩ := z_Rel_set h h1 h2 hM hS
    have hst : y.2 11 3 = y.2 32 33 := by
      rcases z_two y4 y5 with ⟨u1, u2, u3, u4⟩ | ⟨q, l, row, u1, u2, u3, u4, u5, u6, u7⟩
      · rw [u2, u4]
      · rw [u2, u4]
    refine ⟨0, ((y.2 32 33).toInt64, y.2), y.2 32 33, q_wr ((y.2 32 33).toInt64, y.2) 32 0 0, ?_, ?_, z_wr1, fun _ => rfl, z_Rel_thr (z_Rel_ans y2)⟩
    · unfold f_Lw_loop f_D_loop f_Wa_loopLength
      rw [z_rq1 h1]
      simp only [q_tp]
      rw [y1]
      simp only [Option.bind_some]
      rw [hst]
      rfl
    · unfold f_Mo_loop
      rw [z_ref1 (x := ((y.2 32 33).toInt64, y.2)) y3 z_10]
      simp only [Option.bind_some, if_true]
      rw [z_wr2 (Or.inr (by omega))]
theorem z_stepJ {v a : Int32} (hv : ¬ v ≤ 0) : f_Mo_step_J41 x a v = some (0, q_wr x 32 0 v) := by
  unfold f_Mo_step_J41
  simp only [q_let]
  rw [z_wr1, if_neg hv]
theorem z_c_step {a : Int32} (h : z_Rel c d x) : z_CaI c d (f_Lw_step c d x a) (fun y => f_Mo_step y a) := by
  rcases h.2.2.1 with ⟨h1, h2⟩ | ⟨h1, h2, s, t, pr, W, kp, op, wh, S, F, hM, hS⟩
  · refine ⟨1, x, 0, q_wr x 32 0 1, ?_, ?_, z_wr1, fun h => absurd h z_10, z_Rel_thr h⟩
    · unfold f_Lw_step f_D_step
      rw [z_rq0 h1]
      rfl
    · show f_Mo_step x a = _
      unfold f_Mo_step f_Mo_step_J15
      rw [if_pos h2]
      exact z_stepJ (by decide)
  · obtain ⟨y, y1, y2, y3, y4, y5⟩ := z_Rel_set h h1 h2 hM hS
    rcases z_two y4 y5 with ⟨u1, u2, u3, u4⟩ | ⟨q, l, row, u1, u2, u3, u4, u5, u6, u7⟩
    · refine ⟨1, y, 0, q_wr y 32 0 1, ?_, ?_, z_wr1, fun h => absurd h z_10, z_Rel_thr y2⟩
      · unfold f_Lw_step f_D_step f_Wa_exists
        rw [z_rq1 h1]
        simp only [q_tp]
        rw [y1]
        simp only [Option.bind_some]
        rw [u1]
        rfl
      · show f_Mo_step y a = _
        unfold f_Mo_step f_Mo_step_J15
        rw [if_neg (by rw [y3]; exact z_10), u3, if_neg (by decide)]
        exact z_stepJ (by decide)
    · have hex : f_Wa_exists y = some 1 := by
        unfold f_Wa_exists
        rw [u1, if_neg (zi_m1 (by omega))]
        rfl
      have hD : f_D_step c d x a = (if a < 0 then some (.inr 2, y) else (f_Wa_size y).bind fun w5 => if a < w5 then (f_Wa_stateAt y a).bind fun w6 => some (.inl w6, y) else some (.inr 2, y)) := by
        unfold f_D_step
        rw [z_rq1 h1]
        simp only [q_tp]
        rw [y1]
        simp only [Option.bind_some]
        rw [hex]
        rfl
      have hsz : f_Wa_size y = some (zi (q + l)) := by
        unfold f_Wa_size
        rw [hex]
        simp only [Option.bind_some]
        rw [if_neg z_10, u1, u2, zi_add]
      have hMo : f_Mo_step y a = (if a < 0 then f_Mo_step_J41 y a 2 else if a < zi (q + l) then f_Mo_step_J41 y a 0 else f_Mo_step_J41 y a 2) := by
        unfold f_Mo_step f_Mo_step_J36
        rw [if_neg (by rw [y3]; exact z_10), u3, u4, if_pos (show (0 : Int32) ≤ zi q from (zi_le (n := 0) (by omega) (by omega)).mpr (by omega)), zi_add]
      have bad : f_D_step c d x a = some (.inr 2, y) → f_Mo_step y a = f_Mo_step_J41 y a 2 → z_CaI c d (f_Lw_step c d x a) (fun y => f_Mo_step y a) := by
        intro e1 e2
        refine ⟨2, y, 0, q_wr y 32 0 2, ?_, ?_, z_wr1, fun h => absurd h (by decide), z_Rel_thr y2⟩
        · unfold f_Lw_step
          rw [e1]
          rfl
        · show f_Mo_step y a = _
          rw [e2]
          exact z_stepJ (by decide)
      by_cases ha : a < 0
      · rw [if_pos ha] at hD hMo
        exact bad hD hMo
      · rw [if_neg ha, hsz] at hD
        simp only [Option.bind_some] at hD
        rw [if_neg ha] at hMo
        obtain ⟨n, hn, rfl⟩ := zi_of ha
        by_cases hlt : n < q + l
        · have hlt' : zi n < zi (q + l) := by rw [zi_lt (by omega) (by omega)]; exact hlt
          rw [if_pos hlt'] at hD hMo
          obtain ⟨r1, r2, r3⟩ := u7 n hlt
          have hst : f_Wa_stateAt y (zi n) = some (zi (row n)) := by
            unfold f_Wa_stateAt
            rw [z_ld (show n < 1281 by omega) (by omega), r1]
            rfl
          rw [hst] at hD
          refine ⟨0, ((zi (row n)).toInt64, y.2), zi (row n), q_wr ((zi (row n)).toInt64, y.2) 32 0 0, ?_, ?_, z_wr1, fun _ => rfl, z_Rel_thr (z_Rel_ans y2)⟩
          · unfold f_Lw_step
            rw [hD]
            rfl
          · have hMo' : f_Mo_step ((zi (row n)).toInt64, y.2) (zi n) = f_Mo_step_J41 ((zi (row n)).toInt64, y.2) (zi n) 0 := by
              unfold f_Mo_step f_Mo_step_J36
              show (if y.2 32 3 = 0 then _ else if 0 ≤ y.2 32 32 then if zi n < 0 then _ else if zi n < y.2 32 32 + y.2 32 33 then _ else _ else _) = _
              rw [if_neg (by rw [y3]; exact z_10), u3, u4, if_pos (show (0 : Int32) ≤ zi q from (zi_le (n := 0) (by omega) (by omega)).mpr (by omega)), zi_add, if_neg ha, if_pos hlt']
            show f_Mo_step ((zi (row n)).toInt64, y.2) (zi n) = _
            rw [hMo']
            unfold f_Mo_step_J41
            simp only [q_let]
            rw [z_wr1, if_pos (by decide), z_ld (show n < 1280 by omega) (by omega), z_wrp (by omega)]
            show (some (y.2 55 n)).bind _ = _
            rw [r2]
            rfl
        · have hlt' : ¬ zi n < zi (q + l) := by rw [zi_lt (by omega) (by omega)]; exact hlt
          rw [if_neg hlt'] at hD hMo
          exact bad hD hMo
end ZC
