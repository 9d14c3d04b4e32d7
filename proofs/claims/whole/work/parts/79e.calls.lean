/-! THE CALLS THAT ONLY ASK. -/
def z_CaB (c d : Nat) (L : Option (Int32 × q_W)) (M : q_W → Option (Int32 × q_W)) : Prop := ∃ a y b z, L = some (a, y) ∧ M y = some (b, z) ∧ z.2 32 0 = a ∧ (a = 0 → z.1 = if b = 0 then 0 else 1) ∧ z_Rel c d z
def z_CaI (c d : Nat) (L : Option (Int32 × q_W)) (M : q_W → Option (Int32 × q_W)) : Prop := ∃ a y b z, L = some (a, y) ∧ M y = some (b, z) ∧ z.2 32 0 = a ∧ (a = 0 → z.1 = b.toInt64) ∧ z_Rel c d z
section ZC
variable {c d : Nat} {x : q_W}
theorem z_ref0 {v : Int32} (h : x.2 32 3 = 0) : f_Mo_refused x v = some (1, q_wr x 32 0 1) := by
  unfold f_Mo_refused f_Mo_refused_J21
  rw [if_neg (fun hh => hh h)]
  simp only [q_let]
  rw [z_wr1, if_neg (by decide)]
  rfl
theorem z_ref1 {v : Int32} (h : x.2 32 3 = 1) (hv : v ≠ 0) : f_Mo_refused x v = some (0, q_wr x 32 0 0) := by
  unfold f_Mo_refused f_Mo_refused_J21
  rw [if_pos (by rw [h]; exact z_10), if_neg hv]
  simp only [q_let]
  rw [z_wr1, if_pos (by decide)]
  rfl
theorem z_ref2 (h : x.2 32 3 = 1) : f_Mo_refused x 0 = some (1, q_wr x 32 0 2) := by
  unfold f_Mo_refused f_Mo_refused_J21
  rw [if_pos (by rw [h]; exact z_10), if_pos rfl]
  simp only [q_let]
  rw [z_wr1, if_neg (by decide)]
  rfl
theorem z_rq0 (h : x.2 0 6 = 0) : f_D_requireFormula c d x = some (.inr 1) := by
  unfold f_D_requireFormula
  rw [if_neg (fun hh => hh h)]
theorem z_rq1 (h : x.2 0 6 = 1) : f_D_requireFormula c d x = some (.inl 0) := by
  unfold f_D_requireFormula
  rw [if_pos (by rw [h]; exact z_10)]
theorem z_rsn {a : Int32} (h : a < 0) : f_D_requireState c d x a = some (.inr 2) := by
  unfold f_D_requireState
  rw [if_pos h]
theorem z_rs {a t : Nat} (ht : t ≤ 5) (h8 : x.2 c 8 = zi t) (ha : a < 2147483648) : f_D_requireState c d x (zi a) = some (if a < 8 * 2 ^ t then .inl 0 else .inr 2) := by
  have hp := z_p2 t ht
  unfold f_D_requireState f_Fo_stateCount
  rw [if_neg (zi_neg ha)]
  simp only [Option.bind_some]
  rw [h8, z_st8 t ht]
  by_cases h : a < 8 * 2 ^ t
  · rw [if_pos h, if_pos (by rw [zi_lt (by omega) (by omega)]; exact h)]
  · rw [if_neg h, if_neg (by rw [zi_lt (by omega) (by omega)]; exact h)]
theorem z_isSn {a : Int32} (h : a < 0) : f_Mo_isState x a = some 0 := by
  unfold f_Mo_isState
  rw [if_pos h]
  rfl
theorem z_isS0 {a : Int32} (h : x.2 32 3 = 0) : f_Mo_isState x a = some 0 := by
  unfold f_Mo_isState
  by_cases ha : a < 0
  · rw [if_pos ha]; rfl
  · rw [if_neg ha, if_pos h]; rfl
theorem z_isS {a t : Nat} (ht : t ≤ 5) (h9 : x.2 32 9 = zi t) (h3 : x.2 32 3 = 1) (ha : a < 2147483648) : f_Mo_isState x (zi a) = some (if a < 8 * 2 ^ t then 1 else 0) := by
  have hp := z_p2 t ht
  unfold f_Mo_isState f_Mo_count
  rw [if_neg (zi_neg ha), if_neg (by rw [h3]; exact z_10)]
  simp only [Option.bind_some]
  rw [h9, z_st8 t ht]
  by_cases h : a < 8 * 2 ^ t
  · rw [if_pos h, if_neg (by rw [zi_le (by omega) (by omega)]; omega)]
    rfl
  · rw [if_neg h, if_pos (by rw [zi_le (by omega) (by omega)]; omega)]
    rfl
theorem z_c_states (h : z_Rel c d x) : z_CaI c d (f_Lw_states c d x) f_Mo_states := by
  rcases h.2.2.1 with ⟨h1, h2⟩ | ⟨h1, h2, s, t, pr, W, kp, op, wh, S, F, hM, hS⟩
  · refine ⟨1, x, 0, q_wr x 32 0 1, ?_, ?_, z_wr1, fun h => absurd h z_10, z_Rel_thr h⟩
    · unfold f_Lw_states f_D_states
      rw [z_rq0 h1]
      rfl
    · unfold f_Mo_states
      rw [z_ref0 h2]
      rfl
  · obtain ⟨⟨hZ, hE⟩, -⟩ := id hM
    refine ⟨0, ((zi (8 * 2 ^ t)).toInt64, x.2), zi (8 * 2 ^ t), q_wr ((zi (8 * 2 ^ t)).toInt64, x.2) 32 0 0, ?_, ?_, z_wr1, fun _ => rfl, z_Rel_thr (z_Rel_ans h)⟩
    · unfold f_Lw_states f_D_states f_Fo_stateCount
      rw [z_rq1 h1, hZ.2.1.2.1, z_st8 t hZ.1.2.2.1]
      rfl
    · unfold f_Mo_states
      rw [z_ref1 (x := ((zi (8 * 2 ^ t)).toInt64, x.2)) h2 z_10]
      simp only [Option.bind_some, if_true]
      unfold f_Mo_count
      rw [z_wr2 (Or.inr (by omega))]
      show (some (8 <<< (x.2 32 9 &&& 31))).bind _ = _
      rw [hZ.2.2.1.2.1, z_st8 t hZ.1.2.2.1]
      rfl
theorem z_c_promises (h : z_Rel c d x) : z_CaI c d (f_Lw_promises c d x) f_Mo_promises := by
  rcases h.2.2.1 with ⟨h1, h2⟩ | ⟨h1, h2, s, t, pr, W, kp, op, wh, S, F, hM, hS⟩
  · refine ⟨1, x, 0, q_wr x 32 0 1, ?_, ?_, z_wr1, fun h => absurd h z_10, z_Rel_thr h⟩
    · unfold f_Lw_promises f_D_promises
      rw [z_rq0 h1]
      rfl
    · unfold f_Mo_promises
      rw [z_ref0 h2]
      rfl
  · obtain ⟨⟨hZ, hE⟩, -⟩ := id hM
    refine ⟨0, ((zi pr.length).toInt64, x.2), zi pr.length, q_wr ((zi pr.length).toInt64, x.2) 32 0 0, ?_, ?_, z_wr1, fun _ => rfl, z_Rel_thr (z_Rel_ans h)⟩
    · unfold f_Lw_promises f_D_promises f_Fo_promiseCount
      rw [z_rq1 h1, hZ.2.1.2.2]
      rfl
    · unfold f_Mo_promises
      rw [z_ref1 (x := ((zi pr.length).toInt64, x.2)) h2 z_10]
      simp only [Option.bind_some, if_true]
      rw [z_wr2 (Or.inr (by omega))]
      show some (x.2 32 11, _) = _
      rw [hZ.2.2.1.2.2]
theorem z_ansB (b : Bool) : ((if b then 1 else 0 : Int64)) = if zb b = 0 then 0 else 1 := by cases b <;> rfl
theorem z_c_isAt {a : Int32} (h : z_Rel c d x) : z_CaB c d (f_Lw_isAt c d x a) (fun y => f_Mo_isAt y a) := by
  rcases h.2.2.1 with ⟨h1, h2⟩ | ⟨h1, h2, s, t, pr, W, kp, op, wh, S, F, hM, hS⟩
  · refine ⟨1, x, 0, q_wr x 32 0 1, ?_, ?_, z_wr1, fun h => absurd h z_10, z_Rel_thr h⟩
    · unfold f_Lw_isAt f_D_isAt
      rw [z_rq0 h1]
      rfl
    · show f_Mo_isAt x a = _
      unfold f_Mo_isAt
      rw [z_isS0 h2]
      simp only [Option.bind_some]
      rw [z_ref0 h2]
      rfl
  · obtain ⟨⟨hZ, hE⟩, hLm, -⟩ := id hM
    have bad : f_D_requireState c d x a = some (.inr 2) → f_Mo_isState x a = some 0 → z_CaB c d (f_Lw_isAt c d x a) (fun y => f_Mo_isAt y a) := by
      intro e1 e2
      refine ⟨2, x, 0, q_wr x 32 0 2, ?_, ?_, z_wr1, fun h => absurd h (by decide), z_Rel_thr h⟩
      · unfold f_Lw_isAt f_D_isAt
        rw [z_rq1 h1, e1]
        rfl
      · simp only [f_Mo_isAt, e2, Option.bind_some]
        rw [z_ref2 h2]
        rfl
    by_cases ha : a < 0
    · exact bad (z_rsn ha) (z_isSn ha)
    · obtain ⟨n, hn, rfl⟩ := zi_of ha
      have e1 := z_rs (c := c) (d := d) (x := x) hZ.1.2.2.1 hZ.2.1.2.1 hn
      have e2 := z_isS (x := x) hZ.1.2.2.1 hZ.2.2.1.2.1 h2 hn
      have hp := z_p2 t hZ.1.2.2.1
      by_cases hlt : n < 8 * 2 ^ t
      · rw [if_pos hlt] at e1 e2
        obtain ⟨M, m1, m2, m3, m4, m5⟩ := z_Ev_c hZ hE n
        refine ⟨0, ((if wh n then 1 else 0), x.2), zb (wh n), q_wr ((if wh n then 1 else 0), x.2) 32 0 0, ?_, ?_, z_wr1, fun _ => z_ansB _, z_Rel_thr (z_Rel_ans h)⟩
        · unfold f_Lw_isAt f_D_isAt
          rw [z_rq1 h1, e1]
          simp only [q_tpp]
          rw [m1]
          simp only [Option.bind_some]
          rw [m5]
          simp only [Option.bind_some, zb_nb, q_tcP, zb_0, q_let]
          cases wh n <;> rfl
        · show f_Mo_isAt ((if wh n then 1 else 0), x.2) (zi n) = _
          unfold f_Mo_isAt
          rw [show f_Mo_isState ((if wh n then 1 else 0), x.2) (zi n) = some 1 from e2]
          simp only [Option.bind_some]
          rw [z_ref1 (x := ((if wh n then 1 else 0), x.2)) h2 z_10]
          simp only [Option.bind_some]
          rw [if_neg (by simp), z_ld (show n < 256 by omega) (by omega), z_wrp (by omega)]
          show (some (x.2 47 n)).bind _ = _
          rw [(hLm n hlt).2.1]
          simp only [Option.bind_some, zb_0]
          cases wh n <;> rfl
      · rw [if_neg hlt] at e1 e2
        exact bad e1 e2
theorem z_c_leads {a b : Int32} (h : z_Rel c d x) : z_CaB c d (f_Lw_leads c d x a b) (fun y => f_Mo_leads y a b) := by
  rcases h.2.2.1 with ⟨h1, h2⟩ | ⟨h1, h2, s, t, pr, W, kp, op, wh, S, F, hM, hS⟩
  · refine ⟨1, x, 0, q_wr x 32 0 1, ?_, ?_, z_wr1, fun h => absurd h z_10, z_Rel_thr h⟩
    · unfold f_Lw_leads f_D_leads
      rw [z_rq0 h1]
      rfl
    · show f_Mo_leads x a b = _
      unfold f_Mo_leads f_Mo_leads_J21 f_Mo_leads_J22
      rw [z_isS0 h2]
      simp only [Option.bind_some, if_true]
      rw [z_ref0 h2]
      rfl
  · obtain ⟨⟨hZ, hE⟩, hLm, -⟩ := id hM
    have hbad : ∀ L, L = some (2, x) → (f_Mo_leads x a b = f_Mo_leads_J22 x a b 0) → z_CaB c d L (fun y => f_Mo_leads y a b) := by
      intro L hL e2
      refine ⟨2, x, 0, q_wr x 32 0 2, hL, ?_, z_wr1, fun h => absurd h (by decide), z_Rel_thr h⟩
      simp only [e2, f_Mo_leads_J22]
      rw [z_ref2 h2]
      rfl
    have badA : f_D_requireState c d x a = some (.inr 2) → f_Mo_isState x a = some 0 → z_CaB c d (f_Lw_leads c d x a b) (fun y => f_Mo_leads y a b) := by
      intro e1 e2
      refine hbad _ ?_ ?_
      · unfold f_Lw_leads f_D_leads
        rw [z_rq1 h1, e1]
        rfl
      · unfold f_Mo_leads f_Mo_leads_J21
        rw [e2]
        simp only [Option.bind_some, if_true]
    by_cases ha : a < 0
    · exact badA (z_rsn ha) (z_isSn ha)
    · obtain ⟨n, hn, rfl⟩ := zi_of ha
      have e1 := z_rs (c := c) (d := d) (x := x) hZ.1.2.2.1 hZ.2.1.2.1 hn
      have e2 := z_isS (x := x) hZ.1.2.2.1 hZ.2.2.1.2.1 h2 hn
      have hp := z_p2 t hZ.1.2.2.1
      by_cases hlt : n < 8 * 2 ^ t
      · rw [if_pos hlt] at e1 e2
        have badB : f_D_requireState c d x b = some (.inr 2) → f_Mo_isState x b = some 0 → z_CaB c d (f_Lw_leads c d x (zi n) b) (fun y => f_Mo_leads y (zi n) b) := by
          intro e3 e4
          refine hbad _ ?_ ?_
          · unfold f_Lw_leads f_D_leads
            rw [z_rq1 h1, e1]
            simp only [q_tpp]
            rw [e3]
            rfl
          · unfold f_Mo_leads f_Mo_leads_J21
            rw [e2]
            simp only [Option.bind_some]
            rw [if_neg z_10, e4]
            simp only [Option.bind_some, if_true]
        by_cases hb : b < 0
        · exact badB (z_rsn hb) (z_isSn hb)
        · obtain ⟨m, hm, rfl⟩ := zi_of hb
          have e3 := z_rs (c := c) (d := d) (x := x) hZ.1.2.2.1 hZ.2.1.2.1 hm
          have e4 := z_isS (x := x) hZ.1.2.2.1 hZ.2.2.1.2.1 h2 hm
          by_cases hmt : m < 8 * 2 ^ t
          · rw [if_pos hmt] at e3 e4
            obtain ⟨M, m1, m2, m3, m4, m5⟩ := z_Ev_c hZ hE m
            obtain ⟨_, hWm, _⟩ := hLm m hmt
            have hgo : ((zi n >>> (3 &&& 31)) = zi (W m)) ↔ ((zi n >>> (3 &&& 31)) = x.2 46 m) := by rw [(hLm m hmt).1]
            refine ⟨0, ((if (zi n >>> (3 &&& 31)) = zi (W m) then 1 else 0), x.2), zb (decide ((zi n >>> (3 &&& 31)) = zi (W m))), q_wr ((if (zi n >>> (3 &&& 31)) = zi (W m) then 1 else 0), x.2) 32 0 0, ?_, ?_, z_wr1, fun _ => ?_, z_Rel_thr (z_Rel_ans h)⟩
            · unfold f_Lw_leads f_D_leads
              rw [z_rq1 h1, e1]
              simp only [q_tpp]
              rw [e3]
              simp only [m1, Option.bind_some, m2]
              by_cases hc : (zi n >>> (3 &&& 31)) = zi (W m)
              · rw [if_neg (fun hh => hh hc), if_pos hc]
                rfl
              · rw [if_pos hc, if_neg hc]
                rfl
            · show f_Mo_leads ((if (zi n >>> (3 &&& 31)) = zi (W m) then 1 else 0), x.2) (zi n) (zi m) = _
              unfold f_Mo_leads f_Mo_leads_J22
              rw [show f_Mo_isState ((if (zi n >>> (3 &&& 31)) = zi (W m) then 1 else 0), x.2) (zi n) = some 1 from e2]
              simp only [Option.bind_some]
              rw [if_neg z_10, show f_Mo_isState ((if (zi n >>> (3 &&& 31)) = zi (W m) then 1 else 0), x.2) (zi m) = some 1 from e4]
              simp only [Option.bind_some]
              rw [if_neg z_10, z_ref1 (x := ((if (zi n >>> (3 &&& 31)) = zi (W m) then 1 else 0), x.2)) h2 z_10]
              simp only [Option.bind_some]
              rw [if_neg (by simp)]
              unfold f_Mo_goes
              rw [z_ld (show m < 256 by omega) (by omega), z_wrp (by omega)]
              show (Option.bind (Option.bind (some (x.2 46 m)) _) _) = _
              rw [(hLm m hmt).1]
              simp only [Option.bind_some]
              by_cases hc : (zi n >>> (3 &&& 31)) = zi (W m)
              · rw [if_neg (fun hh => hh hc), decide_eq_true hc]
                rfl
              · rw [if_pos hc, decide_eq_false hc]
                rfl
            · show (if (zi n >>> (3 &&& 31)) = zi (W m) then (1 : Int64) else 0) = _
              by_cases hc : (zi n >>> (3 &&& 31)) = zi (W m)
              · rw [if_pos hc, decide_eq_true hc]; rfl
              · rw [if_neg hc, decide_eq_false hc]; rfl
          · rw [if_neg hmt] at e3 e4
            exact badB e3 e4
      · rw [if_neg hlt] at e1 e2
        exact badA e1 e2
end ZC
