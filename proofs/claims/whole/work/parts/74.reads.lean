/-! THE REFERENCE'S READING IS z_run: the loop. -/
theorem z_nbr_le (O : List (Nat × Nat)) : z_nbr O ≤ O.length := by
  induction O with
  | nil => exact Nat.le_refl _
  | cons a O ih =>
    obtain ⟨c, i⟩ := a
    simp only [z_nbr, List.length_cons]
    split <;> omega
section ZM
variable {D : Type} {A : z_A D} {n : Nat} {ch : Nat → Nat}
theorem z_Lo_V {x : q_W} {v : Nat → z_LD D} {m p b : Nat} {O : List (Nat × Nat)} {V : List (z_LD D)} (h : z_Lo A n ch x v m p b O V true) : 1 ≤ m ∧ V.length ≤ p ∧ V.length = z_nbn O + 1 := by
  obtain ⟨hM, h1, h2, -⟩ := h
  have h3 := z_nbn_le O
  simp only [if_true] at h1
  have hm : 1 ≤ m := by
    match V, h1, hM.2.2.1 with
    | [], h1, _ => simp at h1
    | d :: V, _, ⟨⟨w, _, hw, _⟩, _⟩ => omega
  exact ⟨hm, by omega, h1⟩
theorem z_reads_end (hn : n ≤ 18) {x : q_W} {v : Nat → z_LD D} {m b : Nat} {O : List (Nat × Nat)} {V : List (z_LD D)} {bh : Bool} (h : z_Lo A n ch x v m n b O V bh) : z_ok (z_E30 x (if bh then 1 else 0) 1) (z_Po A n ch n (O, V, b, bh) x) := by
  have hrun : ∀ S0 : z_S (z_LD D), z_run (z_lg A) (z_tk n ch) (z_tb (z_tk n ch)) (n - n) n S0 = some S0 := fun S0 => by rw [Nat.sub_self]; rfl
  cases bh with
  | false =>
    refine ⟨(0, x), rfl, z_Fm_rf, Or.inr ⟨rfl, fun S hS => ?_⟩⟩
    rw [hrun] at hS
    cases hS
    rintro ⟨h1, -⟩
    cases h1
  | true =>
    obtain ⟨l1, l2, l3⟩ := z_Lo_V h
    obtain ⟨hM, -, g2, g3, g4, g5, -⟩ := h
    have e : z_E30 x (if true = true then 1 else 0) 1 = (f_Mo_settle_L0 q_fu x (zi 1)).bind fun x8 => f_Mo_reads_J310 x8 1 1 := rfl
    rw [e]
    refine z_ok.bind (z_settle (A := A) (t := 1) (by omega) (by omega) q_fu O V x v m (by simp only [q_fu]; omega) hM l3 (by omega) (by omega)) (fun y hy => ?_)
    obtain ⟨f1, v', m', s1, s2, s3, s4⟩ := hy
    have e2 : f_Mo_reads_J310 y 1 1 = if ¬ y.2 32 22 = 0 then some (0, y) else if 6 ≤ y.2 32 18 then some (0, y) else some (1, y) := rfl
    rw [e2]
    obtain ⟨⟨k13, k18, k20, k22⟩, -⟩ := id s1
    have htb := z_tb_le (z_tk n ch) n
    cases hO : (z_se (z_lg A) 1 O V).1 with
    | cons a O' =>
      rw [hO] at k22 s2
      refine z_ok.pos ?_ (z_ok.some ⟨f1, Or.inr ⟨rfl, fun S hS => ?_⟩⟩)
      · rw [k22]
        intro hh
        have := (zi_eq (m := 0) (by simp only [List.length_cons] at s2 ⊢; omega) (by omega)).mp hh
        simp at this
      · rw [hrun] at hS
        cases hS
        rintro ⟨-, h2, -⟩
        rw [hO] at h2
        cases h2
    | nil =>
      rw [hO] at k22 s1 s3
      refine z_ok.neg (fun hh => hh (by rw [k22]; rfl)) ?_
      by_cases h6 : 6 ≤ z_tb (z_tk n ch) n
      · refine z_ok.pos (by rw [k18]; exact (zi_le (n := 6) (by omega) (by omega)).mpr h6) (z_ok.some ⟨f1, Or.inr ⟨rfl, fun S _ => ?_⟩⟩)
        rintro ⟨-, -, h3⟩
        omega
      · refine z_ok.neg (by rw [k18]; exact fun hh => h6 ((zi_le (n := 6) (by omega) (by omega)).mp hh)) (z_ok.some ⟨f1, Or.inl ⟨rfl, _, v', m', hrun _, rfl, hO, by omega, s1, ?_⟩⟩)
        simp only [z_nbr] at s3
        omega
theorem z_Fm_22 {y : q_W} {w : Int32} : z_Fm y (q_wr y 32 22 w) := ⟨rfl, fun q hq => z_wrp (by omega), fun j _ _ _ j4 => z_wr2 (Or.inr j4)⟩
theorem z_tk_ch {p : Nat} (h : p < n) : z_tk n ch p = ch p := by simp [z_tk, h]
set_option maxHeartbeats 4000000 in
theorem z_reads (hn : n ≤ 18) : ∀ (k p b m : Nat) (O : List (Nat × Nat)) (V : List (z_LD D)) (bh : Bool) (x : q_W) (v : Nat → z_LD D), p ≤ n → n + 1 < p + k → z_Lo A n ch x v m p b O V bh → z_ok (f_Mo_reads_L30 z_E30 k x (zi n) (zi b) (if bh then 1 else 0) 1 (zi p)) (z_Po A n ch p (O, V, b, bh) x) := by
  intro k
  induction k with
  | zero => intro p b m O V bh x v h1 h2; omega
  | succ k ih =>
    intro p b m O V bh x v hp hk hLo
    by_cases hpn : p = n
    · subst hpn
      have e : f_Mo_reads_L30 z_E30 (k + 1) x (zi p) (zi b) (if bh then 1 else 0) 1 (zi p) = z_E30 x (if bh then 1 else 0) 1 := by
        simp only [f_Mo_reads_L30]
        rw [if_pos ((zi_le (by omega) (by omega)).mpr (Nat.le_refl _))]
      rw [e]
      exact z_reads_end hn hLo
    have hpn : p < n := by omega
    obtain ⟨k', rfl⟩ : ∃ k', k = k' + 1 := ⟨k - 1, by omega⟩
    obtain ⟨hM, l1, l2, l3, l4, l5, l6⟩ := id hLo
    obtain ⟨c1, c2, c3⟩ := l6 p hpn
    have htk := z_tk_ch (ch := ch) hpn
    obtain ⟨⟨g13, g18, g20, g22⟩, -⟩ := id hM
    have htb := z_tb_le (z_tk n ch) p
    rw [f_Mo_reads_L30]
    refine z_ok.neg (by rw [zi_le (by omega) (by omega)]; omega) (z_ok.neg z_10 ?_)
    refine z_ok.to (by rw [z_ld (by omega) (by omega), c1]) ?_
    cases bh with
    | false =>
      refine z_ok.neg (fun h => h rfl) ?_
      simp only [Bool.false_eq_true, if_false, Nat.add_zero] at l1
      rw [z_leafc (by omega)]
      simp only [Option.bind_some]
      have hkd := z_kd_lt (ch p)
      by_cases hle : z_leaf (ch p) = true
      · rw [if_pos hle]
        refine z_ok.neg (zi_neg (by omega)) ?_
        unfold f_Mo_reads_J67
        refine z_ok.neg z_10 ?_
        rw [z_leafc (by omega), if_pos hle]
        simp only [Option.bind_some]
        have h3 := z_nbn_le O
        obtain ⟨z, hz, hPt⟩ := z_part (kd := z_kd (ch p)) (nu := 0) (a := -1) (b := -1) g13 g20 (by omega) (by omega)
        refine z_ok.to hz ?_
        obtain ⟨w1, w2, w3, w4, w5⟩ := z_lf_T hle
        have hM2 := z_Mo_part (A := A) (O := O) (O0 := O) (V1 := V) (v := v) (c := ch p) (d := (z_lg A).1 (ch p)) g18 g22 hM.2.1 hM.2.2.1 hM.2.2.2.1 hM.2.2.2.2.1 hM.2.2.2.2.2.1 (show 0 < 20 by omega) (Or.inr ⟨hle, rfl⟩) (Or.inl ⟨hle, rfl, rfl, rfl⟩) hPt
        have hst : z_st (z_lg A) (z_tk n ch) (z_tb (z_tk n ch)) p (O, V, b, false) = some (O, (z_lg A).1 (ch p) :: V, b, true) := by
          simp [z_st, htk, hle]
        have hfm : z_Fm x z := ⟨hPt.1, fun q hq => hPt.2.1 q (by omega), fun j j1 _ j3 _ => hPt.2.2.1 j j1 j3⟩
        rw [zi_succ]
        refine z_Po_step hpn hst hfm (ih (p + 1) b (m + 1) O ((z_lg A).1 (ch p) :: V) true z (fun j => if j = m then (z_lg A).1 (ch p) else v j) (by omega) (by omega) ⟨?_, ?_, by omega, ?_, l4, l5, ?_⟩)
        · have e : z_tb (z_tk n ch) (p + 1) = z_tb (z_tk n ch) p := by simp [z_tb, htk, w1]
          rw [e]
          exact hM2
        · simp [l1]
        · simp only [z_nc, htk, w3, w4, or_self, if_false]; omega
        · rw [hPt.2.1 33 (by omega)]
          exact l6
      · rw [if_neg hle]
        refine z_ok.pos (by decide) ?_
        unfold f_Mo_reads_J67
        refine z_ok.pos rfl ?_
        by_cases h40 : ch p = 40
        · refine z_ok.neg (fun h => h (by rw [h40]; rfl)) ?_
          rw [g22, z_sto (show O.length < 18 by omega) (by omega)]
          simp only [Option.bind_some, q_let]
          generalize hy : q_wr (q_wr x 45 O.length 14) 32 22 ((q_wr x 45 O.length 14).2 32 22 + 1) = y
          have y1 : ∀ q, q ≠ 32 → q ≠ 45 → y.2 q = x.2 q := fun q q1 q2 => by rw [← hy, z_wrp q1, z_wrp q2]
          have y2 : ∀ j, j ≠ 22 → y.2 32 j = x.2 32 j := fun j hj => by rw [← hy, z_wr2 (Or.inr hj), z_wr2 (Or.inl (by omega))]
          have y3 : y.2 32 22 = zi (O.length + 1) := by rw [← hy, z_wr1, z_wr2 (Or.inl (by omega)), g22, zi_succ]
          have y4 : y.2 45 O.length = 14 := by rw [← hy, z_wr2 (Or.inl (by omega)), z_wr1]
          have y5 : ∀ j, j ≠ O.length → y.2 45 j = x.2 45 j := fun j hj => by rw [← hy, z_wr2 (Or.inl (by omega)), z_wr2 (Or.inr hj)]
          have hfm : z_Fm x y := ⟨by rw [← hy]; rfl, fun q hq => y1 q (by omega) (by omega), fun j _ _ _ j4 => y2 j j4⟩
          rw [zi_succ, zi_succ]
          by_cases hb : 5 ≤ b + 1
          · refine z_ok.pos ((zi_le (n := 5) (by omega) (by omega)).mpr hb) (z_Po_bad hpn ?_ hfm)
            simp [z_st, htk, h40, z_leaf]
            omega
          · refine z_ok.neg (fun h => hb ((zi_le (n := 5) (by omega) (by omega)).mp h)) ?_
            have hst : z_st (z_lg A) (z_tk n ch) (z_tb (z_tk n ch)) p (O, V, b, false) = some ((40, 0) :: O, V, b + 1, false) := by
              simp [z_st, htk, h40, z_leaf]
              omega
            refine z_Po_step hpn hst hfm (ih (p + 1) (b + 1) m ((40, 0) :: O) V false y v (by omega) (by omega) ⟨?_, ?_, by simp only [List.length_cons]; omega, ?_, ?_, by omega, ?_⟩)
            · have e : z_tb (z_tk n ch) (p + 1) = z_tb (z_tk n ch) p := by simp [z_tb, htk, h40, z_T]
              rw [e]
              exact z_Mo_push hM y1 (fun j _ j2 => y2 j j2) y3 ((y2 18 (by omega)).trans g18) y4 y5 (Or.inr rfl) (by omega) (Nat.le_refl _) (fun h => by cases h)
            · simp [z_nbn, l1, z_jn]
            · simp [z_nbr, z_nc, htk, h40, l3]
            · simp [z_nbr]; omega
            · rw [y1 33 (by omega) (by omega)]
              exact l6
        · refine z_ok.pos (fun h => h40 ((zi_eq (m := 40) (by omega) (by omega)).mp h)) ?_
          rw [z_prec (by omega)]
          simp only [Option.bind_some]
          by_cases hpr : z_pre (ch p) = true
          · rw [if_pos hpr]
            refine z_ok.neg (zi_neg (by omega)) ?_
            unfold f_Mo_reads_J146
            refine z_ok.neg z_10 ?_
            rw [z_prec (by omega), if_pos hpr]
            simp only [Option.bind_some, f_Mo_reads_J163]
            obtain ⟨y, hy, hPs⟩ := z_pushm (k := z_kd (ch p)) g22 g18 (by omega) hkd
            refine z_ok.to hy ?_
            have hop : z_op (ch p) = true := by simp [z_op, hpr]
            obtain ⟨-, -, t3⟩ := z_tight (x := x) (Or.inl hop)
            have hst : z_st (z_lg A) (z_tk n ch) (z_tb (z_tk n ch)) p (O, V, b, false) = some ((ch p, z_tb (z_tk n ch) p) :: O, V, b, false) := by
              simp [z_st, htk, hle, h40, hpr]
            obtain ⟨w2, w3, w4, w5⟩ := z_pr_T hpr
            have e : z_tb (z_tk n ch) (p + 1) = z_tb (z_tk n ch) p + (if 6 ≤ z_kd (ch p) ∧ z_kd (ch p) ≤ 10 then 1 else 0) := by
              simp only [z_tb, htk, t3]
            have hjn := z_pre_jn hpr
            rw [zi_succ]
            refine z_Po_step hpn hst (z_Ps_fm hPs) (ih (p + 1) b m ((ch p, z_tb (z_tk n ch) p) :: O) V false y v (by omega) (by omega) ⟨?_, ?_, by simp only [List.length_cons]; omega, ?_, ?_, by omega, ?_⟩)
            · rw [e]
              exact z_Mo_push hM hPs.2.1 hPs.2.2.1 hPs.2.2.2.1 hPs.2.2.2.2.1 hPs.2.2.2.2.2.1 hPs.2.2.2.2.2.2 (Or.inl hop) (by omega) (by omega) (fun h => by rw [if_pos (t3.mp h)]; omega)
            · simp [z_nbn, l1, hjn]
            · simp only [z_nbr, z_nc, htk, w3, w4, or_self, if_false]; omega
            · simp only [z_nbr, w3, if_false, List.length_cons]; omega
            · rw [hPs.2.1 33 (by omega) (by omega)]
              exact l6
          · rw [if_neg hpr]
            refine z_ok.pos (by decide) ?_
            unfold f_Mo_reads_J146
            refine z_ok.pos rfl ?_
            unfold f_Mo_reads_J163
            obtain ⟨y, hy, hPs⟩ := z_pushm (k := 5) g22 g18 (by omega) (by omega)
            refine z_ok.to hy (z_Po_bad hpn ?_ (z_Ps_fm hPs))
            simp [z_st, htk, hle, h40, hpr]
    | true =>
      refine z_ok.pos (by decide) ?_
      obtain ⟨q1, q2, q3⟩ := z_Lo_V hLo
      by_cases h41 : ch p = 41
      · refine z_ok.neg (fun h => h (by rw [h41]; rfl)) ?_
        refine z_ok.bind (z_settle (A := A) (t := 1) (by omega) (by omega) q_fu O V x v m (by simp only [q_fu]; omega) hM q3 (by omega) (by omega)) (fun y hy => ?_)
        obtain ⟨f1, v', m', s1, s2, s3, s4⟩ := hy
        rcases hse : z_se (z_lg A) 1 O V with ⟨O1, V1⟩
        rw [hse] at s1 s2 s3 s4
        simp only at s1 s2 s3 s4
        obtain ⟨⟨k13, k18, k20, k22⟩, kOp, -⟩ := id s1
        match O1, hse, s1, s2, s3, s4, k22, kOp with
        | [], hse, s1, s2, s3, s4, k22, _ =>
          refine z_ok.pos (by rw [k22]; decide) ?_
          unfold f_Mo_reads_J193
          refine z_ok.pos rfl ?_
          unfold f_Mo_reads_J211
          refine z_ok.let (z_Po_bad hpn ?_ (z_Fm_tr f1 z_Fm_22))
          simp [z_st, htk, h41, hse]
        | (c, i) :: O2, hse, s1, s2, s3, s4, k22, kOp =>
          have hti := z_se_stop hse
          obtain rfl : c = 40 := by
            rcases kOp.1.2.1 with h | h
            · exfalso
              rcases z_op_c h with rfl | rfl | rfl | rfl | rfl | rfl | rfl | rfl | rfl <;> revert hti <;> decide
            · exact h
          simp only [List.length_cons, z_nbr, z_nbn, if_true, show ¬ z_jn 40 < 4 by decide, if_false, Nat.zero_add] at s2 s3 s4 k22
          refine z_ok.neg (by rw [k22, show (0 : Int32) = zi 0 from rfl, zi_le (by omega) (by omega)]; omega) ?_
          unfold f_Mo_reads_J193
          refine z_ok.neg z_10 ?_
          unfold f_Mo_reads_J211
          rw [k22, zi_pred (by omega), Nat.add_sub_cancel, zi_succ]
          refine z_ok.let ?_
          have hst : z_st (z_lg A) (z_tk n ch) (z_tb (z_tk n ch)) p (O, V, b, true) = some (O2, V1, b - 1, true) := by
            simp [z_st, htk, h41, hse]
          have hnb := z_nbr_le O2
          have eb : zi b + (-1) = zi (b - 1) := by
            rw [← zi_pred (by omega), Int32.sub_eq_add_neg]
          rw [eb]
          refine z_Po_step hpn hst (z_Fm_tr f1 z_Fm_22) (ih (p + 1) (b - 1) m' O2 V1 true (q_wr y 32 22 (zi O2.length)) v' (by omega) (by omega) ⟨?_, ?_, by omega, ?_, by omega, by omega, ?_⟩)
          · have e : z_tb (z_tk n ch) (p + 1) = z_tb (z_tk n ch) p := by simp [z_tb, htk, h41, z_T]
            rw [e]
            exact z_Mo_pop s1 rfl
          · simp only [if_true]; omega
          · simp only [z_nc, htk, h41]; simp; omega
          · rw [z_wrp (by omega), f1.2.1 33 (by omega)]
            exact l6
      · refine z_ok.pos (fun h => h41 ((zi_eq (m := 41) (by omega) (by omega)).mp h)) ?_
        rw [z_signc (by omega)]
        simp only [Option.bind_some]
        have hkd := z_kd_lt (ch p)
        by_cases hj : z_jn (ch p) < 4
        · rw [if_pos hj]
          refine z_ok.neg (zi_neg (by omega)) ?_
          have key : f_Mo_reads_J237 (f_Mo_reads_L30 z_E30 (k' + 1)) z_E30 x (zi n) (zi b) (zi p) (zi (z_kd (ch p))) 1 = f_Mo_reads_J270 (f_Mo_reads_L30 z_E30 (k' + 1)) z_E30 x (zi n) (zi b) 1 (zi p) (zi (z_kd (ch p))) (zi (z_sh (ch p))) := by
            rcases z_jn_c rfl hj with ⟨-, e⟩ | ⟨-, e⟩ | ⟨-, e⟩ | ⟨-, e | e⟩ <;> rw [e] <;> rfl
          rw [key]
          unfold f_Mo_reads_J270
          have hsh : 1 ≤ z_sh (ch p) ∧ z_sh (ch p) ≤ 5 := by
            rcases z_jn_c rfl hj with ⟨-, e⟩ | ⟨-, e⟩ | ⟨-, e⟩ | ⟨-, e | e⟩ <;> rw [e] <;> decide
          refine z_ok.bind (z_settle (A := A) (t := z_sh (ch p)) hsh.1 hsh.2 q_fu O V x v m (by simp only [q_fu]; omega) hM q3 (by omega) (by omega)) (fun y hy => ?_)
          obtain ⟨f1, v', m', s1, s2, s3, s4⟩ := hy
          refine z_ok.neg z_10 ?_
          unfold f_Mo_reads_J285
          obtain ⟨⟨k13, k18, k20, k22⟩, -⟩ := id s1
          obtain ⟨z, hz, hPs⟩ := z_pushm (k := z_kd (ch p)) k22 k18 (by omega) hkd
          refine z_ok.to hz ?_
          have hop : z_op (ch p) = true := by simp [z_op, hj]
          obtain ⟨-, -, t3⟩ := z_tight (x := x) (Or.inl hop)
          obtain ⟨w2, w3, w4, w5⟩ := z_jn_T hj
          have hst : z_st (z_lg A) (z_tk n ch) (z_tb (z_tk n ch)) p (O, V, b, true) = some ((ch p, z_tb (z_tk n ch) p) :: (z_se (z_lg A) (z_sh (ch p)) O V).1, (z_se (z_lg A) (z_sh (ch p)) O V).2, b, false) := by
            simp [z_st, htk, h41, hj]
          have e : z_tb (z_tk n ch) (p + 1) = z_tb (z_tk n ch) p + (if 6 ≤ z_kd (ch p) ∧ z_kd (ch p) ≤ 10 then 1 else 0) := by
            simp only [z_tb, htk, t3]
          rw [zi_succ]
          refine z_Po_step hpn hst (z_Fm_tr f1 (z_Ps_fm hPs)) (ih (p + 1) b m' ((ch p, z_tb (z_tk n ch) p) :: (z_se (z_lg A) (z_sh (ch p)) O V).1) (z_se (z_lg A) (z_sh (ch p)) O V).2 false z v' (by omega) (by omega) ⟨?_, ?_, by simp only [List.length_cons]; omega, ?_, ?_, by omega, ?_⟩)
          · rw [e]
            exact z_Mo_push s1 hPs.2.1 hPs.2.2.1 hPs.2.2.2.1 hPs.2.2.2.2.1 hPs.2.2.2.2.2.1 hPs.2.2.2.2.2.2 (Or.inl hop) (by omega) (by omega) (fun h => by rw [if_pos (t3.mp h)]; omega)
          · simp [z_nbn, hj, s4]; omega
          · simp only [z_nbr, z_nc, htk, w3, w4, or_self, if_false]; omega
          · simp only [z_nbr, w3, if_false, List.length_cons]; omega
          · rw [hPs.2.1 33 (by omega) (by omega), f1.2.1 33 (by omega)]
            exact l6
        · rw [if_neg hj]
          refine z_ok.pos (by decide) ?_
          have key : f_Mo_reads_J237 (f_Mo_reads_L30 z_E30 (k' + 1)) z_E30 x (zi n) (zi b) (zi p) (-1) 0 = f_Mo_reads_J270 (f_Mo_reads_L30 z_E30 (k' + 1)) z_E30 x (zi n) (zi b) 0 (zi p) (-1) (zi 5) := rfl
          rw [key]
          unfold f_Mo_reads_J270
          refine z_ok.bind (z_settle (A := A) (t := 5) (by omega) (by omega) q_fu O V x v m (by simp only [q_fu]; omega) hM q3 (by omega) (by omega)) (fun y hy => ?_)
          obtain ⟨f1, v', m', s1, s2, s3, s4⟩ := hy
          refine z_ok.pos rfl ?_
          unfold f_Mo_reads_J285
          obtain ⟨⟨k13, k18, k20, k22⟩, -⟩ := id s1
          obtain ⟨z, hz, hPs⟩ := z_pushm (k := 5) k22 k18 (by omega) (by omega)
          refine z_ok.to hz (z_Po_bad hpn ?_ (z_Fm_tr f1 (z_Ps_fm hPs)))
          simp [z_st, htk, h41, hj]
end ZM
