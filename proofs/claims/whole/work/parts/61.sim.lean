section ZQ
variable {D : Type} (A : z_A D) (tok tb : Nat → Nat)
set_option maxHeartbeats 4000000 in
theorem z_sim (hA : z_as A) {n : Nat} (hn : ∀ p, n ≤ p → tok p = 0) : ∀ (k tag L b p : Nat) (r : Option D × Nat), tag ≤ 2 → L ≤ 4 → p ≤ n → z_pd A tok tb k tag L b p = some r → z_Ok A tok tb n tag L b p r := by
  intro k
  have hlt : ∀ q, tok q ≠ 0 → q < n := fun q h => Nat.lt_of_not_le fun h' => h (hn q h')
  induction k with
  | zero => intro tag L b p r _ _ _ h; cases h
  | succ k ih =>
    intro tag L b p r hT hL hp h
    match tag, hT, h with
    | 0, _, h =>
      by_cases h4 : 4 ≤ L
      · have hL4 : L = 4 := by omega
        subst hL4
        have h' : z_pd A tok tb k 1 0 b p = some r := by simpa [z_pd] using h
        intro O V _
        have hok := ih 1 0 b p r (by omega) (by omega) hp h' O V (fun e => by cases e)
        obtain ⟨r1, r2⟩ := r
        cases r1 with
        | none => exact hok
        | some v =>
          obtain ⟨a1, a2, a3, O1, V1, a4, a5⟩ := hok
          exact ⟨a1, a2, fun _ l h1 h2 => by omega, O1, V1, a4, fun t t1 t2 => a5 t t1 t2⟩
      · simp only [z_pd, h4, if_false] at h
        cases hq : z_pd A tok tb k 0 (L + 1) b p with
        | none => rw [hq] at h; cases h
        | some q =>
          rw [hq] at h
          simp only [Option.bind_some] at h
          intro O V hC
          have hC := hC rfl
          have hok := ih 0 (L + 1) b p q (by omega) (by omega) hp hq O V (fun _ => z_C_up hC)
          obtain ⟨q1, q2⟩ := q
          cases q1 with
          | none =>
            simp only [Option.some.injEq] at h
            subst h
            exact hok
          | some v =>
            obtain ⟨a1, a2, a3, O1, V1, a4, a5⟩ := hok
            simp only [if_true, show ¬ (0 = 2) by decide, if_false] at a1 a2 a3 a4 a5 h ⊢
            have a3 := a3 trivial
            by_cases hj : z_jn (tok q2) = L
            · rw [if_pos hj] at h
              have hq2 : q2 < n := hlt q2 (fun e => by rw [e] at hj; have : z_jn 0 = 9 := rfl; omega)
              cases hw : z_pd A tok tb k 0 L b (q2 + 1) with
              | none => rw [hw] at h; cases h
              | some w =>
                rw [hw] at h
                simp only [Option.bind_some] at h
                have hsh : z_sh (tok q2) ≤ z_th (L + 1) ∧ 1 ≤ z_sh (tok q2) ∧ tok q2 ≠ 41 := by
                  rcases z_jn_c hj (by omega) with ⟨rfl, e⟩ | ⟨rfl, e⟩ | ⟨rfl, e⟩ | ⟨rfl, e | e⟩ <;> rw [e] <;> decide
                have hstep : z_st A tok tb q2 (O1, V1, b, true) = some ((tok q2, tb q2) :: (z_se A (z_sh (tok q2)) O (v :: V)).1, (z_se A (z_sh (tok q2)) O (v :: V)).2, b, false) := by
                  simp only [z_st, if_true]
                  rw [if_neg hsh.2.2, if_pos (by omega), a5 _ hsh.2.1 hsh.1]
                obtain ⟨c1, c2⟩ := z_push A hA (i := tb q2) (v := v) (V := V) hj (by omega) hC
                have hok2 := ih 0 L b (q2 + 1) w (by omega) hL (by omega) hw _ (z_se A (z_sh (tok q2)) O (v :: V)).2 (fun _ => c1)
                obtain ⟨w1, w2⟩ := w
                cases w1 with
                | none =>
                  simp only [Option.some.injEq] at h
                  subst h
                  intro S hS
                  simp only [show ¬ (0 = 2) by decide, if_false] at hS hok2
                  rw [z_run_split A tok tb (q := q2) (m := n - q2) (by omega) (by omega), a4] at hS
                  simp only [Option.bind_some] at hS
                  rw [z_run_one A tok tb hq2, hstep] at hS
                  exact hok2 S hS
                | some u =>
                  obtain ⟨e1, e2, e3, O3, V3, e4, e5⟩ := hok2
                  simp only [Option.some.injEq] at h
                  subst h
                  simp only [if_true, show ¬ (0 = 2) by decide, if_false] at e1 e2 e3 e4 e5 ⊢
                  refine ⟨by omega, e2, e3, O3, V3, ?_, fun t t1 t2 => ?_⟩
                  · rw [z_run_split A tok tb (n := w2) (q := q2) (m := w2 - q2) (by omega) (by omega), a4]
                    simp only [Option.bind_some]
                    rw [z_run_one A tok tb (by omega), hstep]
                    exact e4
                  · rw [e5 t t1 t2]
                    exact c2 u t t1 t2
            · rw [if_neg hj] at h
              simp only [Option.some.injEq] at h
              subst h
              refine ⟨a1, a2, fun _ l h1 h2 => ?_, O1, V1, a4, fun t t1 t2 => a5 t t1 ?_⟩
              · by_cases hl : l = L
                · subst hl; exact hj
                · exact a3 l (by omega) h2
              · unfold z_th at t2 ⊢; omega
    | 1, _, h =>
      intro O V _
      simp only [z_pd] at h
      by_cases hle : z_leaf (tok p) = true
      · rw [if_pos hle] at h
        simp only [Option.some.injEq] at h
        subst h
        have hpn := hlt p (z_leaf0 hle)
        refine ⟨Nat.lt_succ_self p, hpn, fun e => (by cases e), O, A.1 (tok p) :: V, ?_, fun t _ _ => rfl⟩
        rw [show p + 1 - p = 0 + 1 by omega]
        simp [z_run, z_st, hle]
      · rw [if_neg hle] at h
        have hle' : z_leaf (tok p) = false := by simpa using hle
        by_cases hpr : z_pre (tok p) = true
        · rw [if_pos hpr] at h
          obtain ⟨p0, p40, -, p5⟩ := z_pre_v hpr
          have hpn := hlt p p0
          have hstep : z_st A tok tb p (O, V, b, false) = some ((tok p, tb p) :: O, V, b, false) := by
            simp [z_st, hle', p40, hpr]
          cases hq : z_pd A tok tb k 1 0 b (p + 1) with
          | none => rw [hq] at h; cases h
          | some q =>
            rw [hq] at h
            simp only [Option.bind_some] at h
            have hok := ih 1 0 b (p + 1) q (by omega) (by omega) (by omega) hq ((tok p, tb p) :: O) V (fun e => by cases e)
            obtain ⟨q1, q2⟩ := q
            cases q1 with
            | none =>
              simp only [Option.some.injEq] at h
              subst h
              intro S hS
              simp only [show ¬ (1 = 2) by decide, if_false] at hS hok
              rw [z_run_one A tok tb hpn, hstep] at hS
              exact hok S hS
            | some v =>
              obtain ⟨a1, a2, a3, O1, V1, a4, a5⟩ := hok
              simp only [Option.some.injEq] at h
              subst h
              simp only [show ¬ (1 = 2) by decide, show ¬ (1 = 0) by decide, if_false] at a1 a2 a3 a4 a5 ⊢
              refine ⟨by omega, a2, fun e => (by cases e), O1, V1, ?_, fun t t1 t2 => ?_⟩
              · rw [z_run_one A tok tb (by omega), hstep]
                exact a4
              · rw [a5 t t1 t2, z_se_ge A (by omega)]
                simp [z_app, hpr]
        · rw [if_neg hpr] at h
          have hpr' : z_pre (tok p) = false := by simpa using hpr
          by_cases h40 : tok p = 40
          · rw [if_pos h40] at h
            have hpn := hlt p (by rw [h40]; decide)
            by_cases hb : 4 ≤ b
            · rw [if_pos hb] at h
              simp only [Option.some.injEq] at h
              subst h
              intro S hS
              simp only [show ¬ (1 = 2) by decide, if_false] at hS
              rw [z_run_one A tok tb hpn] at hS
              have hstep : z_st A tok tb p (O, V, b, false) = none := by
                simp only [z_st, hle', h40]
                simp [z_leaf]
                omega
              rw [hstep] at hS
              cases hS
            · rw [if_neg hb] at h
              have hstep : z_st A tok tb p (O, V, b, false) = some ((40, 0) :: O, V, b + 1, false) := by
                simp only [z_st, hle', h40]
                simp [z_leaf]
                omega
              have hok := ih 2 0 (b + 1) (p + 1) r (by omega) (by omega) (by omega) h O V (fun e => by cases e)
              obtain ⟨r1, r2⟩ := r
              cases r1 with
              | none =>
                intro S hS
                simp only [show ¬ (1 = 2) by decide, if_false] at hS
                simp only [if_true] at hok
                rw [z_run_one A tok tb hpn, hstep] at hS
                exact hok S hS
              | some v =>
                obtain ⟨a1, a2, a3, O1, V1, a4, a5⟩ := hok
                simp only [show ¬ (1 = 2) by decide, show ¬ (1 = 0) by decide, show ¬ (2 = 0) by decide, if_true, if_false, Nat.add_sub_cancel] at a1 a2 a3 a4 a5 ⊢
                refine ⟨by omega, a2, fun e => (by cases e), O1, V1, ?_, a5⟩
                rw [z_run_one A tok tb (by omega), hstep]
                exact a4
          · rw [if_neg h40] at h
            simp only [Option.some.injEq] at h
            subst h
            intro S hS
            simp only [show ¬ (1 = 2) by decide, if_false] at hS
            by_cases hpn : p < n
            · rw [z_run_one A tok tb hpn] at hS
              have hstep : z_st A tok tb p (O, V, b, false) = none := by
                simp [z_st, hle', h40, hpr']
              rw [hstep] at hS
              cases hS
            · rw [show n - p = 0 by omega] at hS
              simp only [z_run, Option.some.injEq] at hS
              subst hS
              rintro ⟨h1, -⟩
              cases h1
    | tag + 2, hT, h =>
      obtain rfl : tag = 0 := by omega
      intro O V _
      simp only [z_pd] at h
      cases hq : z_pd A tok tb k 0 0 b p with
      | none => rw [hq] at h; cases h
      | some q =>
        rw [hq] at h
        simp only [Option.bind_some] at h
        have hok := ih 0 0 b p q (by omega) (by omega) hp hq ((40, 0) :: O) V (fun _ => Or.inl (by decide))
        obtain ⟨q1, q2⟩ := q
        have h40 : ∀ t, 1 ≤ t → ∀ W : List D, z_se A t ((40, 0) :: O) W = ((40, 0) :: O, W) := fun t ht W => z_se_lt A (Nat.lt_of_lt_of_le (show z_ti 40 < 1 by decide) ht)
        cases q1 with
        | none =>
          have hr : r.1 = none := by
            split at h <;> (simp only [Option.some.injEq] at h; rw [← h])
          obtain ⟨r1, r2⟩ := r
          simp only at hr
          subst hr
          intro S hS
          exact hok S hS
        | some v =>
          obtain ⟨a1, a2, a3, O1, V1, a4, a5⟩ := hok
          have a3 := a3 rfl
          have a5 : z_se A 1 O1 V1 = ((40, 0) :: O, v :: V) := by
            rw [a5 1 (Nat.le_refl _) (by decide), h40 1 (Nat.le_refl _)]
          simp only [show ¬ (0 = 2) by decide, if_false] at a1 a2 a3 a4 h
          by_cases h41 : tok q2 = 41
          · rw [if_pos h41] at h
            simp only [Option.some.injEq] at h
            subst h
            have hq2 := hlt q2 (by rw [h41]; decide)
            refine ⟨by simp only; omega, hq2, fun e => (by cases e), O, v :: V, ?_, fun t _ _ => rfl⟩
            simp only [if_true]
            rw [z_run_split A tok tb (n := q2 + 1) (q := q2) (m := 1) (by omega) (by omega), a4]
            simp only [Option.bind_some, z_run]
            simp only [z_st, if_true, h41, a5]
            rfl
          · rw [if_neg h41] at h
            simp only [Option.some.injEq] at h
            subst h
            intro S hS
            simp only [if_true] at hS
            rw [z_run_split A tok tb (q := q2) (m := n - q2) (by omega) (by omega), a4] at hS
            simp only [Option.bind_some] at hS
            by_cases hq2 : q2 < n
            · rw [z_run_one A tok tb hq2] at hS
              have hj : ¬ z_jn (tok q2) < 4 := fun h4 => a3 _ (Nat.zero_le _) h4 rfl
              have hstep : z_st A tok tb q2 (O1, V1, b, true) = none := by
                simp only [z_st, if_true]
                rw [if_neg h41, if_neg hj]
              rw [hstep] at hS
              cases hS
            · rw [show n - q2 = 0 by omega] at hS
              simp only [z_run, Option.some.injEq] at hS
              subst hS
              rintro ⟨-, h2⟩
              simp only [a5] at h2
              cases h2
end ZQ
