/-! THE WALK TAKEN FOR THE WORD. -/
section ZC
variable {c d : Nat} {x : q_W}
theorem z_takeL {q l : Nat} {row : Nat → Nat} (hql : q + l ≤ 16) : ∀ (n i : Nat) (x : q_W), i ≤ q + l → q + l < i + n → (x.2 14 1 = zi q ∧ x.2 14 2 = zi l) → (∀ i, i < q + l → x.2 12 i = zi (row i) ∧ row i < 256) → ∃ y, f_Gw_take_L14 n x (zi i) = some y ∧ z_only (· = 15) x y ∧ (∀ j, i ≤ j → j < q + l → y.2 15 j = zi (row j % 8)) ∧ ∀ j, (j < i ∨ q + l ≤ j) → y.2 15 j = x.2 15 j := by
  intro n
  induction n with
  | zero => intro i x h1 h2; omega
  | succ n ih =>
    intro i x h1 h2 h14 h12
    simp only [f_Gw_take_L14, f_Gw_size]
    simp only [Option.bind_some]
    rw [h14.1, h14.2, zi_add]
    by_cases hi : i = q + l
    · subst hi
      rw [if_pos (by rw [zi_le (by omega) (by omega)]; omega)]
      exact ⟨x, rfl, z_only_rf, fun j a b => by omega, fun _ _ => rfl⟩
    · rw [if_neg (by rw [zi_le (by omega) (by omega)]; omega)]
      unfold f_Wa_stateAt
      rw [z_ld (show i < 1281 by omega) (by omega), (h12 i (by omega)).1]
      simp only [Option.bind_some]
      rw [z_and7n _ (h12 i (by omega)).2, z_sto (show i < 16 by omega) (by omega)]
      simp only [Option.bind_some, zi_succ]
      obtain ⟨y, y1, y2, y3, y4⟩ := ih (i + 1) (q_wr x 15 i (zi (row i % 8))) (by omega) (by omega) (by rw [z_wrp (by omega)]; exact h14) (fun j hj => by rw [z_wrp (by omega)]; exact h12 j hj)
      refine ⟨y, y1, z_only_tr (z_only_wr rfl) y2, fun j a b => ?_, fun j hj => ?_⟩
      · by_cases hji : j = i
        · subst hji; rw [y4 j (by omega), z_wr1]
        · exact y3 j (by omega) b
      · rw [y4 j (by omega), z_wr2 (Or.inr (by omega))]
theorem z_adoL {q l : Nat} {row : Nat → Nat} (hql : q + l ≤ 16) : ∀ (n i : Nat) (x : q_W), i ≤ 16 → 16 < i + n → (x.2 32 32 = zi q ∧ x.2 32 33 = zi l) → (∀ i, i < q + l → x.2 55 i = zi (row i) ∧ row i < 256) → ∃ y, f_Mo_adopt_L53 n x (zi i) = some (1, y) ∧ z_only (· = 57) x y ∧ (∀ j, i ≤ j → j < 16 → y.2 57 j = zi (if j < q + l then row j % 8 else 0)) ∧ ∀ j, j < i → y.2 57 j = x.2 57 j := by
  intro n
  induction n with
  | zero => intro i x h1 h2; omega
  | succ n ih =>
    intro i x h1 h2 h32 h55
    simp only [f_Mo_adopt_L53]
    by_cases hi : i = 16
    · subst hi
      rw [if_pos (by decide)]
      exact ⟨x, rfl, z_only_rf, fun j a b => by omega, fun _ _ => rfl⟩
    · rw [if_neg (by rw [show (16 : Int32) = zi 16 from rfl, zi_le (by omega) (by omega)]; omega), h32.1, h32.2, zi_add, z_sto (show i < 16 by omega) (by omega)]
      simp only [Option.bind_some, zi_succ]
      have go : ∀ b : Nat, b = (if i < q + l then row i % 8 else 0) → ∃ y, f_Mo_adopt_L53 n (q_wr x 57 i (zi b)) (zi (i + 1)) = some (1, y) ∧ z_only (· = 57) x y ∧ (∀ j, i ≤ j → j < 16 → y.2 57 j = zi (if j < q + l then row j % 8 else 0)) ∧ ∀ j, j < i → y.2 57 j = x.2 57 j := by
        intro b hb
        obtain ⟨y, y1, y2, y3, y4⟩ := ih (i + 1) (q_wr x 57 i (zi b)) (by omega) (by omega) (by rw [z_wrp (by omega)]; exact h32) (fun j hj => by rw [z_wrp (by omega)]; exact h55 j hj)
        refine ⟨y, y1, z_only_tr (z_only_wr rfl) y2, fun j a b' => ?_, fun j hj => ?_⟩
        · by_cases hji : j = i
          · subst hji; rw [y4 j (by omega), z_wr1, hb]
          · exact y3 j (by omega) b'
        · rw [y4 j (by omega), z_wr2 (Or.inr (by omega))]
      by_cases hlt : i < q + l
      · rw [if_neg (by rw [zi_le (by omega) (by omega)]; omega), z_ld (show i < 1280 by omega) (by omega), (h55 i hlt).1]
        simp only [Option.bind_some]
        rw [z_and7n _ (h55 i hlt).2, z_sto (show i < 16 by omega) (by omega)]
        simp only [Option.bind_some]
        exact go (row i % 8) (by rw [if_pos hlt])
      · rw [if_pos (by rw [zi_le (by omega) (by omega)]; omega)]
        exact go 0 (by rw [if_neg hlt])
theorem z_c_adopt (h : z_Rel c d x) : z_CaB c d (f_Lw_adopt c d x) f_Mo_adopt := by
  rcases h.2.2.1 with ⟨h1, h2⟩ | ⟨h1, h2, s, t, pr, W, kp, op, wh, S, F, hM, hS⟩
  · refine ⟨1, x, 0, q_wr x 32 0 1, ?_, ?_, z_wr1, fun h => absurd h z_10, z_Rel_thr h⟩
    · unfold f_Lw_adopt f_D_adopt
      rw [z_rq0 h1]
      rfl
    · unfold f_Mo_adopt
      rw [z_ref0 h2]
      rfl
  · obtain ⟨y, y1, y2, y3, y4, y5⟩ := z_Rel_set h h1 h2 hM hS
    have no : f_D_adopt c d x = some (.inl 0, y) → f_Mo_adopt (0, y.2) = some (0, q_wr (0, y.2) 32 0 0) → z_CaB c d (f_Lw_adopt c d x) f_Mo_adopt := by
      intro e1 e2
      refine ⟨0, (0, y.2), 0, q_wr (0, y.2) 32 0 0, ?_, e2, z_wr1, fun _ => rfl, z_Rel_thr (z_Rel_ans y2)⟩
      unfold f_Lw_adopt
      rw [e1]
      rfl
    rcases z_two y4 y5 with ⟨u1, u2, u3, u4⟩ | ⟨q, l, row, u1, u2, u3, u4, u5, u6, u7⟩
    · refine no ?_ ?_
      · unfold f_D_adopt f_Wa_exists
        rw [z_rq1 h1]
        simp only [q_tp]
        rw [y1]
        simp only [Option.bind_some]
        rw [u1]
        rfl
      · unfold f_Mo_adopt
        rw [z_ref1 (x := (0, y.2)) y3 z_10]
        simp only [Option.bind_some]
        rw [if_neg (by simp), z_wr2 (Or.inr (by omega))]
        have e32 : (((0 : Int64), y.2) : q_W).2 32 32 = -1 := u3
        rw [e32, if_pos (by decide)]
        rfl
    · have hex : f_Wa_exists y = some 1 := by
        unfold f_Wa_exists
        rw [u1, if_neg (zi_m1 (by omega))]
        rfl
      have hD : f_D_adopt c d x = (f_Gw_fits y (zi q) (zi l)).bind fun w7 => if ¬ w7 = 0 then (f_Gw_take y).bind fun x8 => some (.inl (q_nb 1), x8) else some (.inl (q_nb 0), y) := by
        unfold f_D_adopt f_Wa_stemLength f_Wa_loopLength
        rw [z_rq1 h1]
        simp only [q_tp]
        rw [y1]
        simp only [Option.bind_some]
        rw [hex]
        simp only [Option.bind_some]
        rw [if_neg z_10, u1, u2]
      have hMo : ∀ a : Int64, f_Mo_adopt (a, y.2) = (if 8 < zi q then some ((q_nb 0), q_wr (a, y.2) 32 0 0) else if zi l ≤ 8 then f_Mo_adopt_L53 q_fu (q_wr (q_wr (q_wr (a, y.2) 32 0 0) 32 36 (zi q)) 32 37 (zi l)) 0 else some ((q_nb 0), q_wr (a, y.2) 32 0 0)) := by
        intro a
        unfold f_Mo_adopt
        rw [z_ref1 (x := (a, y.2)) y3 z_10]
        simp only [Option.bind_some]
        have e32 : (q_wr (a, y.2) 32 0 0).2 32 32 = zi q := (z_wr2 (Or.inr (by omega))).trans u3
        have e33 : (q_wr (a, y.2) 32 0 0).2 32 33 = zi l := (z_wr2 (Or.inr (by omega))).trans u4
        rw [if_neg (by simp), e32, e33, if_neg (zi_neg (by omega))]
        simp only [q_let]
        rw [z_wr2 (Or.inr (by omega)), e33]
      by_cases hq8 : 8 < q
      · refine no ?_ ?_
        · rw [hD]
          unfold f_Gw_fits
          rw [if_neg (zi_neg (by omega)), if_pos (by rw [show (8 : Int32) = zi 8 from rfl, zi_lt (by omega) (by omega)]; exact hq8)]
          rfl
        · rw [hMo, if_pos (by rw [show (8 : Int32) = zi 8 from rfl, zi_lt (by omega) (by omega)]; exact hq8)]
          rfl
      · have hq8' : ¬ (8 : Int32) < zi q := by rw [show (8 : Int32) = zi 8 from rfl, zi_lt (by omega) (by omega)]; exact hq8
        by_cases hl8 : 8 < l
        · refine no ?_ ?_
          · rw [hD]
            unfold f_Gw_fits
            rw [if_neg (zi_neg (by omega)), if_neg hq8', if_neg (by rw [show (1 : Int32) = zi 1 from rfl, zi_lt (by omega) (by omega)]; omega), if_pos (by rw [show (8 : Int32) = zi 8 from rfl, zi_lt (by omega) (by omega)]; exact hl8)]
            rfl
          · rw [hMo, if_neg hq8', if_neg (by rw [show (8 : Int32) = zi 8 from rfl, zi_le (by omega) (by omega)]; omega)]
            rfl
        · -- the class's word
          generalize hx1 : q_wr (q_wr y 14 1 (zi q)) 14 2 (zi l) = x1
          obtain ⟨z, z1, z2, z3, z4⟩ := z_zeroC q_fu (q + l) x1 (by omega) (by simp only [q_fu]; omega)
          have z14 : z.2 14 1 = zi q ∧ z.2 14 2 = zi l := by
            rw [z2.2 14 (by omega), ← hx1, z_wr2 (Or.inr (by omega)), z_wr1, z_wr1]
            exact ⟨rfl, rfl⟩
          have zy : ∀ k, k ≠ 14 → k ≠ 15 → z.2 k = y.2 k := fun k k1 k2 => by rw [z2.2 k k2, ← hx1, z_wrp k1, z_wrp k1]
          obtain ⟨w, w1, w2, w3, w4⟩ := z_takeL (q := q) (l := l) (row := row) (by omega) q_fu 0 z (by omega) (by simp only [q_fu]; omega) z14 (fun i hi => by rw [zy 12 (by omega) (by omega)]; exact ⟨(u7 i hi).1, (u7 i hi).2.2⟩)
          have eT : f_Gw_take y = some w := by
            unfold f_Gw_take f_Wa_stemLength f_Wa_loopLength f_Gw_reshape f_Gw_size
            simp only [Option.bind_some, q_let]
            rw [u1, u2, hx1, show x1.2 14 1 + x1.2 14 2 = zi (q + l) by rw [← hx1, z_wr2 (Or.inr (by omega)), z_wr1, z_wr1, zi_add], z1]
            rw [Option.bind_some]
            exact w1
          have eD : f_D_adopt c d x = some (.inl 1, w) := by
            rw [hD]
            unfold f_Gw_fits
            rw [if_neg (zi_neg (by omega)), if_neg hq8', if_neg (by rw [show (1 : Int32) = zi 1 from rfl, zi_lt (by omega) (by omega)]; omega), if_neg (by rw [show (8 : Int32) = zi 8 from rfl, zi_lt (by omega) (by omega)]; exact hl8)]
            simp only [Option.bind_some]
            rw [if_pos (show ¬ q_nb 1 = 0 from z_10), eT]
            rfl
          have wy : ∀ k, k ≠ 14 → k ≠ 15 → w.2 k = y.2 k := fun k k1 k2 => by rw [w2.2 k k2, zy k k1 k2]
          have w15 : ∀ i, i < 16 → w.2 15 i = zi (if i < q + l then row i % 8 else 0) := fun i hi => by
            by_cases hlt : i < q + l
            · rw [if_pos hlt, w3 i (by omega) hlt]
            · rw [if_neg hlt, w4 i (by omega), z3 i (by omega) hi]; rfl
          have w14 : w.2 14 1 = zi q ∧ w.2 14 2 = zi l := by rw [w2.2 14 (by omega)]; exact z14
          -- the reference's
          have hMo' : f_Mo_adopt (1, w.2) = f_Mo_adopt_L53 q_fu (q_wr (q_wr (q_wr (1, w.2) 32 0 0) 32 36 (zi q)) 32 37 (zi l)) 0 := by
            unfold f_Mo_adopt
            have w3' : (((1 : Int64), w.2) : q_W).2 32 3 = 1 := by show w.2 32 3 = 1; rw [wy 32 (by omega) (by omega)]; exact y3
            rw [z_ref1 (x := (1, w.2)) w3' z_10]
            simp only [Option.bind_some]
            have e32 : (q_wr (1, w.2) 32 0 0).2 32 32 = zi q := (z_wr2 (Or.inr (by omega))).trans (by show w.2 32 32 = _; rw [wy 32 (by omega) (by omega)]; exact u3)
            have e33 : (q_wr (1, w.2) 32 0 0).2 32 33 = zi l := (z_wr2 (Or.inr (by omega))).trans (by show w.2 32 33 = _; rw [wy 32 (by omega) (by omega)]; exact u4)
            rw [if_neg (by simp), e32, e33, if_neg (zi_neg (by omega)), if_neg hq8', if_pos (by rw [show (8 : Int32) = zi 8 from rfl, zi_le (by omega) (by omega)]; omega)]
            simp only [q_let]
            rw [z_wr2 (Or.inr (by omega)), e33]
          generalize hx2 : q_wr (q_wr (q_wr (1, w.2) 32 0 0) 32 36 (zi q)) 32 37 (zi l) = x2 at hMo'
          have x2q : ∀ k, k ≠ 32 → x2.2 k = w.2 k := fun k hk => by rw [← hx2, z_wrp hk, z_wrp hk, z_wrp hk]
          have x232 : ∀ k, k ≠ 0 → k ≠ 36 → k ≠ 37 → x2.2 32 k = y.2 32 k := fun k k0 k1 k2 => by
            rw [← hx2, z_wr2 (Or.inr k2), z_wr2 (Or.inr k1), z_wr2 (Or.inr k0)]
            show w.2 32 k = _
            rw [wy 32 (by omega) (by omega)]
          obtain ⟨v, v1, v2, v3, v4⟩ := z_adoL (q := q) (l := l) (row := row) (by omega) q_fu 0 x2 (by omega) (by simp only [q_fu]; omega) ⟨by rw [x232 32 (by omega) (by omega) (by omega)]; exact u3, by rw [x232 33 (by omega) (by omega) (by omega)]; exact u4⟩ (fun i hi => by rw [x2q 55 (by omega), wy 55 (by omega) (by omega)]; exact ⟨(u7 i hi).2.1, (u7 i hi).2.2⟩)
          have hx236 : x2.2 32 36 = zi q := by rw [← hx2, z_wr2 (Or.inr (by omega)), z_wr1]
          have hx237 : x2.2 32 37 = zi l := by rw [← hx2, z_wr1]
          refine ⟨0, (1, w.2), 1, v, ?_, ?_, ?_, fun _ => ?_, z_Rel_word y2 (fun k k1 k2 k3 k4 => ?_) (fun k k1 k2 k3 => ?_) ⟨q + l, q, l, fun i => if i < q + l then row i % 8 else 0, ⟨⟨by omega, u5, by omega, rfl⟩, ?_, fun i hi => ⟨?_, ?_⟩⟩, ⟨⟨by omega, u5, by omega, rfl⟩, ?_, fun i hi => ⟨?_, ?_⟩⟩, fun i a b => ?_⟩⟩
          · unfold f_Lw_adopt
            rw [eD]
            rfl
          · rw [hMo']
            exact v1
          · rw [v2.2 32 (by omega), ← hx2, z_wr2 (Or.inr (by omega)), z_wr2 (Or.inr (by omega)), z_wr1]
          · rw [v2.1, ← hx2]
            rfl
          · rw [v2.2 k k4, x2q k k3, wy k k1 k2]
          · rw [v2.2 32 (by omega), x232 k k1 k2 k3]
          · rw [v2.2 14 (by omega), x2q 14 (by omega)]; exact w14
          · rw [v2.2 15 (by omega), x2q 15 (by omega)]; exact w15 i hi
          · show (if i < q + l then row i % 8 else 0) < 8
            have := Nat.mod_lt (row i) (show 8 > 0 by omega)
            split <;> omega
          · rw [v2.2 32 (by omega)]; exact ⟨hx236, hx237⟩
          · exact v3 i (by omega) hi
          · show (if i < q + l then row i % 8 else 0) < 8
            have := Nat.mod_lt (row i) (show 8 > 0 by omega)
            split <;> omega
          · show (if i < q + l then row i % 8 else 0) = 0
            rw [if_neg (by omega)]
end ZC
