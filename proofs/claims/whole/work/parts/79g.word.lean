/-! THE CALLS ABOUT THE WORD. -/
def z_CaN (c d : Nat) (L : Option (Int32 × q_W)) (M : q_W → Option q_W) : Prop := ∃ a y z, L = some (a, y) ∧ M y = some z ∧ z.2 32 0 = a ∧ z_Rel c d z
section ZC
variable {c d : Nat} {x : q_W}
theorem z_and7 {v : Int32} : ∃ b, (v &&& 7) = zi b ∧ b < 8 := by
  have h7 : ∀ i, i < 32 → z_bt 7 i = decide (i < 3) := by decide
  obtain ⟨m, h1, h2⟩ := z_bt_nat (w := v &&& 7) (t := 3) (by omega) (fun i hi => by
    rw [z_bt_and]
    by_cases h : i < 32
    · rw [h7 i h, decide_eq_false (by omega), Bool.and_false]
    · rw [z_bt_hi (a := (7 : Int32)) (by omega), Bool.and_false])
  exact ⟨m, h1, h2⟩
theorem z_and7n : ∀ a, a < 256 → (zi a &&& 7) = zi (a % 8) := by decide +kernel
/-- letters from k on are taken away -/
theorem z_zeroC : ∀ (n k : Nat) (x : q_W), k ≤ 16 → 16 < k + n → ∃ y, f_Gw_reshape_L15 n x (zi k) = some y ∧ z_only (· = 15) x y ∧ (∀ i, k ≤ i → i < 16 → y.2 15 i = 0) ∧ ∀ i, i < k → y.2 15 i = x.2 15 i := by
  intro n
  induction n with
  | zero => intro k x h1 h2; omega
  | succ n ih =>
    intro k x h1 h2
    simp only [f_Gw_reshape_L15]
    by_cases hk : k = 16
    · subst hk
      rw [if_pos (by decide)]
      exact ⟨x, rfl, z_only_rf, fun i a b => by omega, fun _ _ => rfl⟩
    · rw [if_neg (by rw [show (16 : Int32) = zi 16 from rfl, zi_le (by omega) (by omega)]; omega), z_sto (show k < 16 by omega) (by omega)]
      simp only [Option.bind_some, zi_succ]
      obtain ⟨y, y1, y2, y3, y4⟩ := ih (k + 1) (q_wr x 15 k 0) (by omega) (by omega)
      refine ⟨y, y1, z_only_tr (z_only_wr rfl) y2, fun i a b => ?_, fun i hi => ?_⟩
      · by_cases hik : i = k
        · subst hik; rw [y4 i (by omega), z_wr1]
        · exact y3 i (by omega) b
      · rw [y4 i (by omega), z_wr2 (Or.inr (by omega))]
theorem z_zeroA : ∀ (n k : Nat) (x : q_W) (v1 v2 : Int32), k ≤ 16 → 16 < k + n → ∃ y, f_Mo_shape_L71 n x v1 v2 (zi k) = some (q_wr (q_wr y 32 36 v1) 32 37 v2) ∧ z_only (· = 57) x y ∧ (∀ i, k ≤ i → i < 16 → y.2 57 i = 0) ∧ ∀ i, i < k → y.2 57 i = x.2 57 i := by
  intro n
  induction n with
  | zero => intro k x v1 v2 h1 h2; omega
  | succ n ih =>
    intro k x v1 v2 h1 h2
    simp only [f_Mo_shape_L71]
    by_cases hk : k = 16
    · subst hk
      rw [if_pos (by decide)]
      exact ⟨x, rfl, z_only_rf, fun i a b => by omega, fun _ _ => rfl⟩
    · rw [if_neg (by rw [show (16 : Int32) = zi 16 from rfl, zi_le (by omega) (by omega)]; omega), z_sto (show k < 16 by omega) (by omega)]
      simp only [Option.bind_some, zi_succ]
      obtain ⟨y, y1, y2, y3, y4⟩ := ih (k + 1) (q_wr x 57 k 0) v1 v2 (by omega) (by omega)
      refine ⟨y, y1, z_only_tr (z_only_wr rfl) y2, fun i a b => ?_, fun i hi => ?_⟩
      · by_cases hik : i = k
        · subst hik; rw [y4 i (by omega), z_wr1]
        · exact y3 i (by omega) b
      · rw [y4 i (by omega), z_wr2 (Or.inr (by omega))]
theorem z_zeroB : ∀ (n k : Nat) (x : q_W) (v1 v2 : Int32), k ≤ 16 → 16 < k + n → ∃ y, f_Mo_shape_L48 n x v1 v2 (zi k) = f_Mo_shape_L71 q_fu y v1 v2 (v1 + v2) ∧ z_only (· = 57) x y ∧ (∀ i, k ≤ i → i < 16 → y.2 57 i = 0) ∧ ∀ i, i < k → y.2 57 i = x.2 57 i := by
  intro n
  induction n with
  | zero => intro k x v1 v2 h1 h2; omega
  | succ n ih =>
    intro k x v1 v2 h1 h2
    simp only [f_Mo_shape_L48]
    by_cases hk : k = 16
    · subst hk
      rw [if_pos (by decide)]
      exact ⟨x, rfl, z_only_rf, fun i a b => by omega, fun _ _ => rfl⟩
    · rw [if_neg (by rw [show (16 : Int32) = zi 16 from rfl, zi_le (by omega) (by omega)]; omega), z_sto (show k < 16 by omega) (by omega)]
      simp only [Option.bind_some, zi_succ]
      obtain ⟨y, y1, y2, y3, y4⟩ := ih (k + 1) (q_wr x 57 k 0) v1 v2 (by omega) (by omega)
      refine ⟨y, y1, z_only_tr (z_only_wr rfl) y2, fun i a b => ?_, fun i hi => ?_⟩
      · by_cases hik : i = k
        · subst hik; rw [y4 i (by omega), z_wr1]
        · exact y3 i (by omega) b
      · rw [y4 i (by omega), z_wr2 (Or.inr (by omega))]
/-- both words written anew -/
theorem z_Rel_word {y : q_W} (h : z_Rel c d x) (ho : ∀ q, q ≠ 14 → q ≠ 15 → q ≠ 32 → q ≠ 57 → y.2 q = x.2 q) (h32 : ∀ k, k ≠ 0 → k ≠ 36 → k ≠ 37 → y.2 32 k = x.2 32 k) (hW : z_RW y) : z_Rel c d y := by
  obtain ⟨h0, h1, h2, h3⟩ := h
  have hc : c = 16 ∨ c = 24 := by rcases h0 with h | h <;> omega
  refine ⟨h0, z_RL_same h1 (by rw [ho 1 (by omega) (by omega) (by omega) (by omega)]) (ho 2 (by omega) (by omega) (by omega) (by omega)) (ho 33 (by omega) (by omega) (by omega) (by omega)) (h32 2 (by omega) (by omega) (by omega)), z_RF_same h2 ⟨fun q hq => ho q (by omega) (by omega) (by omega) (by omega), fun k hk => h32 k (by omega) (by omega) (by omega)⟩ (by rw [ho 0 (by omega) (by omega) (by omega) (by omega)]; exact ⟨rfl, rfl⟩) (fun q hq => ho q (by omega) (by omega) (by omega) (by omega)), hW⟩
theorem z_c_shape {a b : Int32} (h : z_Rel c d x) : z_CaN c d (f_Lw_shape c d x a b) (fun y => f_Mo_shape y a b) := by
  have bad : f_Gw_fits x a b = some 0 → f_Mo_shape x a b = f_Mo_shape_J27 x a b 1 → z_CaN c d (f_Lw_shape c d x a b) (fun y => f_Mo_shape y a b) := by
    intro e1 e2
    refine ⟨1, x, q_wr x 32 0 1, ?_, ?_, z_wr1, z_Rel_thr h⟩
    · unfold f_Lw_shape f_D_shape
      rw [e1]
      rfl
    · show f_Mo_shape x a b = _
      rw [e2]
      unfold f_Mo_shape_J27
      simp only [q_let]
      rw [z_wr1, if_neg (by decide)]
  by_cases h1 : a < 0
  · refine bad ?_ ?_
    · unfold f_Gw_fits; rw [if_pos h1]; rfl
    · unfold f_Mo_shape f_Mo_shape_J22; rw [if_pos h1]
  · by_cases h2 : 8 < a
    · refine bad ?_ ?_
      · unfold f_Gw_fits; rw [if_neg h1, if_pos h2]; rfl
      · unfold f_Mo_shape f_Mo_shape_J22; rw [if_neg h1, if_pos h2]
    · by_cases h3 : b < 1
      · refine bad ?_ ?_
        · unfold f_Gw_fits; rw [if_neg h1, if_neg h2, if_pos h3]; rfl
        · unfold f_Mo_shape f_Mo_shape_J22; rw [if_neg h1, if_neg h2, if_pos h3]
      · by_cases h4 : 8 < b
        · refine bad ?_ ?_
          · unfold f_Gw_fits; rw [if_neg h1, if_neg h2, if_neg h3, if_pos h4]; rfl
          · unfold f_Mo_shape f_Mo_shape_J22; rw [if_neg h1, if_neg h2, if_neg h3, if_neg (by rw [Int32.not_le]; exact h4)]
        · obtain ⟨p, hp, rfl⟩ := zi_of h1
          have hb0 : ¬ b < 0 := fun hb => h3 (Int32.lt_trans hb (by decide))
          obtain ⟨q, hq, rfl⟩ := zi_of hb0
          have p8 : p ≤ 8 := by
            rw [show (8 : Int32) = zi 8 from rfl, zi_lt (by omega) (by omega)] at h2; omega
          have q1 : 1 ≤ q := by
            rw [show (1 : Int32) = zi 1 from rfl, zi_lt (by omega) (by omega)] at h3; omega
          have q8 : q ≤ 8 := by
            rw [show (8 : Int32) = zi 8 from rfl, zi_lt (by omega) (by omega)] at h4; omega
          obtain ⟨n, st, lp, le, hWd, hWm, hle⟩ := id h.2.2.2
          obtain ⟨⟨w1, w2, w3, w4⟩, ⟨w5, w6⟩, w7⟩ := id hWd
          obtain ⟨-, ⟨v5, v6⟩, v7⟩ := id hWm
          -- the class
          generalize hx1 : q_wr (q_wr x 14 1 (zi p)) 14 2 (zi q) = x1
          obtain ⟨y, y1, y2, y3, y4⟩ := z_zeroC q_fu (p + q) x1 (by omega) (by simp only [q_fu]; omega)
          have eC : f_Lw_shape c d x (zi p) (zi q) = some (0, y) := by
            unfold f_Lw_shape f_D_shape f_Gw_fits
            rw [if_neg h1, if_neg h2, if_neg h3, if_neg h4]
            simp only [Option.bind_some]
            rw [if_pos (show ¬ q_nb 1 = 0 from z_10)]
            unfold f_Gw_reshape f_Gw_size
            simp only [q_let, Option.bind_some]
            rw [hx1, show x1.2 14 1 + x1.2 14 2 = zi (p + q) by rw [← hx1, z_wr2 (Or.inr (by omega)), z_wr1, z_wr1, zi_add], y1]
            rfl
          have yx : ∀ q, q ≠ 14 → q ≠ 15 → y.2 q = x.2 q := fun k k1 k2 => by rw [y2.2 k k2, ← hx1, z_wrp k1, z_wrp k1]
          have y14a : y.2 14 1 = zi p := by rw [y2.2 14 (by omega), ← hx1, z_wr2 (Or.inr (by omega)), z_wr1]
          have y14b : y.2 14 2 = zi q := by rw [y2.2 14 (by omega), ← hx1, z_wr1]
          have y15 : ∀ i, i < 16 → y.2 15 i = zi (if i < p + q then le i else 0) := fun i hi => by
            by_cases hlt : i < p + q
            · rw [if_pos hlt, y4 i hlt, ← hx1, z_wrp (by omega), z_wrp (by omega)]; exact (w7 i hi).1
            · rw [if_neg hlt, y3 i (by omega) hi]; rfl
          -- the reference
          generalize hz0 : q_wr y 32 0 0 = z0
          have z032 : ∀ k, k ≠ 0 → z0.2 32 k = x.2 32 k := fun k hk => by rw [← hz0, z_wr2 (Or.inr hk), yx 32 (by omega) (by omega)]
          have z0q : ∀ q, q ≠ 32 → z0.2 q = y.2 q := fun k hk => by rw [← hz0, z_wrp hk]
          obtain ⟨z1, e1, o1, a1, b1⟩ := z_zeroB q_fu n z0 (zi p) (zi q) (by omega) (by simp only [q_fu]; omega)
          obtain ⟨z2, e2, o2, a2, b2⟩ := z_zeroA q_fu (p + q) z1 (zi p) (zi q) (by omega) (by simp only [q_fu]; omega)
          have eM : f_Mo_shape y (zi p) (zi q) = some (q_wr (q_wr z2 32 36 (zi p)) 32 37 (zi q)) := by
            unfold f_Mo_shape
            rw [if_neg h1, if_neg h2, if_neg h3, if_pos (by rw [show (8 : Int32) = zi 8 from rfl, zi_le (by omega) (by omega)]; exact q8)]
            unfold f_Mo_shape_J27
            simp only [q_let]
            rw [z_wr1, if_pos (by decide), hz0, z032 36 (by omega), z032 37 (by omega), v5, v6, zi_add, ← w4, e1, zi_add, e2]
          have zq : ∀ q, q ≠ 32 → q ≠ 57 → z2.2 q = y.2 q := fun k k1 k2 => by rw [o2.2 k k2, o1.2 k k2, z0q k k1]
          have z57 : ∀ i, i < 16 → z2.2 57 i = zi (if i < p + q then le i else 0) := fun i hi => by
            by_cases hlt : i < p + q
            · rw [if_pos hlt, b2 i hlt]
              by_cases hin : i < n
              · rw [b1 i hin, z0q 57 (by omega), yx 57 (by omega) (by omega)]; exact (v7 i hi).1
              · rw [a1 i (by omega) hi, hle i (by omega) hi]; rfl
            · rw [if_neg hlt, a2 i (by omega) hi]; rfl
          refine ⟨0, y, _, eC, eM, ?_, z_Rel_word h (fun k k1 k2 k3 k4 => ?_) (fun k k1 k2 k3 => ?_) ⟨p + q, p, q, fun i => if i < p + q then le i else 0, ⟨⟨p8, q1, q8, rfl⟩, ?_, fun i hi => ⟨?_, ?_⟩⟩, ⟨⟨p8, q1, q8, rfl⟩, ⟨?_, ?_⟩, fun i hi => ⟨?_, ?_⟩⟩, fun i a b => ?_⟩⟩
          · rw [z_wr2 (Or.inr (by omega)), z_wr2 (Or.inr (by omega)), o2.2 32 (by omega), o1.2 32 (by omega), ← hz0, z_wr1]
          · rw [z_wrp k3, z_wrp k3, zq k k3 k4, yx k k1 k2]
          · rw [z_wr2 (Or.inr k3), z_wr2 (Or.inr k2), o2.2 32 (by omega), o1.2 32 (by omega), z032 k k1]
          · rw [z_wrp (by omega), z_wrp (by omega), zq 14 (by omega) (by omega)]; exact ⟨y14a, y14b⟩
          · rw [z_wrp (by omega), z_wrp (by omega), zq 15 (by omega) (by omega)]; exact y15 i hi
          · have := (w7 i hi).2
            show (if i < p + q then le i else 0) < 8
            split <;> omega
          · rw [z_wr2 (Or.inr (by omega)), z_wr1]
          · rw [z_wr1]
          · rw [z_wrp (by omega), z_wrp (by omega)]; exact z57 i hi
          · have := (w7 i hi).2
            show (if i < p + q then le i else 0) < 8
            split <;> omega
          · show (if i < p + q then le i else 0) = 0
            rw [if_neg (by omega)]
theorem z_c_set {a b : Int32} (h : z_Rel c d x) : z_CaI c d (f_Lw_set c d x a b) (fun y => f_Mo_set y a b) := by
  obtain ⟨n, st, lp, le, hWd, hWm, hle⟩ := id h.2.2.2
  obtain ⟨⟨w1, w2, w3, w4⟩, ⟨w5, w6⟩, w7⟩ := id hWd
  obtain ⟨-, ⟨v5, v6⟩, v7⟩ := id hWm
  have bad : f_D_set c d x a b = some (.inr 2, x) → f_Mo_set x a b = f_Mo_set_J23 x a b 1 → z_CaI c d (f_Lw_set c d x a b) (fun y => f_Mo_set y a b) := by
    intro e1 e2
    refine ⟨1, x, 0, q_wr x 32 0 1, ?_, ?_, z_wr1, fun h => absurd h z_10, z_Rel_thr h⟩
    · unfold f_Lw_set
      rw [e1]
      rfl
    · show f_Mo_set x a b = _
      rw [e2]
      unfold f_Mo_set_J23
      simp only [q_let]
      rw [z_wr1, if_neg (by decide)]
  by_cases h1 : a < 0
  · refine bad ?_ ?_
    · unfold f_D_set; rw [if_pos h1]
    · unfold f_Mo_set f_Mo_set_J18; rw [if_pos h1]
  · obtain ⟨m, hm, rfl⟩ := zi_of h1
    by_cases hlt : m < n
    · have hlt' : zi m < zi n := by rw [zi_lt (by omega) (by omega)]; exact hlt
      obtain ⟨b', hb', hb8⟩ := z_and7 (v := b)
      have m16 : m < 16 := by omega
      refine ⟨0, ((zi (le m)).toInt64, (q_wr x 15 m (zi b')).2), zi (le m), q_wr (q_wr ((zi (le m)).toInt64, (q_wr x 15 m (zi b')).2) 32 0 0) 57 m (zi b'), ?_, ?_, ?_, fun _ => rfl, z_Rel_word h (fun k k1 k2 k3 k4 => ?_) (fun k k1 k2 k3 => ?_) ⟨n, st, lp, fun i => if i = m then b' else le i, ⟨⟨w1, w2, w3, w4⟩, ?_, fun i hi => ⟨?_, ?_⟩⟩, ⟨⟨w1, w2, w3, w4⟩, ?_, fun i hi => ⟨?_, ?_⟩⟩, fun i a b => ?_⟩⟩
      · unfold f_Lw_set f_D_set f_Gw_replace
        rw [if_neg h1, z_wsz hWd]
        simp only [Option.bind_some]
        rw [if_pos hlt', z_ld m16 (by omega), (w7 m m16).1]
        simp only [Option.bind_some]
        rw [hb', z_sto m16 (by omega)]
        rfl
      · show f_Mo_set ((zi (le m)).toInt64, (q_wr x 15 m (zi b')).2) (zi m) b = _
        unfold f_Mo_set f_Mo_set_J23
        rw [if_neg h1]
        have e : (((zi (le m)).toInt64, (q_wr x 15 m (zi b')).2) : q_W).2 32 36 + (((zi (le m)).toInt64, (q_wr x 15 m (zi b')).2) : q_W).2 32 37 = zi n := by
          show (q_wr x 15 m (zi b')).2 32 36 + (q_wr x 15 m (zi b')).2 32 37 = zi n
          rw [z_wrp (by omega), v5, v6, zi_add, w4]
        rw [e, if_pos hlt']
        simp only [q_let]
        rw [z_wr1, if_pos (by decide), z_ld m16 (by omega), z_wrp (by omega)]
        show (some ((q_wr x 15 m (zi b')).2 57 m)).bind _ = _
        rw [z_wrp (by omega), (v7 m m16).1]
        simp only [Option.bind_some]
        rw [hb', z_sto m16 (by omega)]
        rfl
      · rw [z_wrp (by omega), z_wr1]
      · rw [z_wrp k4, z_wrp k3]
        show (q_wr x 15 m (zi b')).2 k = _
        rw [z_wrp k2]
      · rw [z_wrp (by omega), z_wr2 (Or.inr k1)]
        show (q_wr x 15 m (zi b')).2 32 k = _
        rw [z_wrp (by omega)]
      · rw [z_wrp (by omega), z_wrp (by omega)]
        show (q_wr x 15 m (zi b')).2 14 1 = _ ∧ (q_wr x 15 m (zi b')).2 14 2 = _
        rw [z_wrp (by omega)]
        exact ⟨w5, w6⟩
      · rw [z_wrp (by omega), z_wrp (by omega)]
        show (q_wr x 15 m (zi b')).2 15 i = _
        by_cases him : i = m
        · subst him; rw [z_wr1]; simp
        · rw [z_wr2 (Or.inr him), (w7 i hi).1]; simp [him]
      · have := (w7 i hi).2
        show (if i = m then b' else le i) < 8
        split <;> omega
      · rw [z_wrp (by omega), z_wr2 (Or.inr (by omega)), z_wr2 (Or.inr (by omega))]
        show (q_wr x 15 m (zi b')).2 32 36 = _ ∧ (q_wr x 15 m (zi b')).2 32 37 = _
        rw [z_wrp (by omega)]
        exact ⟨v5, v6⟩
      · by_cases him : i = m
        · subst him; rw [z_wr1]; simp
        · rw [z_wr2 (Or.inr him), z_wrp (by omega)]
          show (q_wr x 15 m (zi b')).2 57 i = _
          rw [z_wrp (by omega), (v7 i hi).1]; simp [him]
      · have := (w7 i hi).2
        show (if i = m then b' else le i) < 8
        split <;> omega
      · show (if i = m then b' else le i) = 0
        rw [if_neg (by omega)]
        exact hle i a b
    · have hlt' : ¬ zi m < zi n := by rw [zi_lt (by omega) (by omega)]; exact hlt
      refine bad ?_ ?_
      · unfold f_D_set
        rw [if_neg h1, z_wsz hWd]
        simp only [Option.bind_some]
        rw [if_neg hlt']
      · unfold f_Mo_set f_Mo_set_J18
        rw [if_neg h1, v5, v6, zi_add, ← w4, if_neg hlt']
theorem z_c_letter {a : Int32} (h : z_Rel c d x) : z_CaI c d (f_Lw_letter c d x a) (fun y => f_Mo_letter y a) := by
  obtain ⟨n, st, lp, le, hWd, hWm, hle⟩ := id h.2.2.2
  obtain ⟨⟨w1, w2, w3, w4⟩, ⟨w5, w6⟩, w7⟩ := id hWd
  obtain ⟨-, ⟨v5, v6⟩, v7⟩ := id hWm
  by_cases h1 : a < 0
  · refine ⟨1, x, 0, q_wr x 32 0 1, ?_, ?_, z_wr1, fun h => absurd h z_10, z_Rel_thr h⟩
    · unfold f_Lw_letter f_D_letter f_D_requirePlace
      rw [if_neg (by rw [Int32.not_le]; exact h1)]
      rfl
    · show f_Mo_letter x a = _
      unfold f_Mo_letter f_Mo_letter_J10
      rw [if_neg (by rw [Int32.not_le]; exact h1)]
      simp only [q_let]
      rw [z_wr1, if_neg (by decide)]
  · have h0 : (0 : Int32) ≤ a := by rw [← Int32.not_lt]; exact h1
    obtain ⟨m, hm, rfl⟩ := zi_of h1
    have hix := z_ix_lt (n := n) (st := st) (lp := lp) (a := m) w2 w4
    refine ⟨0, ((zi (le (z_ix n st lp m))).toInt64, x.2), zi (le (z_ix n st lp m)), q_wr ((zi (le (z_ix n st lp m))).toInt64, x.2) 32 0 0, ?_, ?_, z_wr1, fun _ => rfl, z_Rel_thr (z_Rel_ans h)⟩
    · unfold f_Lw_letter f_D_letter f_D_requirePlace f_Gw_letterAt
      rw [if_pos h0]
      simp only [q_tpp]
      rw [z_ixc hWd hm]
      simp only [Option.bind_some]
      rw [z_ld (show z_ix n st lp m < 16 by omega) (by omega), (w7 _ (by omega)).1]
      rfl
    · show f_Mo_letter ((zi (le (z_ix n st lp m))).toInt64, x.2) (zi m) = _
      unfold f_Mo_letter f_Mo_letter_J10
      rw [if_pos h0]
      simp only [q_let]
      rw [z_wr1, if_pos (by decide), z_ixm (y := q_wr ((zi (le (z_ix n st lp m))).toInt64, x.2) 32 0 0) w1 w2 w3 w4 ((z_wr2 (Or.inr (by omega))).trans v5) ((z_wr2 (Or.inr (by omega))).trans v6) hm]
      simp only [Option.bind_some]
      rw [z_ld (show z_ix n st lp m < 16 by omega) (by omega), z_wrp (by omega)]
      show (some (x.2 57 (z_ix n st lp m))).bind _ = _
      rw [(v7 _ (by omega)).1]
      rfl
theorem z_c_holds {a : Int32} (h : z_Rel c d x) : z_CaB c d (f_Lw_holds c d x a) (fun y => f_Mo_holds y a) := by
  obtain ⟨n, st, lp, le, hWd, hWm, hle⟩ := id h.2.2.2
  obtain ⟨⟨w1, w2, w3, w4⟩, ⟨w5, w6⟩, w7⟩ := id hWd
  obtain ⟨-, ⟨v5, v6⟩, v7⟩ := id hWm
  have hJ : ∀ y : q_W, f_Mo_holds y a = f_Mo_holds_J10 y a (if a < 0 then 0 else 1) := fun y => by
    unfold f_Mo_holds
    by_cases h1 : a < 0
    · rw [if_pos h1, if_pos h1]
    · rw [if_neg h1, if_neg h1]
  rcases h.2.2.1 with ⟨h1, h2⟩ | ⟨h1, h2, s, t, pr, W, kp, op, wh, S, F, hM, hS⟩
  · refine ⟨1, x, 0, q_wr x 32 0 1, ?_, ?_, z_wr1, fun h => absurd h z_10, z_Rel_thr h⟩
    · unfold f_Lw_holds f_D_holds
      rw [z_rq0 h1]
      rfl
    · show f_Mo_holds x a = _
      rw [hJ]
      unfold f_Mo_holds_J10
      rw [z_ref0 h2]
      rfl
  · obtain ⟨⟨hZ, hE⟩, hLm, -⟩ := id hM
    have hc : c = 16 ∨ c = 24 := by rcases h.1 with h | h <;> omega
    by_cases ha : a < 0
    · refine ⟨2, x, 0, q_wr x 32 0 2, ?_, ?_, z_wr1, fun h => absurd h (by decide), z_Rel_thr h⟩
      · unfold f_Lw_holds f_D_holds f_D_requirePlace
        rw [z_rq1 h1]
        simp only [q_tp]
        rw [if_neg (by rw [Int32.not_le]; exact ha)]
        rfl
      · show f_Mo_holds x a = _
        rw [hJ, if_pos ha]
        unfold f_Mo_holds_J10
        rw [z_ref2 h2]
        rfl
    · have h0 : (0 : Int32) ≤ a := by rw [← Int32.not_lt]; exact ha
      obtain ⟨m, hm, rfl⟩ := zi_of ha
      have hix := z_ix_lt (n := n) (st := st) (lp := lp) (a := m) w2 w4
      obtain ⟨v, v', hA1, hA2, hA3, -⟩ := hZ.2.2.2.2 (Nat → Bool) (z_AW n st le) (z_AW_as n st le)
      obtain ⟨⟨s1, s2, t1, p1⟩, ⟨c7, c8, c9⟩, ⟨m4, m9, m11⟩, -⟩ := id hZ
      obtain ⟨y, y1, y2⟩ := z_on hc s1 s2 hWd c7 hA1
      have hWdy : z_Wd n st lp le y := by unfold z_Wd; rw [y2.2 14 (by omega), y2.2 15 (by omega)]; exact hWd
      generalize hb : v (s - 1) (z_ix n st lp m) = b
      -- the reference's
      generalize hz0 : q_wr (((if b then 1 else 0), y.2) : q_W) 32 0 0 = z0
      have z0q : ∀ q, q ≠ 32 → q ≠ c + 7 → z0.2 q = x.2 q := fun k k1 k2 => by
        rw [← hz0, z_wrp k1]
        exact y2.2 k k2
      have z032 : ∀ k, k ≠ 0 → z0.2 32 k = x.2 32 k := fun k hk => by
        rw [← hz0, z_wr2 (Or.inr hk)]
        show y.2 32 k = _
        rw [y2.2 32 (by omega)]
      have hWmz : z_Wm n st lp le z0 := by
        refine ⟨⟨w1, w2, w3, w4⟩, ⟨by rw [z032 36 (by omega)]; exact v5, by rw [z032 37 (by omega)]; exact v6⟩, ?_⟩
        rw [z0q 57 (by omega) (by omega)]
        exact v7
      obtain ⟨z, z1, z2, z3⟩ := z_hldL (E := fun x3 u4 => (f_Mo_placeOf x3 u4).bind fun w5 => (q_ld x3 58 288 ((16 * ((x3.2 32 4) - 1)) + w5)).bind fun w6 => some ((q_nb w6), x3)) (v1 := zi m) s2 q_fu 0 z0 (by omega) (by simp only [q_fu]; omega) (by rw [z032 4 (by omega)]; exact m4) hWmz (fun j hj => z_nm_same (hA2 j hj) ⟨by rw [z0q _ (by omega) (by omega)], by rw [z0q _ (by omega) (by omega)], by rw [z0q _ (by omega) (by omega)], by rw [z0q _ (by omega) (by omega)]⟩ (fun _ _ => rfl)) (fun j hj => by omega)
      have z32 : ∀ k, k ≠ 0 → z.2 32 k = x.2 32 k := fun k hk => by rw [z2.2 32 (by omega), z032 k hk]
      have zq : ∀ q, q ≠ 32 → q ≠ c + 7 → q ≠ 50 → q ≠ 58 → z.2 q = x.2 q := fun k k1 k2 k3 k4 => by rw [z2.2 k (by omega), z0q k k1 k2]
      refine ⟨0, ((if b then 1 else 0), y.2), zb b, z, ?_, ?_, ?_, fun _ => ?_, ?_⟩
      · unfold f_Lw_holds f_D_holds f_D_requirePlace
        rw [z_rq1 h1]
        simp only [q_tp]
        rw [if_pos h0]
        simp only []
        rw [y1]
        simp only [Option.bind_some]
        rw [z_ixc hWdy hm]
        simp only [Option.bind_some]
        rw [z_hbb (by omega), z_bt_ms (by omega), decide_eq_true hix, Bool.true_and, hb]
        simp only [Option.bind_some, zb_nb, q_tcT, q_let]
        cases b <;> rfl
      · show f_Mo_holds (((if b then 1 else 0), y.2) : q_W) (zi m) = _
        rw [hJ, if_neg ha]
        unfold f_Mo_holds_J10
        rw [z_ref1 (x := (((if b then 1 else 0), y.2) : q_W)) (by show y.2 32 3 = 1; rw [y2.2 32 (by omega)]; exact h2) z_10]
        simp only [Option.bind_some, if_true]
        rw [hz0, show (0 : Int32) = zi 0 from rfl, z1, z_ixm (y := z) w1 w2 w3 w4 ((z32 36 (by omega)).trans v5) ((z32 37 (by omega)).trans v6) hm]
        simp only [Option.bind_some]
        rw [z32 4 (by omega), m4, zi_pred (by omega), z_i16, z_ld (show 16 * (s - 1) + z_ix n st lp m < 288 by omega) (by omega), z3 (s - 1) (by omega) _ hix]
        simp only [Option.bind_some, zb_nb]
        rw [← hA3, hb]
      · rw [z2.2 32 (by omega), ← hz0, z_wr1]
      · rw [z2.1, ← hz0]
        exact z_ansB b
      · obtain ⟨r0, r1, r2, r3⟩ := h
        refine ⟨r0, z_RL_same r1 (by rw [zq 1 (by omega) (by omega) (by omega) (by omega)]) (zq 2 (by omega) (by omega) (by omega) (by omega)) (zq 33 (by omega) (by omega) (by omega) (by omega)) (z32 2 (by omega)), z_RF_same r2 ⟨fun q hq => zq q (by omega) (by omega) (by omega) (by omega), fun k hk => z32 k (by omega)⟩ (by rw [zq 0 (by omega) (by omega) (by omega) (by omega)]; exact ⟨rfl, rfl⟩) (fun q hq => zq q (by omega) (by omega) (by omega) (by omega)), z_RW_same r3 (by rw [zq 14 (by omega) (by omega) (by omega) (by omega)]; exact ⟨rfl, rfl⟩) (zq 15 (by omega) (by omega) (by omega) (by omega)) (zq 57 (by omega) (by omega) (by omega) (by omega)) ⟨z32 36 (by omega), z32 37 (by omega)⟩⟩
end ZC
