/-! THE LAW: whatever is called, both answer alike. -/
theorem z_finB {α : Type} {a b : Int32} {z : q_W} {R B1 B2 B3 : α} (h : z.2 32 0 = a) (g : a = 0 → z.1 = if b = 0 then 0 else 1) : (if z.2 32 0 = a then (if ¬ a = 0 then R else if b = 0 then (if (lg_cmp z.1 0) = 0 then R else B1) else (if (lg_cmp z.1 1) = 0 then R else B2)) else B3) = R := by
  rw [if_pos h]
  by_cases ha : a = 0
  · rw [if_neg (fun hh => hh ha)]
    have g := g ha
    by_cases hb : b = 0
    · rw [if_pos hb] at g
      rw [if_pos hb, g, if_pos (z_cmp 0)]
    · rw [if_neg hb] at g
      rw [if_neg hb, g, if_pos (z_cmp 1)]
  · rw [if_pos ha]
theorem z_finI {α : Type} {a b : Int32} {z : q_W} {R B1 B3 : α} (h : z.2 32 0 = a) (g : a = 0 → z.1 = b.toInt64) : (if z.2 32 0 = a then (if ¬ a = 0 then R else if (lg_cmp z.1 b.toInt64) = 0 then R else B1) else B3) = R := by
  rw [if_pos h]
  by_cases ha : a = 0
  · rw [if_neg (fun hh => hh ha), g ha, if_pos (z_cmp _)]
  · rw [if_pos ha]
theorem z_xld {E : q_E} {j : Nat} (h : j < q_L E) (hj : j < 2147483648) : ∃ w, q_xld E (zi j) = some w := by
  unfold q_xld
  rw [zi_nat hj, if_neg]
  · exact ⟨_, rfl⟩
  · rintro (h1 | h1)
    · exact zi_neg hj h1
    · omega
theorem z_lend {L j : Nat} (hL : L ≤ 1536) (hj : j ≤ 1600) : ((Int32.ofNat L) - 3 < zi j) ↔ L < j + 3 := by
  show (zi L - 3 < zi j) ↔ _
  by_cases h3 : 3 ≤ L
  · rw [show (3 : Int32) = zi 3 from rfl, zi_sub h3, zi_lt (by omega) (by omega)]
    omega
  · have hn : ∀ L, L < 3 → (zi L - 3).toInt < 0 := by decide
    have := hn L (by omega)
    rw [Int32.lt_iff_toInt_lt, zi_toInt (by omega)]
    omega
theorem z_start : z_Rel 16 24 q_x0 := by
  refine ⟨Or.inl ⟨rfl, rfl⟩, ⟨0, fun _ => 0, ⟨by omega, rfl, rfl⟩, fun i hi => by omega⟩, Or.inl ⟨rfl, rfl⟩, ⟨1, 0, 1, fun _ => 0, ⟨⟨by omega, by omega, by omega, rfl⟩, ⟨rfl, rfl⟩, fun i hi => ⟨rfl, (by decide : 0 < 8)⟩⟩, ⟨⟨by omega, by omega, by omega, rfl⟩, ⟨rfl, rfl⟩, fun i hi => ⟨rfl, (by decide : 0 < 8)⟩⟩, fun _ _ _ => rfl⟩⟩
theorem z_lawL {E : q_E} (hL : q_L E ≤ 1536) : ∀ (k j c d : Nat) (x : q_W), j ≤ q_L E + 3 → q_L E + 4 ≤ j + k → z_Rel c d x → ∃ w, f_law_L E k c d x (zi j) = some (1, w) := by
  intro k
  induction k with
  | zero => intro j c d x h1 h2; omega
  | succ k ih =>
    intro j c d x h1 h2 hR
    simp only [f_law_L]
    by_cases hend : q_L E < j + 3
    · rw [if_pos ((z_lend hL (by omega)).mpr hend)]
      exact ⟨_, rfl⟩
    · rw [if_neg (fun hh => hend ((z_lend hL (by omega)).mp hh))]
      obtain ⟨u0, l0⟩ := z_xld (E := E) (j := j) (by omega) (by omega)
      obtain ⟨u1, l1⟩ := z_xld (E := E) (j := j + 1) (by omega) (by omega)
      obtain ⟨u2, l2⟩ := z_xld (E := E) (j := j + 2) (by omega) (by omega)
      have l1 : q_xld E (zi j + 1) = some u1 := by rw [zi_succ]; exact l1
      have l2 : q_xld E (zi j + 2) = some u2 := by rw [show zi j + 2 = zi (j + 2) from zi_add j 2]; exact l2
      have nxt : ∀ c' d' y, z_Rel c' d' y → ∃ w, f_law_L E k c' d' y (zi j + 3) = some (1, w) := fun c' d' y hy => by
        rw [show zi j + 3 = zi (j + 3) from zi_add j 3]
        exact ih (j + 3) c' d' y (by omega) (by omega) hy
      rw [l0]
      simp only [Option.bind_some]
      by_cases h0 : (u0 &&& 31) = 0
      · rw [if_pos h0]
        obtain ⟨a, y, b, z, e1, e2, e3, e4, e5⟩ := z_c_type (w := u1) hR
        have e2 : f_Mo_type y u1 = some (b, z) := e2
        simp only [l1, e1, e2, Option.bind_some, f_Mo_thrown]
        rw [z_finB e3 e4]
        exact nxt _ _ _ e5
      rw [if_neg h0]
      by_cases h1 : (u0 &&& 31) = 1
      · rw [if_pos h1]
        obtain ⟨a, c', d', y, b, z, e1, e2, e3, e4, e5⟩ := z_c_formula hR
        simp only [e1, e2, Option.bind_some, f_Mo_thrown]
        rw [z_finI e3 e4]
        exact nxt _ _ _ e5
      rw [if_neg h1]
      by_cases h2 : (u0 &&& 31) = 2
      · rw [if_pos h2]
        obtain ⟨a, y, b, z, e1, e2, e3, e4, e5⟩ := z_c_states hR
        have e2 : f_Mo_states y = some (b, z) := e2
        simp only [e1, e2, Option.bind_some, f_Mo_thrown]
        rw [z_finI e3 e4]
        exact nxt _ _ _ e5
      rw [if_neg h2]
      by_cases h3 : (u0 &&& 31) = 3
      · rw [if_pos h3]
        obtain ⟨a, y, b, z, e1, e2, e3, e4, e5⟩ := z_c_isAt (a := u1) hR
        have e2 : f_Mo_isAt y u1 = some (b, z) := e2
        simp only [l1, e1, e2, Option.bind_some, f_Mo_thrown]
        rw [z_finB e3 e4]
        exact nxt _ _ _ e5
      rw [if_neg h3]
      by_cases h4 : (u0 &&& 31) = 4
      · rw [if_pos h4]
        obtain ⟨a, y, b, z, e1, e2, e3, e4, e5⟩ := z_c_leads (a := u1) (b := u2) hR
        have e2 : f_Mo_leads y u1 u2 = some (b, z) := e2
        simp only [l1, l2, e1, e2, Option.bind_some, f_Mo_thrown]
        rw [z_finB e3 e4]
        exact nxt _ _ _ e5
      rw [if_neg h4]
      by_cases h5 : (u0 &&& 31) = 5
      · rw [if_pos h5]
        obtain ⟨a, y, b, z, e1, e2, e3, e4, e5⟩ := z_c_lasts (a := u1) hR
        have e2 : f_Mo_lasts y u1 = some (b, z) := e2
        simp only [l1, e1, e2, Option.bind_some, f_Mo_thrown]
        rw [z_finB e3 e4]
        exact nxt _ _ _ e5
      rw [if_neg h5]
      by_cases h6 : (u0 &&& 31) = 6
      · rw [if_pos h6]
        obtain ⟨a, y, b, z, e1, e2, e3, e4, e5⟩ := z_c_lasting hR
        have e2 : f_Mo_lasting y = some (b, z) := e2
        simp only [e1, e2, Option.bind_some, f_Mo_thrown]
        rw [z_finI e3 e4]
        exact nxt _ _ _ e5
      rw [if_neg h6]
      by_cases h7 : (u0 &&& 31) = 7
      · rw [if_pos h7]
        obtain ⟨a, y, b, z, e1, e2, e3, e4, e5⟩ := z_c_promises hR
        have e2 : f_Mo_promises y = some (b, z) := e2
        simp only [e1, e2, Option.bind_some, f_Mo_thrown]
        rw [z_finI e3 e4]
        exact nxt _ _ _ e5
      rw [if_neg h7]
      by_cases h8 : (u0 &&& 31) = 8
      · rw [if_pos h8]
        obtain ⟨a, y, b, z, e1, e2, e3, e4, e5⟩ := z_c_can hR
        have e2 : f_Mo_can y = some (b, z) := e2
        simp only [e1, e2, Option.bind_some, f_Mo_thrown]
        rw [z_finB e3 e4]
        exact nxt _ _ _ e5
      rw [if_neg h8]
      by_cases h9 : (u0 &&& 31) = 9
      · rw [if_pos h9]
        obtain ⟨a, y, b, z, e1, e2, e3, e4, e5⟩ := z_c_stem hR
        have e2 : f_Mo_stem y = some (b, z) := e2
        simp only [e1, e2, Option.bind_some, f_Mo_thrown]
        rw [z_finI e3 e4]
        exact nxt _ _ _ e5
      rw [if_neg h9]
      by_cases h10 : (u0 &&& 31) = 10
      · rw [if_pos h10]
        obtain ⟨a, y, b, z, e1, e2, e3, e4, e5⟩ := z_c_loop hR
        have e2 : f_Mo_loop y = some (b, z) := e2
        simp only [e1, e2, Option.bind_some, f_Mo_thrown]
        rw [z_finI e3 e4]
        exact nxt _ _ _ e5
      rw [if_neg h10]
      by_cases h11 : (u0 &&& 31) = 11
      · rw [if_pos h11]
        obtain ⟨a, y, b, z, e1, e2, e3, e4, e5⟩ := z_c_step (a := u1) hR
        have e2 : f_Mo_step y u1 = some (b, z) := e2
        simp only [l1, e1, e2, Option.bind_some, f_Mo_thrown]
        rw [z_finI e3 e4]
        exact nxt _ _ _ e5
      rw [if_neg h11]
      by_cases h12 : (u0 &&& 31) = 12
      · rw [if_pos h12]
        obtain ⟨a, y, z, e1, e2, e3, e5⟩ := z_c_shape (a := u1) (b := u2) hR
        have e2 : f_Mo_shape y u1 u2 = some z := e2
        simp only [l1, l2, e1, e2, Option.bind_some, f_Mo_thrown]
        rw [if_pos e3]
        exact nxt _ _ _ e5
      rw [if_neg h12]
      by_cases h13 : (u0 &&& 31) = 13
      · rw [if_pos h13]
        obtain ⟨a, y, b, z, e1, e2, e3, e4, e5⟩ := z_c_set (a := u1) (b := u2) hR
        have e2 : f_Mo_set y u1 u2 = some (b, z) := e2
        simp only [l1, l2, e1, e2, Option.bind_some, f_Mo_thrown]
        rw [z_finI e3 e4]
        exact nxt _ _ _ e5
      rw [if_neg h13]
      by_cases h14 : (u0 &&& 31) = 14
      · rw [if_pos h14]
        obtain ⟨a, y, b, z, e1, e2, e3, e4, e5⟩ := z_c_adopt hR
        have e2 : f_Mo_adopt y = some (b, z) := e2
        simp only [e1, e2, Option.bind_some, f_Mo_thrown]
        rw [z_finB e3 e4]
        exact nxt _ _ _ e5
      rw [if_neg h14]
      by_cases h15 : (u0 &&& 31) = 15
      · rw [if_pos h15]
        obtain ⟨a, y, b, z, e1, e2, e3, e4, e5⟩ := z_c_letter (a := u1) hR
        have e2 : f_Mo_letter y u1 = some (b, z) := e2
        simp only [l1, e1, e2, Option.bind_some, f_Mo_thrown]
        rw [z_finI e3 e4]
        exact nxt _ _ _ e5
      rw [if_neg h15]
      by_cases h16 : (u0 &&& 31) = 16
      · rw [if_pos h16]
        obtain ⟨a, y, b, z, e1, e2, e3, e4, e5⟩ := z_c_holds (a := u1) hR
        have e2 : f_Mo_holds y u1 = some (b, z) := e2
        simp only [l1, e1, e2, Option.bind_some, f_Mo_thrown]
        rw [z_finB e3 e4]
        exact nxt _ _ _ e5
      rw [if_neg h16]
      exact nxt _ _ _ hR
theorem law_pure (E : q_E) (hL : q_L E ≤ 1536) : ∃ w, f_law_L E q_fu 16 24 q_x0 0 = some (1, w) := z_lawL hL q_fu 0 16 24 q_x0 (by omega) (by simp only [q_fu]; omega) z_start
