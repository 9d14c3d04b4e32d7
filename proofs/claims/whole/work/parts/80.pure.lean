theorem law_pure (E : q_E) (hL : q_L E ≤ 1536) : ∃ w, f_law_L E q_fu 16 24 q_x0 0 = some (1, w) := by
  sorry
