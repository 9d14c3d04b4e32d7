theorem q_throw_D_formula_23 {E : q_E} {c d : Nat} {x : q_W} {lv : List (Nat × Value)} {st : List Value} : AW E (q_rm 74) m_D_formula (q_cells E c d x) 0 0 23 lv st (.inr 0, q_cells E c d x, 1, 6) := by
  sorry
theorem q_throw_D_requireFormula_7 {E : q_E} {c d : Nat} {x : q_W} {lv : List (Nat × Value)} {st : List Value} : AW E (q_rm 6) m_D_requireFormula (q_cells E c d x) 0 0 7 lv st (.inr 1, q_cells E c d x, 1, 6) := by
  sorry
theorem q_throw_D_requirePlace_4 {E : q_E} {c d : Nat} {x : q_W} {lv : List (Nat × Value)} {st : List Value} : AW E (q_rm 6) m_D_requirePlace (q_cells E c d x) 0 0 4 lv st (.inr 2, q_cells E c d x, 1, 6) := by
  sorry
theorem q_throw_D_requireState_15 {E : q_E} {c d : Nat} {x : q_W} {lv : List (Nat × Value)} {st : List Value} : AW E (q_rm 6) m_D_requireState (q_cells E c d x) 0 0 15 lv st (.inr 2, q_cells E c d x, 1, 6) := by
  sorry
theorem q_throw_D_set_15 {E : q_E} {c d : Nat} {x : q_W} {lv : List (Nat × Value)} {st : List Value} : AW E (q_rm 6) m_D_set (q_cells E c d x) 0 0 15 lv st (.inr 2, q_cells E c d x, 1, 6) := by
  sorry
theorem q_throw_D_shape_8 {E : q_E} {c d : Nat} {x : q_W} {lv : List (Nat × Value)} {st : List Value} : AW E (q_rm 6) m_D_shape (q_cells E c d x) 0 0 8 lv st (.inr 0, q_cells E c d x, 1, 6) := by
  sorry
theorem q_throw_D_step_18 {E : q_E} {c d : Nat} {x : q_W} {lv : List (Nat × Value)} {st : List Value} : AW E (q_rm 7) m_D_step (q_cells E c d x) 0 0 18 lv st (.inr 1, q_cells E c d x, 1, 6) := by
  sorry
theorem q_throw_D_step_43 {E : q_E} {c d : Nat} {x : q_W} {lv : List (Nat × Value)} {st : List Value} : AW E (q_rm 7) m_D_step (q_cells E c d x) 0 0 43 lv st (.inr 2, q_cells E c d x, 1, 6) := by
  sorry
theorem q_throw_D_type_13 {E : q_E} {c d : Nat} {x : q_W} {lv : List (Nat × Value)} {st : List Value} : AW E (q_rm 6) m_D_type (q_cells E c d x) 0 0 13 lv st (.inr 0, q_cells E c d x, 1, 6) := by
  sorry
