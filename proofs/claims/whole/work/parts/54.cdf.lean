theorem q_cd_sw {c d : Nat} (h : q_cd c d) : q_cd d c := by
  rcases h with ⟨rfl, rfl⟩ | ⟨rfl, rfl⟩
  · exact Or.inr ⟨rfl, rfl⟩
  · exact Or.inl ⟨rfl, rfl⟩
theorem q_cdD {c d : Nat} {x : q_W} {v : (Int32 ⊕ Nat) × (Nat × Nat × q_W)} (hcd : q_cd c d) (e : f_D_formula c d x = some v) : q_cd v.2.1 v.2.2.1 := by
  unfold f_D_formula at e
  obtain ⟨q1, -, e⟩ := Option.bind_eq_some_iff.mp e
  obtain ⟨x2, -, e⟩ := Option.bind_eq_some_iff.mp e
  refine q_ite e (fun c0 e => ?_) (fun c0 e => ?_)
  · simp only [q_let] at e
    obtain ⟨w, -, e⟩ := Option.bind_eq_some_iff.mp e
    cases e
    exact q_cd_sw hcd
  · cases e
    exact hcd
theorem q_cdF {c d : Nat} {x : q_W} {v : Int32 × (Nat × Nat × q_W)} (hcd : q_cd c d) (e : f_Lw_formula c d x = some v) : q_cd v.2.1 v.2.2.1 := by
  unfold f_Lw_formula at e
  cases hF : f_D_formula c d x with
  | none => rw [hF] at e; cases e
  | some z =>
    have hz := q_cdD hcd hF
    obtain ⟨z1, z2⟩ := z
    rw [hF] at e
    cases z1 with
    | inl w =>
      simp only [q_tcT, q_let] at e
      cases e
      exact hz
    | inr k =>
      simp only [q_tcT] at e
      refine q_ite e (fun c0 e => ?_) (fun c0 e => ?_)
      · cases e
        exact hz
      · cases e
