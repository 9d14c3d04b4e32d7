theorem q_weq {E : q_E} {R : Room} {M : q_M} {ws ws' : List va_E} {ce sl pc : Nat} {lv : List (Nat × Value)} {st : List Value} {r : q_R} (h : ws = ws') (k : AW E R M ws' ce sl pc lv st r) : AW E R M ws ce sl pc lv st r := h ▸ k
theorem q_objI {E : q_E} {R : Room} {M : q_M} {ws : List va_E} {ce sl pc q0 idx : Nat} {lv : List (Nat × Value)} {st : List Value} {r : q_R} (n : Nat) (hd : decode M.1 pc = .ok (.invokespecial idx, 3)) (hn : pc + 3 = n) (hl0 : Cond.methodLink M.2.2.2.1 idx Lib.objectInit ∈ lw_tbl) (hR : 1 ≤ R.frames ∧ (st.map fun v => v.category).sum + 12 ≤ R.locals) (k : AW E R M ws ce sl n lv st r) : AW E R M ws ce sl pc lv (.ref q0 :: st) r := by
  subst hn
  intro p e s m args below meth c H locs ls hC hP hS hl
  obtain ⟨h0, ht, hx, hb, hml, hr, hlk, hh, hown, hnm, hn0⟩ := id hC
  have hw0 : ((st.map (q_cv (q_g E))).map fun v => v.category).sum = (st.map fun v => v.category).sum := by
    rw [List.map_map]
    have e0 : ((fun v : Value => v.category) ∘ q_cv (q_g E)) = fun v => v.category := by
      funext v
      exact q_cv_cat _ v
    rw [e0]
  refine W.objInit hx hb hown (q_w h0 ht hl0 rfl) (q_w h0 ht (q_tb 21 (by decide +kernel)) rfl) (q_w h0 ht (q_tb 22 (by decide +kernel)) rfl) rfl (hl.1.trans hml.symm) rfl hd hR.1 ?_ (k p e s m args below meth c H locs ls hC hP hS hl)
  show 2 * 0 + _ + 12 ≤ _
  rw [hw0]
  have := hR.2
  omega
