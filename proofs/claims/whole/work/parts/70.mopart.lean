/-! THE REFERENCE'S READING: a part behind the others. -/
section ZM
variable {D : Type} {A : z_A D}
theorem z_nm_same {A : z_A D} {g : Nat} {v v' : Nat → D} {x y : q_W} {i : Nat} (h : z_nm A g v x i) (hx : y.2 g i = x.2 g i ∧ y.2 (g + 1) i = x.2 (g + 1) i ∧ y.2 (g + 2) i = x.2 (g + 2) i ∧ y.2 (g + 3) i = x.2 (g + 3) i) (hv : ∀ j, j ≤ i → v' j = v j) : z_nm A g v' y i := by
  obtain ⟨sg, nu, h1, h2, h3, h4⟩ := h
  obtain ⟨x1, x2, x3, x4⟩ := hx
  refine ⟨sg, nu, x1.trans h1, x4.trans h2, h3, ?_⟩
  rcases h4 with ⟨a1, a2, a3, a4⟩ | ⟨lf, rt, a1, a2, a3, a4, a5⟩
  · exact Or.inl ⟨a1, x2.trans a2, x3.trans a3, by rw [hv i (Nat.le_refl _), a4]⟩
  · refine Or.inr ⟨lf, rt, x2.trans a1, x3.trans a2, a3, a4, ?_⟩
    rcases a5 with ⟨b1, b2, b3⟩ | ⟨b1, b2⟩
    · exact Or.inl ⟨b1, b2, by rw [hv i (Nat.le_refl _), b3, hv rt (by omega)]⟩
    · exact Or.inr ⟨b1, by rw [hv i (Nat.le_refl _), b2, hv rt (by omega), hv lf (by omega)]⟩
theorem z_te_same {g : Nat} {v v' : Nat → z_LD D} {x y : q_W} {m m' i : Nat} {e : Nat × D × D × D} (h : z_te g v x m i e) (hm : m ≤ m') (hx : ∀ j, j < m → y.2 g j = x.2 g j ∧ y.2 (g + 1) j = x.2 (g + 1) j ∧ y.2 (g + 2) j = x.2 (g + 2) j ∧ y.2 (g + 3) j = x.2 (g + 3) j) (hv : ∀ j, j < m → v' j = v j) : z_te g v' y m' i e := by
  obtain ⟨j, sg, lf, rt, h1, h2, h3, h4, h5, h6, h7, h8, h9, h10, h11⟩ := h
  obtain ⟨x1, x2, x3, x4⟩ := hx j h1
  refine ⟨j, sg, lf, rt, by omega, x1.trans h2, x2.trans h3, x3.trans h4, x4.trans h5, h6, h7, h8, h9, h10, ?_⟩
  rw [h11, hv j h1, hv lf (by omega), hv rt (by omega)]
/-- what stands before a part is made: the operators O that wait behind it, the values V1 under it; the part's own sign c and number i, if it is an operator's, wait no more -/
theorem z_Mo_part {x y : q_W} {v : Nat → z_LD D} {m tt c i : Nat} {O O0 : List (Nat × Nat)} {V1 : List (z_LD D)} {d : z_LD D} {a b : Int32}
    (h18 : y.2 32 18 = zi tt) (h22 : y.2 32 22 = zi O.length) (hOp : z_Op y O) (hV : z_Vl y v m V1) (hnd : ∀ j, j < m → z_nm (z_lg A) 40 v y j) (hun : z_un 40 y m tt O0) (hlg : ∀ j, j < m → ∀ q e, (v j).2 q = some e → z_te 40 v y m q e)
    (hi : i < 20) (hO : (z_op c = true ∧ O0 = (c, i) :: O) ∨ (z_leaf c = true ∧ O0 = O))
    (hsh : (z_leaf c = true ∧ a = -1 ∧ b = -1 ∧ d = (z_lg A).1 c) ∨ ∃ lf rt : Nat, a = zi lf ∧ b = zi rt ∧ lf < m ∧ rt < m ∧ ((z_pre c = true ∧ lf = rt ∧ d = (z_lg A).2.1 c i (v rt)) ∨ (z_jn c < 4 ∧ d = (z_lg A).2.2 c i (v lf) (v rt))))
    (hp : z_Pt m V1.length (z_kd c) i a b y x) : z_Mo A x (fun j => if j = m then d else v j) (m + 1) tt O (d :: V1) := by
  obtain ⟨p1, p2, p3, p4, p5, ⟨p6, p7, p8, p9, p10⟩, p11, p12⟩ := hp
  have hv1 : ∀ j, j < m → (if j = m then d else v j) = v j := fun j hj => by rw [if_neg (by omega)]
  have hkd := z_kd_lt c
  have hT : (zi 6 ≤ x.2 40 m ∧ x.2 40 m ≤ zi 10) → z_op c = true ∧ O0 = (c, i) :: O ∧ z_T c = true := by
    intro h
    rw [p6, zi_le (by omega) (by omega), zi_le (by omega) (by omega)] at h
    rcases hO with ⟨h1, h2⟩ | ⟨h1, h2⟩
    · exact ⟨h1, h2, (z_tight (x := x) (Or.inl h1)).2.2.mpr h⟩
    · exfalso
      simp only [z_leaf, Bool.or_eq_true, beq_iff_eq] at h1
      rcases h1 with (((rfl | rfl) | rfl) | rfl) | rfl <;> revert h <;> decide
  have hsub : ∀ q, z_On O q → z_On O0 q := by
    rintro q ⟨c', h1, h2⟩
    rcases hO with ⟨-, h⟩ | ⟨-, h⟩
    · rw [h]; exact ⟨c', List.mem_cons_of_mem _ h1, h2⟩
    · rw [h]; exact ⟨c', h1, h2⟩
  obtain ⟨u1, u2, u3⟩ := hun
  refine ⟨⟨p4, (p3 18 (by omega) (by omega)).trans h18, p5, (p3 22 (by omega) (by omega)).trans h22⟩, z_Op_same hOp (fun j _ => by rw [p2 45 (by omega)]), ⟨⟨m, p10, by omega, by simp⟩, z_Vl_same hV (fun j hj => p12 j (by omega)) (by omega) hv1⟩, fun j hj => ?_, ⟨fun j hj nu n1 n2 n3 => ?_, fun q hq => u2 q (hsub q hq), ?_⟩, fun j hj q e he => ?_, fun d0 V0 h0 => by cases h0; rw [p10, Nat.add_sub_cancel]⟩
  · by_cases hjm : j = m
    · subst hjm
      refine ⟨c, i, p6, p9, hi, ?_⟩
      simp only [if_true]
      rcases hsh with ⟨e1, e2, e3, e4⟩ | ⟨lf, rt, e1, e2, e3, e4, e5⟩
      · exact Or.inl ⟨e1, p7.trans e2, p8.trans e3, e4⟩
      · refine Or.inr ⟨lf, rt, p7.trans e1, p8.trans e2, e3, e4, ?_⟩
        rw [hv1 lf e3, hv1 rt e4]
        exact e5
    · exact z_nm_same (hnd j (by omega)) (p11 j hjm) (fun j' hj' => hv1 j' (by omega))
  · by_cases hjm : j = m
    · subst hjm
      obtain ⟨t1, t2, t3⟩ := hT n3
      have hnu : nu = i := by
        rw [p9] at n1
        exact ((zi_eq (by omega) (by omega)).mp n1).symm
      subst hnu
      have hon : z_On O0 nu := ⟨c, by rw [t2]; exact List.mem_cons_self, t3⟩
      refine ⟨u2 nu hon, ?_, fun j' hj' m1 m2 => ?_⟩
      · rintro ⟨c', m1, m2⟩
        rw [t2, List.pairwise_cons] at u3
        exact u3.1 _ m1 t3 m2 rfl
      · refine Classical.byContradiction fun hne => ?_
        obtain ⟨q1, -, -, q4⟩ := p11 j' hne
        rw [q4] at m1
        rw [q1] at m2
        exact (u1 j' (by omega) nu m1 n2 m2).2.1 hon
    · obtain ⟨q1, -, -, q4⟩ := p11 j hjm
      have n1' : y.2 43 j = zi nu := by rw [← q4]; exact n1
      have n3' : zi 6 ≤ y.2 40 j ∧ y.2 40 j ≤ zi 10 := by rw [← q1]; exact n3
      obtain ⟨w1, w2, w3⟩ := u1 j (by omega) nu n1' n2 n3'
      refine ⟨w1, fun h => w2 (hsub nu h), fun j' hj' m1 m2 => ?_⟩
      by_cases hjm' : j' = m
      · subst hjm'
        obtain ⟨t1, t2, t3⟩ := hT m2
        have hnu : nu = i := by
          rw [p9] at m1
          exact ((zi_eq (by omega) (by omega)).mp m1).symm
        exact absurd ⟨c, by rw [t2, hnu]; exact List.mem_cons_self, t3⟩ w2
      · obtain ⟨r1, -, -, r4⟩ := p11 j' hjm'
        exact w3 j' (by omega) (by rw [← r4]; exact m1) (by rw [← r1]; exact m2)
  · rcases hO with ⟨-, h⟩ | ⟨-, h⟩
    · rw [h, List.pairwise_cons] at u3
      exact u3.2
    · rw [h] at u3
      exact u3
  · have hold : ∀ w, w < m → (v w).2 q = some e → z_te 40 (fun j => if j = m then d else v j) x (m + 1) q e := fun w hw hq => z_te_same (hlg w hw q e hq) (by omega) (fun j hj => p11 j (by omega)) hv1
    by_cases hjm : j = m
    · subst hjm
      simp only [if_true] at he
      rcases hsh with ⟨e1, e2, e3, e4⟩ | ⟨lf, rt, e1, e2, e3, e4, e5⟩
      · rw [e4] at he
        cases he
      · have hown : z_op c = true → z_T c = true → q = i → some (c, d.1, (v lf).1, (v rt).1) = some e → z_te 40 (fun k => if k = j then d else v k) x (j + 1) q e := by
          intro o1 o2 o3 o4
          refine ⟨j, c, lf, rt, by omega, p6, p7.trans e1, p8.trans e2, by rw [o3]; exact p9, e3, e4, by omega, o1, o2, ?_⟩
          simp only [if_true]
          rw [hv1 lf e3, hv1 rt e4]
          exact (Option.some.inj o4).symm
        rcases e5 with ⟨f1, f2, f3⟩ | ⟨f1, f2⟩
        · by_cases hq : z_T c = true ∧ q = i
          · refine hown (by simp [z_op, f1]) hq.1 hq.2 ?_
            rw [← he, f3, f2]
            simp [z_lg, hq]
          · refine hold rt e4 ?_
            rw [← he, f3]
            simp [z_lg, hq]
        · by_cases hq : z_T c = true ∧ q = i
          · refine hown (by simp [z_op, f1]) hq.1 hq.2 ?_
            rw [← he, f2]
            simp [z_lg, hq]
          · have he' : ((v lf).2 q).or ((v rt).2 q) = some e := by
              rw [← he, f2]
              simp [z_lg, hq]
            cases hl : (v lf).2 q with
            | none =>
              rw [hl] at he'
              exact hold rt e4 he'
            | some e0 =>
              rw [hl] at he'
              have : e0 = e := by simpa using he'
              exact hold lf e3 (by rw [hl, this])
    · have he : (v j).2 q = some e := by rw [← hv1 j (by omega)]; exact he
      exact hold j (by omega) he
end ZM
