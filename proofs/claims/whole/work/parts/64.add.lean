/-! A PART PUT BEHIND THE OTHERS (the class), and the log of the temporal parts. -/
theorem z_wrv {x : q_W} {p k p' k' : Nat} {v : Int32} : (q_wr x p k v).2 p' k' = if p' = p ∧ k' = k then v else x.2 p' k' := by
  by_cases hp : p' = p
  · by_cases hk : k' = k
    · rw [if_pos ⟨hp, hk⟩, hp, hk, z_wr1]
    · rw [if_neg (fun h => hk h.2), z_wr2 (Or.inr hk)]
  · rw [if_neg (fun h => hp h.1), z_wr2 (Or.inl hp)]
theorem z_wrf {x : q_W} {p k p' : Nat} {v : Int32} (h : p' ≠ p) : (q_wr x p k v).2 p' = x.2 p' := z_wrp h
/-- what adding a part to the formula at f makes of x -/
def z_Ad (f s t c a b nu : Nat) (x y : q_W) : Prop :=
  y.1 = x.1 ∧ (∀ q, q < f ∨ f + 5 < q → y.2 q = x.2 q) ∧ y.2 f 7 = zi (s + 1) ∧ y.2 f 8 = zi (t + (if z_T c then 1 else 0))
  ∧ (y.2 (f + 1) s = zi c ∧ y.2 (f + 2) s = zi a ∧ y.2 (f + 3) s = zi b ∧ y.2 (f + 4) s = zi nu)
  ∧ (∀ i, i ≠ s → y.2 (f + 1) i = x.2 (f + 1) i ∧ y.2 (f + 2) i = x.2 (f + 2) i ∧ y.2 (f + 3) i = x.2 (f + 3) i ∧ y.2 (f + 4) i = x.2 (f + 4) i)
  ∧ (z_T c = true → y.2 (f + 5) nu = zi s) ∧ (∀ i, ¬ (z_T c = true ∧ i = nu) → y.2 (f + 5) i = x.2 (f + 5) i)
theorem z_add {f s t c a b nu : Nat} {x : q_W} (hs : x.2 f 7 = zi s) (ht : x.2 f 8 = zi t) (hs18 : s < 18) (hc : c < 200) (hnu : nu ≤ 18) (hT : z_T c = true → nu < 5) : ∃ y, f_Fo_add f x (zi c) (zi a) (zi b) (zi nu) = some (zi s, y) ∧ z_Ad f s t c a b nu x y := by
  unfold f_Fo_add
  rw [if_pos (by rw [hs]; exact (zi_lt (m := 18) (by omega) (by omega)).mpr hs18)]
  simp only [hs, z_sto hs18 (show 18 < 2147483648 by omega), Option.bind_some, z_wrv, show ¬ (f = f + 1) by omega, show ¬ (f = f + 2) by omega, show ¬ (f = f + 3) by omega, show ¬ (f = f + 4) by omega, false_and, if_false, z_isT (show c < 2147483648 by omega)]
  by_cases h : z_T c = true
  · have h5 := hT h
    simp only [h, if_true, z_nb1]
    rw [if_neg z_10, if_neg (by rw [show (5 : Int32) = zi 5 from rfl, zi_le (by omega) (by omega)]; omega), z_sto h5 (by omega)]
    simp only [Option.bind_some, q_let, f_Fo_add_J86]
    refine ⟨_, congrArg some (Prod.ext ?_ rfl), rfl, fun q hq => ?_, ?_, ?_, ⟨?_, ?_, ?_, ?_⟩, fun i hi => ⟨?_, ?_, ?_, ?_⟩, fun _ => ?_, fun i hi => ?_⟩
    · simp [z_wrv, hs]
    · rw [z_wrf (by omega), z_wrf (by omega), z_wrf (by omega), z_wrf (by omega), z_wrf (by omega), z_wrf (by omega), z_wrf (by omega)]
    · simp [z_wrv, hs, zi_succ]
    · simp [z_wrv, ht, zi_succ, h]
    · simp [z_wrv]
    · simp [z_wrv]
    · simp [z_wrv]
    · simp [z_wrv]
    · simp [z_wrv, hi]
    · simp [z_wrv, hi]
    · simp [z_wrv, hi]
    · simp [z_wrv, hi]
    · simp [z_wrv]
    · have hi' : i ≠ nu := fun e => hi ⟨h, e⟩
      simp [z_wrv, hi']
  · simp only [h, if_false, z_nb0, if_true, Bool.false_eq_true]
    simp only [q_let, f_Fo_add_J86]
    refine ⟨_, congrArg some (Prod.ext ?_ rfl), rfl, fun q hq => ?_, ?_, ?_, ⟨?_, ?_, ?_, ?_⟩, fun i hi => ⟨?_, ?_, ?_, ?_⟩, fun h1 => absurd h1 h, fun i hi => ?_⟩
    · simp [z_wrv, hs]
    · rw [z_wrf (by omega), z_wrf (by omega), z_wrf (by omega), z_wrf (by omega), z_wrf (by omega)]
    · simp [z_wrv, hs, zi_succ]
    · simp [z_wrv, ht, h]
    · simp [z_wrv]
    · simp [z_wrv]
    · simp [z_wrv]
    · simp [z_wrv]
    · simp [z_wrv, hi]
    · simp [z_wrv, hi]
    · simp [z_wrv, hi]
    · simp [z_wrv, hi]
    · simp [z_wrv]
abbrev z_LD (D : Type) : Type := D × (Nat → Option (Nat × D × D × D))
/-- the algebra A, with a log of the temporal parts: sign, the part's own value, left, right -/
def z_lg {D : Type} (A : z_A D) : z_A (z_LD D) :=
  (fun c => (A.1 c, fun _ => none),
   fun c i u => (A.2.1 c i u.1, fun k => if z_T c = true ∧ k = i then some (c, A.2.1 c i u.1, u.1, u.1) else u.2 k),
   fun c i u w => (A.2.2 c i u.1 w.1, fun k => if z_T c = true ∧ k = i then some (c, A.2.2 c i u.1 w.1, u.1, w.1) else (u.2 k).or (w.2 k)))
theorem z_lg_as {D : Type} {A : z_A D} (h : z_as A) : z_as (z_lg A) := by
  intro c hc i j i' j' u v w
  have hT : ¬ z_T c = true := by rcases hc with rfl | rfl <;> decide
  simp only [z_lg, hT, false_and, if_false]
  refine Prod.ext (h c hc i j i' j' _ _ _) ?_
  funext k
  exact Option.or_assoc
/-- the part at i of the formula at f, whose value is v i -/
def z_nd {D : Type} (A : z_A D) (f : Nat) (v : Nat → D) (x : q_W) (i : Nat) : Prop := ∃ sg lf rt nu : Nat, x.2 (f + 1) i = zi sg ∧ x.2 (f + 2) i = zi lf ∧ x.2 (f + 3) i = zi rt ∧ x.2 (f + 4) i = zi nu ∧ nu ≤ 18 ∧ sg < 200 ∧ ((z_leaf sg = true ∧ lf = 0 ∧ rt = 0 ∧ v i = A.1 sg) ∨ (z_pre sg = true ∧ lf = rt ∧ rt < i ∧ v i = A.2.1 sg nu (v rt)) ∨ (z_jn sg < 4 ∧ lf < i ∧ rt < i ∧ v i = A.2.2 sg nu (v lf) (v rt)))
theorem z_nd_same {D : Type} {A : z_A D} {f : Nat} {v v' : Nat → D} {x y : q_W} {i : Nat} (h : z_nd A f v x i) (hx : y.2 (f + 1) i = x.2 (f + 1) i ∧ y.2 (f + 2) i = x.2 (f + 2) i ∧ y.2 (f + 3) i = x.2 (f + 3) i ∧ y.2 (f + 4) i = x.2 (f + 4) i) (hv : ∀ j, j ≤ i → v' j = v j) : z_nd A f v' y i := by
  obtain ⟨sg, lf, rt, nu, h1, h2, h3, h4, h5, h6, h7⟩ := h
  refine ⟨sg, lf, rt, nu, hx.1.trans h1, hx.2.1.trans h2, hx.2.2.1.trans h3, hx.2.2.2.trans h4, h5, h6, ?_⟩
  rcases h7 with ⟨a1, a2, a3, a4⟩ | ⟨a1, a2, a3, a4⟩ | ⟨a1, a2, a3, a4⟩
  · exact Or.inl ⟨a1, a2, a3, by rw [hv i (Nat.le_refl _), a4]⟩
  · exact Or.inr (Or.inl ⟨a1, a2, a3, by rw [hv i (Nat.le_refl _), a4, hv rt (by omega)]⟩)
  · exact Or.inr (Or.inr ⟨a1, a2, a3, by rw [hv i (Nat.le_refl _), a4, hv rt (by omega), hv lf (by omega)]⟩)
/-- the log entry e is that of the part which the formula at f lists as its temporal part i -/
def z_tp {D : Type} (f : Nat) (v : Nat → z_LD D) (x : q_W) (s i : Nat) (e : Nat × D × D × D) : Prop := ∃ j sg lf rt : Nat, x.2 (f + 5) i = zi j ∧ j < s ∧ x.2 (f + 1) j = zi sg ∧ x.2 (f + 2) j = zi lf ∧ x.2 (f + 3) j = zi rt ∧ x.2 (f + 4) j = zi i ∧ sg < 200 ∧ lf < j ∧ rt < j ∧ z_T sg = true ∧ e = (sg, (v j).1, (v lf).1, (v rt).1)
theorem z_tp_same {D : Type} {f : Nat} {v v' : Nat → z_LD D} {x y : q_W} {s s' i : Nat} {e : Nat × D × D × D} (h : z_tp f v x s i e) (hs : s ≤ s') (h5 : y.2 (f + 5) i = x.2 (f + 5) i) (hx : ∀ j, j < s → y.2 (f + 1) j = x.2 (f + 1) j ∧ y.2 (f + 2) j = x.2 (f + 2) j ∧ y.2 (f + 3) j = x.2 (f + 3) j ∧ y.2 (f + 4) j = x.2 (f + 4) j) (hv : ∀ j, j < s → v' j = v j) : z_tp f v' y s' i e := by
  obtain ⟨j, sg, lf, rt, h1, h2, h3, h4, h6, h7, h8, h9, h10, h11, h12⟩ := h
  obtain ⟨g1, g2, g3, g4⟩ := hx j h2
  refine ⟨j, sg, lf, rt, h5.trans h1, by omega, g1.trans h3, g2.trans h4, g3.trans h6, g4.trans h7, h8, h9, h10, h11, ?_⟩
  rw [h12, hv j h2, hv lf (by omega), hv rt (by omega)]
