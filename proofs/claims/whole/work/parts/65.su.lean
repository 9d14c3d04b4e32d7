/-! THE CLASS'S READING: what a success leaves in the formula at f. -/
def z_nc (tok : Nat → Nat) : Nat → Nat
  | 0 => 0
  | p + 1 => z_nc tok p + (if tok p = 40 ∨ tok p = 41 then 0 else 1)
theorem z_nc_le (tok : Nat → Nat) (p : Nat) : z_nc tok p ≤ p := by
  induction p with
  | zero => exact Nat.le_refl _
  | succ p ih =>
    simp only [z_nc]
    split <;> omega
theorem z_tb_add (tok : Nat → Nat) (p k : Nat) : z_tb tok p ≤ z_tb tok (p + k) := by
  induction k with
  | zero => exact Nat.le_refl _
  | succ k ih =>
    rw [← Nat.add_assoc]
    simp only [z_tb]
    omega
theorem z_tb_mono {tok : Nat → Nat} {p q : Nat} (h : p ≤ q) : z_tb tok p ≤ z_tb tok q := by
  obtain ⟨k, rfl⟩ := Nat.le.dest h
  exact z_tb_add tok p k
theorem z_tb_le (tok : Nat → Nat) (p : Nat) : z_tb tok p ≤ p := by
  induction p with
  | zero => exact Nat.le_refl _
  | succ p ih =>
    simp only [z_tb]
    split <;> omega
def z_s4 (f : Nat) (x y : q_W) (i : Nat) : Prop := y.2 (f + 1) i = x.2 (f + 1) i ∧ y.2 (f + 2) i = x.2 (f + 2) i ∧ y.2 (f + 3) i = x.2 (f + 3) i ∧ y.2 (f + 4) i = x.2 (f + 4) i
section ZU
variable {D : Type} (A : z_A D) (tok : Nat → Nat) (n f : Nat)
def z_Su (p s t : Nat) (v : Nat → z_LD D) (x : q_W) (p' s' t' : Nat) (v' : Nat → z_LD D) (y : q_W) (root : Nat) : Prop :=
  (p < p' ∧ p' ≤ n ∧ root + 1 = s' ∧ s ≤ s' ∧ s' + z_nc tok p = s + z_nc tok p' ∧ t' + z_tb tok p = t + z_tb tok p')
  ∧ (y.2 f 7 = zi s' ∧ y.2 f 8 = zi t') ∧ (∀ i, i < s → v' i = v i) ∧ (∀ i, i < s → z_s4 f x y i) ∧ (∀ i, i < s' → z_nd (z_lg A) f v' y i)
  ∧ (∀ i, ¬ (z_tb tok p ≤ i ∧ i < z_tb tok p') → y.2 (f + 5) i = x.2 (f + 5) i)
  ∧ (∀ i, z_tb tok p ≤ i → i < z_tb tok p' → ∃ e, (v' root).2 i = some e ∧ z_tp f v' y s' i e)
  ∧ (∀ i, ¬ (z_tb tok p ≤ i ∧ i < z_tb tok p') → (v' root).2 i = none)
variable {A tok n f}
theorem z_Su_w {p s t : Nat} {v : Nat → z_LD D} {x x' : q_W} {p' s' t' : Nat} {v' : Nat → z_LD D} {y y' : q_W} {root : Nat} (h : z_Su A tok n f p s t v x p' s' t' v' y root) (hf : 3 ≤ f) (hx : ∀ q, 3 ≤ q → x'.2 q = x.2 q) (hy : ∀ q, 3 ≤ q → y'.2 q = y.2 q) : z_Su A tok n f p s t v x' p' s' t' v' y' root := by
  obtain ⟨h1, h2, h3, h4, h5, h6, h7, h8⟩ := h
  refine ⟨h1, ?_, h3, fun i hi => ?_, fun i hi => ?_, fun i hi => ?_, fun i a b => ?_, h8⟩
  · rw [hy f hf]; exact h2
  · have := h4 i hi
    unfold z_s4 at this ⊢
    rw [hy _ (by omega), hy _ (by omega), hy _ (by omega), hy _ (by omega), hx _ (by omega), hx _ (by omega), hx _ (by omega), hx _ (by omega)]
    exact this
  · refine z_nd_same (h5 i hi) ?_ (fun _ _ => rfl)
    rw [hy _ (by omega), hy _ (by omega), hy _ (by omega), hy _ (by omega)]
    exact ⟨rfl, rfl, rfl, rfl⟩
  · rw [hy _ (by omega), hx _ (by omega)]
    exact h6 i hi
  · obtain ⟨e, e1, e2⟩ := h7 i a b
    refine ⟨e, e1, z_tp_same e2 (Nat.le_refl _) ?_ (fun j _ => ?_) (fun _ _ => rfl)⟩
    · rw [hy _ (by omega)]
    · rw [hy _ (by omega), hy _ (by omega), hy _ (by omega), hy _ (by omega)]
      exact ⟨rfl, rfl, rfl, rfl⟩
theorem z_Su_l {p s t : Nat} {v : Nat → z_LD D} {x : q_W} {p' s' t' : Nat} {v' : Nat → z_LD D} {y : q_W} {root : Nat} (h : z_Su A tok n f (p + 1) s t v x p' s' t' v' y root) (hp : tok p = 40) : z_Su A tok n f p s t v x p' s' t' v' y root := by
  have e1 : z_tb tok (p + 1) = z_tb tok p := by simp [z_tb, hp, z_T]
  have e2 : z_nc tok (p + 1) = z_nc tok p := by simp [z_nc, hp]
  unfold z_Su at h ⊢
  rw [e1, e2] at h
  obtain ⟨h1, h2⟩ := h
  exact ⟨⟨by omega, h1.2⟩, h2⟩
theorem z_Su_r {p s t : Nat} {v : Nat → z_LD D} {x : q_W} {p' s' t' : Nat} {v' : Nat → z_LD D} {y : q_W} {root : Nat} (h : z_Su A tok n f p s t v x p' s' t' v' y root) (hp : tok p' = 41) (hn : p' < n) : z_Su A tok n f p s t v x (p' + 1) s' t' v' y root := by
  have e1 : z_tb tok (p' + 1) = z_tb tok p' := by simp [z_tb, hp, z_T]
  have e2 : z_nc tok (p' + 1) = z_nc tok p' := by simp [z_nc, hp]
  unfold z_Su at h ⊢
  rw [e1, e2]
  obtain ⟨h1, h2⟩ := h
  exact ⟨⟨by omega, by omega, h1.2.2⟩, h2⟩
/-- a part added behind s1 others -/
theorem z_Su_add {p s t : Nat} {v : Nat → z_LD D} {x : q_W} {p' s1 t1 : Nat} {v1 : Nat → z_LD D} {y z : q_W} {c lf rt nu : Nat} {d : z_LD D}
    (hp : p < p') (hn : p' ≤ n) (hs : s ≤ s1) (hsc : s1 + 1 + z_nc tok p = s + z_nc tok p') (htc : t1 + (if z_T c then 1 else 0) + z_tb tok p = t + z_tb tok p')
    (hv : ∀ i, i < s → v1 i = v i) (h4 : ∀ i, i < s → z_s4 f x y i) (hnd : ∀ i, i < s1 → z_nd (z_lg A) f v1 y i)
    (hnu : nu ≤ 18) (hc : c < 200)
    (hsh : (z_leaf c = true ∧ lf = 0 ∧ rt = 0 ∧ d = (z_lg A).1 c) ∨ (z_pre c = true ∧ lf = rt ∧ rt < s1 ∧ d = (z_lg A).2.1 c nu (v1 rt)) ∨ (z_jn c < 4 ∧ lf < s1 ∧ rt < s1 ∧ d = (z_lg A).2.2 c nu (v1 lf) (v1 rt)))
    (h5 : ∀ i, ¬ (z_tb tok p ≤ i ∧ i < z_tb tok p') → y.2 (f + 5) i = x.2 (f + 5) i)
    (hT : z_T c = true → z_tb tok p ≤ nu ∧ nu < z_tb tok p' ∧ d.2 nu = some (c, d.1, (v1 lf).1, (v1 rt).1) ∧ lf < s1 ∧ rt < s1)
    (hin : ∀ i, z_tb tok p ≤ i → i < z_tb tok p' → ¬ (z_T c = true ∧ i = nu) → ∃ e, d.2 i = some e ∧ z_tp f v1 y s1 i e)
    (hout : ∀ i, ¬ (z_tb tok p ≤ i ∧ i < z_tb tok p') → d.2 i = none)
    (had : z_Ad f s1 t1 c lf rt nu y z) : z_Su A tok n f p s t v x p' (s1 + 1) (t1 + (if z_T c then 1 else 0)) (fun i => if i = s1 then d else v1 i) z s1 := by
  obtain ⟨a1, a2, a3, a4, ⟨b1, b2, b3, b4⟩, a6, a7, a8⟩ := had
  have hv1 : ∀ j, j < s1 → (if j = s1 then d else v1 j) = v1 j := fun j hj => by rw [if_neg (by omega)]
  refine ⟨⟨hp, hn, by omega, by omega, hsc, htc⟩, ⟨a3, a4⟩, fun i hi => ?_, fun i hi => ?_, fun i hi => ?_, fun i hi => ?_, fun i i1 i2 => ?_, fun i hi => ?_⟩
  · exact (hv1 i (by omega)).trans (hv i hi)
  · obtain ⟨c1, c2, c3, c4⟩ := a6 i (by omega)
    obtain ⟨d1, d2, d3, d4⟩ := h4 i hi
    exact ⟨c1.trans d1, c2.trans d2, c3.trans d3, c4.trans d4⟩
  · by_cases his : i = s1
    · subst his
      refine ⟨c, lf, rt, nu, b1, b2, b3, b4, hnu, hc, ?_⟩
      simp only [if_true]
      rcases hsh with ⟨e1, e2, e3, e4⟩ | ⟨e1, e2, e3, e4⟩ | ⟨e1, e2, e3, e4⟩
      · exact Or.inl ⟨e1, e2, e3, e4⟩
      · exact Or.inr (Or.inl ⟨e1, e2, e3, by rw [hv1 rt e3]; exact e4⟩)
      · exact Or.inr (Or.inr ⟨e1, e2, e3, by rw [hv1 rt e3, hv1 lf e2]; exact e4⟩)
    · exact z_nd_same (hnd i (by omega)) (a6 i his) (fun j hj => hv1 j (by omega))
  · rw [a8 i (fun h => hi (by rw [h.2]; exact ⟨(hT h.1).1, (hT h.1).2.1⟩)), h5 i hi]
  · by_cases hc1 : z_T c = true ∧ i = nu
    · obtain ⟨g1, rfl⟩ := hc1
      obtain ⟨-, -, g2, g3, g4⟩ := hT g1
      refine ⟨(c, d.1, (v1 lf).1, (v1 rt).1), by simp only [if_true]; exact g2, s1, c, lf, rt, a7 g1, by omega, b1, b2, b3, b4, hc, g3, g4, g1, ?_⟩
      simp only [if_true]
      rw [hv1 lf g3, hv1 rt g4]
    · obtain ⟨e, e1, e2⟩ := hin i i1 i2 hc1
      refine ⟨e, by simp only [if_true]; exact e1, z_tp_same e2 (by omega) (a8 i hc1) (fun j hj => a6 j (by omega)) (fun j hj => hv1 j hj)⟩
  · simp only [if_true]
    exact hout i hi
end ZU
