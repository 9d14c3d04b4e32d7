/-! BOTH FORMULAS AT ONCE: in every algebra the same values. -/
section ZF
variable {D : Type}
def z_FA (A : z_A D) (c s t : Nat) (v v' : Nat → D) (x : q_W) : Prop := (∀ i, i < s → z_nd A c v x i) ∧ (∀ i, i < s → z_nm A 34 v' x i) ∧ v (s - 1) = v' (s - 1) ∧ ∀ i, i < t → ∃ j rt j' rt' sg : Nat, (x.2 (c + 5) i = zi j ∧ j < s ∧ x.2 (c + 1) j = zi sg ∧ x.2 (c + 3) j = zi rt ∧ rt < j) ∧ (x.2 38 i = zi j' ∧ j' < s ∧ x.2 34 j' = zi (z_kd sg) ∧ x.2 36 j' = zi rt' ∧ rt' < j') ∧ z_T sg = true ∧ sg < 200 ∧ v j = v' j' ∧ v rt = v' rt'
theorem z_nd_fst {A : z_A D} {f : Nat} {v : Nat → z_LD D} {x : q_W} {i : Nat} (h : z_nd (z_lg A) f v x i) : z_nd A f (fun i => (v i).1) x i := by
  obtain ⟨sg, lf, rt, nu, h1, h2, h3, h4, h5, h6, h7⟩ := h
  refine ⟨sg, lf, rt, nu, h1, h2, h3, h4, h5, h6, ?_⟩
  rcases h7 with ⟨a, b, c, e⟩ | ⟨a, b, c, e⟩ | ⟨a, b, c, e⟩
  · exact Or.inl ⟨a, b, c, congrArg Prod.fst e⟩
  · exact Or.inr (Or.inl ⟨a, b, c, congrArg Prod.fst e⟩)
  · exact Or.inr (Or.inr ⟨a, b, c, congrArg Prod.fst e⟩)
theorem z_nm_fst {A : z_A D} {g : Nat} {v : Nat → z_LD D} {x : q_W} {i : Nat} (h : z_nm (z_lg A) g v x i) : z_nm A g (fun i => (v i).1) x i := by
  obtain ⟨sg, nu, h1, h2, h3, h4⟩ := h
  refine ⟨sg, nu, h1, h2, h3, ?_⟩
  rcases h4 with ⟨a, b, c, e⟩ | ⟨lf, rt, a, b, c, d, e⟩
  · exact Or.inl ⟨a, b, c, congrArg Prod.fst e⟩
  · refine Or.inr ⟨lf, rt, a, b, c, d, ?_⟩
    rcases e with ⟨e1, e2, e3⟩ | ⟨e1, e2⟩
    · exact Or.inl ⟨e1, e2, congrArg Prod.fst e3⟩
    · exact Or.inr ⟨e1, congrArg Prod.fst e2⟩
theorem z_FA_mk {A : z_A D} {n c s t : Nat} {ch : Nat → Nat} {v v' : Nat → z_LD D} {x : q_W} (hC : z_CA A c s t v x) (aC : z_Acc A n ch (v (s - 1))) (hR : z_RA A 34 s t v' x) (aR : z_Acc A n ch (v' (s - 1))) (hl : ∀ j, j < s → ∀ nu, nu < 20 → x.2 37 j = zi nu → z_tm (x.2 34 j) → x.2 38 nu = zi j) : z_FA A c s t (fun i => (v i).1) (fun i => (v' i).1) x := by
  obtain ⟨c1, c2, c3, c4, c5, c6⟩ := hC
  obtain ⟨r1, r2, r3⟩ := hR
  have hroot : v (s - 1) = v' (s - 1) := by
    have := aC.2
    rw [aR.2] at this
    injection this with this
    injection this with this
    injection this with this
    exact this.symm
  refine ⟨fun i hi => z_nd_fst (c5 i hi), fun i hi => z_nm_fst (r1 i hi), congrArg Prod.fst hroot, fun i hi => ?_⟩
  obtain ⟨e, e1, j, sg, lf, rt, g1, g2, g3, g4, g5, g6, g7, g8, g9, g10, g11⟩ := c6 i hi
  rw [hroot] at e1
  obtain ⟨j', sg', lf', rt', k1, k2, k3, k4, k5, k6, k7, k8, k9, k10, k11⟩ := r3 i e e1
  rw [g11] at k11
  injection k11 with q1 q2
  injection q2 with q2 q3
  injection q3 with q3 q4
  subst q1
  have hkd := z_tight (x := x) (Or.inl k9)
  have htm : z_tm (x.2 34 j') := by
    have := z_kd_lt sg
    unfold z_tm
    rw [k2, zi_le (by omega) (by omega), zi_le (by omega) (by omega)]
    exact hkd.2.2.mp k10
  exact ⟨j, rt, j', rt', sg, ⟨g1, g2, g3, g5, g9⟩, ⟨hl j' k1 i k8 k5 htm, k1, k2, k4, k7⟩, g10, g7, q2, q4⟩
/-- the formula at c and the reference's, as both are kept -/
def z_ZF (c s t : Nat) (pr : List Nat) (x : q_W) : Prop := (1 ≤ s ∧ s ≤ 18 ∧ t ≤ 5 ∧ pr.length ≤ t) ∧ (x.2 c 7 = zi s ∧ x.2 c 8 = zi t ∧ x.2 c 9 = zi pr.length) ∧ (x.2 32 4 = zi s ∧ x.2 32 9 = zi t ∧ x.2 32 11 = zi pr.length) ∧ (∀ k, k < pr.length → pr.getD k 0 < t ∧ x.2 (c + 6) k = x.2 (c + 5) (pr.getD k 0) ∧ x.2 39 k = x.2 38 (pr.getD k 0)) ∧ ∀ (D : Type) (A : z_A D), z_as A → ∃ v v', z_FA A c s t v v' x
theorem z_FA_same {A : z_A D} {c s t : Nat} {v v' : Nat → D} {x y : q_W} (h : z_FA A c s t v v' x) (h1 : ∀ q, c + 1 ≤ q → q ≤ c + 5 → y.2 q = x.2 q) (h2 : ∀ q, 34 ≤ q → q ≤ 38 → y.2 q = x.2 q) : z_FA A c s t v v' y := by
  obtain ⟨a1, a2, a3, a4⟩ := h
  refine ⟨fun i hi => z_nd_same (a1 i hi) ⟨by rw [h1 _ (by omega) (by omega)], by rw [h1 _ (by omega) (by omega)], by rw [h1 _ (by omega) (by omega)], by rw [h1 _ (by omega) (by omega)]⟩ (fun _ _ => rfl), fun i hi => z_nm_same (a2 i hi) ⟨by rw [h2 _ (by omega) (by omega)], by rw [h2 _ (by omega) (by omega)], by rw [h2 _ (by omega) (by omega)], by rw [h2 _ (by omega) (by omega)]⟩ (fun _ _ => rfl), a3, ?_⟩
  rw [h1 (c + 5) (by omega) (by omega), h1 (c + 1) (by omega) (by omega), h1 (c + 3) (by omega) (by omega), h2 38 (by omega) (by omega), h2 34 (by omega) (by omega), h2 36 (by omega) (by omega)]
  exact a4
theorem z_ZF_same {c s t : Nat} {pr : List Nat} {x y : q_W} (h : z_ZF c s t pr x) (h0 : y.2 c 7 = x.2 c 7 ∧ y.2 c 8 = x.2 c 8 ∧ y.2 c 9 = x.2 c 9) (h1 : ∀ q, c + 1 ≤ q → q ≤ c + 6 → y.2 q = x.2 q) (h2 : ∀ q, 34 ≤ q → q ≤ 39 → y.2 q = x.2 q) (h3 : y.2 32 4 = x.2 32 4 ∧ y.2 32 9 = x.2 32 9 ∧ y.2 32 11 = x.2 32 11) : z_ZF c s t pr y := by
  obtain ⟨a1, a2, a3, a4, a5⟩ := h
  refine ⟨a1, ?_, ?_, ?_, fun D A hA => ?_⟩
  · rw [h0.1, h0.2.1, h0.2.2]; exact a2
  · rw [h3.1, h3.2.1, h3.2.2]; exact a3
  · rw [h1 (c + 6) (by omega) (by omega), h1 (c + 5) (by omega) (by omega), h2 39 (by omega) (by omega), h2 38 (by omega) (by omega)]
    exact a4
  · obtain ⟨v, v', h⟩ := a5 D A hA
    exact ⟨v, v', z_FA_same h (fun q a b => h1 q a (by omega)) (fun q a b => h2 q a (by omega))⟩
def z_U0 : z_A Unit := (fun _ => (), fun _ _ _ => (), fun _ _ _ _ => ())
theorem z_U0_as : z_as z_U0 := fun _ _ _ _ _ _ _ _ _ => rfl
theorem z_g_gm {A : z_A D} {c s t : Nat} {v v' : Nat → D} {x : q_W} (hs : s ≤ 18) (h : z_FA A c s t v v' x) {i : Nat} (hi : i < t) : z_g c x i = z_gm x i := by
  obtain ⟨j, rt, j', rt', sg, ⟨g1, g2, g3, -⟩, ⟨k1, k2, k3, -⟩, hT, h200, -⟩ := h.2.2.2 i hi
  unfold z_g z_gm
  rw [g1, zi_nat (by omega), g3, k1, zi_nat (by omega), k3]
  simp only [z_T, Bool.or_eq_true, beq_iff_eq] at hT
  rcases hT with (((rfl | rfl) | rfl) | rfl) | rfl <;> decide
theorem z_pl_congr {g g' : Nat → Bool} {t : Nat} (h : ∀ i, i < t → g i = g' i) : z_pl g t = z_pl g' t := by
  unfold z_pl
  apply List.filter_congr
  intro i hi
  exact h i (List.mem_range.mp hi)
end ZF
