/-! THE REFERENCE KEEPS WHAT IT READ: the copy, the temporal parts' list, the promises' list. -/
def z_Cp (x y : q_W) : Prop := y.1 = x.1 ∧ (∀ q, q < 34 ∨ 38 < q → y.2 q = x.2 q)
theorem z_Cp_rf {x : q_W} : z_Cp x x := ⟨rfl, fun _ _ => rfl⟩
theorem z_Cp_tr {x y z : q_W} (h : z_Cp x y) (g : z_Cp y z) : z_Cp x z := ⟨g.1.trans h.1, fun q a => (g.2 q a).trans (h.2 q a)⟩
def z_tm (k : Int32) : Prop := zi 6 ≤ k ∧ k ≤ zi 10
theorem z_copy {s t : Nat} (hs : s ≤ 18) (ht : t ≤ 5) : ∀ (k i : Nat) (x : q_W), i ≤ s → s < i + k → x.2 32 4 = zi s → (∀ j, j < s → ∃ kd nu, x.2 40 j = zi kd ∧ kd < 15 ∧ x.2 43 j = zi nu ∧ nu < 20) → z_un 40 x s t [] → (∀ j, j < i → x.2 34 j = x.2 40 j ∧ x.2 35 j = x.2 41 j ∧ x.2 36 j = x.2 42 j ∧ x.2 37 j = x.2 43 j) → (∀ j, j < i → ∀ nu, nu < 20 → x.2 43 j = zi nu → z_tm (x.2 40 j) → x.2 38 nu = zi j) → ∃ y, f_Mo_formula_L64 k x (zi i) = f_Mo_formula_L152 q_fu y 0 ∧ z_Cp x y ∧ (∀ j, j < s → y.2 34 j = x.2 40 j ∧ y.2 35 j = x.2 41 j ∧ y.2 36 j = x.2 42 j ∧ y.2 37 j = x.2 43 j) ∧ (∀ j, j < s → ∀ nu, nu < 20 → x.2 43 j = zi nu → z_tm (x.2 40 j) → y.2 38 nu = zi j) := by
  intro k
  induction k with
  | zero => intro i x h1 h2; omega
  | succ k ih =>
    intro i x h1 h2 h4 hk hu hc hl
    simp only [f_Mo_formula_L64]
    by_cases his : i = s
    · subst his
      rw [if_pos (by rw [h4, zi_le (by omega) (by omega)]; omega)]
      exact ⟨x, rfl, z_Cp_rf, hc, hl⟩
    · rw [if_neg (by rw [h4, zi_le (by omega) (by omega)]; omega)]
      have hi : i < 18 := by omega
      simp only [z_ld hi (show 18 < 2147483648 by omega), z_sto hi (show 18 < 2147483648 by omega), Option.bind_some]
      obtain ⟨kd, nu, k1, k2, k3, k4⟩ := hk i (by omega)
      generalize hy : q_wr (q_wr (q_wr (q_wr x 34 i (x.2 40 i)) 35 i _) 36 i _) 37 i _ = y
      have e : ∀ q, q ≠ 34 → q ≠ 35 → q ≠ 36 → q ≠ 37 → y.2 q = x.2 q := fun q a b c d => by rw [← hy, z_wrp d, z_wrp c, z_wrp b, z_wrp a]
      have e34 : y.2 34 i = x.2 40 i := by rw [← hy, z_wrp (by omega), z_wrp (by omega), z_wrp (by omega), z_wr1]
      have e35 : y.2 35 i = x.2 41 i := by rw [← hy, z_wrp (by omega), z_wrp (by omega), z_wr1, z_wrp (by omega)]
      have e36 : y.2 36 i = x.2 42 i := by rw [← hy, z_wrp (by omega), z_wr1, z_wrp (by omega), z_wrp (by omega)]
      have e37 : y.2 37 i = x.2 43 i := by rw [← hy, z_wr1, z_wrp (by omega), z_wrp (by omega), z_wrp (by omega)]
      have eo : ∀ j, j ≠ i → y.2 34 j = x.2 34 j ∧ y.2 35 j = x.2 35 j ∧ y.2 36 j = x.2 36 j ∧ y.2 37 j = x.2 37 j := fun j hj => by
        rw [← hy]
        refine ⟨?_, ?_, ?_, ?_⟩ <;> simp [z_wrv, hj]
      have hCy : z_Cp x y := ⟨by rw [← hy]; rfl, fun q hq => e q (by omega) (by omega) (by omega) (by omega)⟩
      clear hy
      rw [e34, k1, z_isTm k2]
      simp only [Option.bind_some, zi_succ]
      have hc' : ∀ j, j < i + 1 → y.2 34 j = y.2 40 j ∧ y.2 35 j = y.2 41 j ∧ y.2 36 j = y.2 42 j ∧ y.2 37 j = y.2 43 j := fun j hj => by
        rw [e 40 (by omega) (by omega) (by omega) (by omega), e 41 (by omega) (by omega) (by omega) (by omega), e 42 (by omega) (by omega) (by omega) (by omega), e 43 (by omega) (by omega) (by omega) (by omega)]
        by_cases hji : j = i
        · subst hji; exact ⟨e34, e35, e36, e37⟩
        · obtain ⟨a, b, c, d⟩ := eo j hji
          obtain ⟨a', b', c', d'⟩ := hc j (by omega)
          exact ⟨a.trans a', b.trans b', c.trans c', d.trans d'⟩
      by_cases hT : 6 ≤ kd ∧ kd ≤ 10
      · rw [if_pos hT, if_neg z_10]
        have htm : z_tm (x.2 40 i) := by
          unfold z_tm
          rw [k1, zi_le (by omega) (by omega), zi_le (by omega) (by omega)]
          exact hT
        have hnt := hu.1 i (by omega) nu k3 k4 htm
        rw [e37, k3, z_sto (show nu < 5 by omega) (by omega)]
        simp only [Option.bind_some]
        generalize hz : q_wr y 38 nu (zi i) = z
        have z1 : ∀ q, q ≠ 38 → z.2 q = y.2 q := fun q hq => by rw [← hz, z_wrp hq]
        have hCz : z_Cp x z := z_Cp_tr hCy ⟨by rw [← hz]; rfl, fun q hq => z1 q (by omega)⟩
        have z2 : ∀ q, q < 34 ∨ 38 < q → z.2 q = x.2 q := hCz.2
        refine Exists.elim (ih (i + 1) z (by omega) (by omega) (by rw [z2 32 (by omega)]; exact h4) (fun j hj => by rw [z2 40 (by omega), z2 43 (by omega)]; exact hk j hj) (by unfold z_un; rw [z2 40 (by omega), z2 (40 + 3) (by omega)]; exact hu) (fun j hj => by rw [z1 34 (by omega), z1 35 (by omega), z1 36 (by omega), z1 37 (by omega), z1 40 (by omega), z1 41 (by omega), z1 42 (by omega), z1 43 (by omega)]; exact hc' j hj) (fun j hj nu' n1 n2 n3 => ?_)) (fun w hw9 => ?_)
        · rw [z2 43 (by omega)] at n2
          rw [z2 40 (by omega)] at n3
          by_cases hji : j = i
          · subst hji
            have : nu' = nu := by rw [k3] at n2; exact ((zi_eq (by omega) (by omega)).mp n2).symm
            subst this
            rw [← hz, z_wr1]
          · have hne : nu' ≠ nu := fun h => by
              subst h
              exact hji (hnt.2.2 j (by omega) n2 n3)
            rw [← hz, z_wr2 (Or.inr hne), e 38 (by omega) (by omega) (by omega) (by omega)]
            exact hl j (by omega) nu' n1 n2 n3
        · obtain ⟨w1, w2, w3, w4⟩ := hw9
          rw [z2 40 (by omega), z2 41 (by omega), z2 42 (by omega), z2 43 (by omega)] at w3
          rw [z2 40 (by omega), z2 43 (by omega)] at w4
          exact ⟨w, w1, z_Cp_tr hCz w2, w3, w4⟩
      · rw [if_neg hT, if_pos rfl]
        have z2 : ∀ q, q < 34 ∨ 38 < q → y.2 q = x.2 q := hCy.2
        refine Exists.elim (ih (i + 1) y (by omega) (by omega) (by rw [z2 32 (by omega)]; exact h4) (fun j hj => by rw [z2 40 (by omega), z2 43 (by omega)]; exact hk j hj) (by unfold z_un; rw [z2 40 (by omega), z2 (40 + 3) (by omega)]; exact hu) hc' (fun j hj nu' n1 n2 n3 => ?_)) (fun w hw9 => ?_)
        · rw [z2 43 (by omega)] at n2
          rw [z2 40 (by omega)] at n3
          by_cases hji : j = i
          · subst hji
            unfold z_tm at n3
            rw [k1, zi_le (by omega) (by omega), zi_le (by omega) (by omega)] at n3
            exact absurd n3 hT
          · rw [e 38 (by omega) (by omega) (by omega) (by omega)]
            exact hl j (by omega) nu' n1 n2 n3
        · obtain ⟨w1, w2, w3, w4⟩ := hw9
          rw [z2 40 (by omega), z2 41 (by omega), z2 42 (by omega), z2 43 (by omega)] at w3
          rw [z2 40 (by omega), z2 43 (by omega)] at w4
          exact ⟨w, w1, z_Cp_tr hCy w2, w3, w4⟩
def z_gm (x : q_W) (i : Nat) : Bool := decide (¬ x.2 34 (x.2 38 i).toNatClampNeg = 6)
def z_E209 : q_W → Option (Int32 × q_W) := fun x25 => (f_Mo_takeOut x25).bind fun x26 => (f_Mo_goWalk x26).bind fun x27 => some (x27.2 32 4, x27)
def z_Lq (x y : q_W) : Prop := y.1 = x.1 ∧ (∀ q, q ≠ 32 → q ≠ 39 → y.2 q = x.2 q) ∧ (∀ k, k ≠ 11 → y.2 32 k = x.2 32 k)
theorem z_listm {t : Nat} {g : Nat → Bool} (ht : t ≤ 5) : ∀ (k i : Nat) (x : q_W), i ≤ t → t < i + k → x.2 32 9 = zi t → (∀ i, i < t → ∃ j, x.2 38 i = zi j ∧ j < 18) → (∀ i, g i = z_gm x i) → x.2 32 11 = zi (z_pl g i).length → (∀ k, k < (z_pl g i).length → x.2 39 k = x.2 38 ((z_pl g i).getD k 0)) → ∃ y, f_Mo_formula_L152 k x (zi i) = f_Mo_formula_L209 z_E209 q_fu y 0 ∧ z_Lq x y ∧ y.2 32 11 = zi (z_pl g t).length ∧ ∀ k, k < (z_pl g t).length → y.2 39 k = y.2 38 ((z_pl g t).getD k 0) := by
  intro k
  induction k with
  | zero => intro i x h1 h2; omega
  | succ k ih =>
    intro i x h1 h2 h8 hj hg h9 hl
    simp only [f_Mo_formula_L152]
    by_cases hit : i = t
    · subst hit
      rw [if_pos (by rw [h8, zi_le (by omega) (by omega)]; omega)]
      exact ⟨x, rfl, ⟨rfl, fun _ _ _ => rfl, fun _ _ => rfl⟩, h9, hl⟩
    · rw [if_neg (by rw [h8, zi_le (by omega) (by omega)]; omega)]
      obtain ⟨j, hj1, hj2⟩ := hj i (by omega)
      rw [z_ld (show i < 5 by omega) (by omega), hj1]
      simp only [Option.bind_some]
      rw [z_ld hj2 (by omega)]
      simp only [Option.bind_some]
      have hgi : g i = decide (¬ x.2 34 j = 6) := by rw [hg i, z_gm, hj1, zi_nat (by omega)]
      have hlen := z_pl_len g i
      by_cases hc : x.2 34 j = 6
      · rw [if_pos hc]
        have hgf : g i = false := by rw [hgi]; simp [hc]
        have e : z_pl g (i + 1) = z_pl g i := by rw [z_pl_succ, hgf]; simp
        rw [zi_succ]
        exact ih (i + 1) x (by omega) (by omega) h8 hj hg (by rw [e]; exact h9) (by rw [e]; exact hl)
      · rw [if_neg hc]
        have hgt : g i = true := by rw [hgi]; simp [hc]
        have e : z_pl g (i + 1) = z_pl g i ++ [i] := by rw [z_pl_succ, hgt]; simp
        rw [h9, z_sto (show (z_pl g i).length < 5 by omega) (by omega)]
        simp only [Option.bind_some, q_let, zi_succ]
        have e9 : (q_wr x 39 (z_pl g i).length (zi j)).2 32 11 = zi (z_pl g i).length := (z_wr2 (Or.inl (by omega))).trans h9
        rw [e9, zi_succ]
        generalize hy : q_wr (q_wr x 39 (z_pl g i).length (zi j)) 32 11 (zi ((z_pl g i).length + 1)) = y
        have y1 : ∀ q, q ≠ 32 → q ≠ 39 → y.2 q = x.2 q := fun q q1 q2 => by rw [← hy, z_wrp q1, z_wrp q2]
        have y2 : ∀ k, k ≠ 11 → y.2 32 k = x.2 32 k := fun k hk => by rw [← hy, z_wr2 (Or.inr hk), z_wrp (by omega)]
        have y0 : y.1 = x.1 := by rw [← hy]; rfl
        refine Exists.elim (ih (i + 1) y (by omega) (by omega) ((y2 9 (by omega)).trans h8) (fun i hi => by rw [y1 38 (by omega) (by omega)]; exact hj i hi) (fun i => by rw [hg i, z_gm, z_gm, y1 34 (by omega) (by omega), y1 38 (by omega) (by omega)]) (by rw [e, ← hy, z_wr1]; simp) (fun k hk => ?_)) (fun r hw9 => ?_)
        · rw [e] at hk ⊢
          rw [y1 38 (by omega) (by omega), ← hy, z_wrp (by omega)]
          rw [List.length_append] at hk
          simp only [List.length_cons, List.length_nil] at hk
          by_cases hkk : k = (z_pl g i).length
          · subst hkk
            rw [z_wr1]
            simp [List.getD, hj1]
          · rw [z_wr2 (Or.inr hkk), hl k (by omega)]
            simp [List.getD, List.getElem?_append_left (show k < (z_pl g i).length by omega)]
        · obtain ⟨hr, ⟨r0, r1, r2⟩, r3, r4⟩ := hw9
          exact ⟨r, hr, ⟨r0.trans y0, fun q q1 q2 => (r1 q q1 q2).trans (y1 q q1 q2), fun k hk => (r2 k hk).trans (y2 k hk)⟩, r3, r4⟩
