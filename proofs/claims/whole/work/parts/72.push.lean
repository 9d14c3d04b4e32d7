/-! THE REFERENCE'S READING: an operator, a bracket, a leaf put on the stacks. -/
theorem zi_mul (n m : Nat) : zi n * zi m = zi (n * m) := (Int32.ofNat_mul n m).symm
section ZM
variable {D : Type} {A : z_A D}
theorem z_isTm {x : q_W} {k : Nat} (hk : k < 15) : f_Mo_isTemporal x (zi k) = some (if 6 ≤ k ∧ k ≤ 10 then 1 else 0) := by
  have h : k = 0 ∨ k = 1 ∨ k = 2 ∨ k = 3 ∨ k = 4 ∨ k = 5 ∨ k = 6 ∨ k = 7 ∨ k = 8 ∨ k = 9 ∨ k = 10 ∨ k = 11 ∨ k = 12 ∨ k = 13 ∨ k = 14 := by omega
  rcases h with rfl | rfl | rfl | rfl | rfl | rfl | rfl | rfl | rfl | rfl | rfl | rfl | rfl | rfl | rfl <;> rfl
/-- any push: nothing else is touched -/
def z_Ps (l tt k : Nat) (x y : q_W) : Prop := y.1 = x.1 ∧ (∀ q, q ≠ 32 → q ≠ 45 → y.2 q = x.2 q) ∧ (∀ j, j ≠ 18 → j ≠ 22 → y.2 32 j = x.2 32 j) ∧ y.2 32 22 = zi (l + 1) ∧ y.2 32 18 = zi (tt + (if 6 ≤ k ∧ k ≤ 10 then 1 else 0)) ∧ y.2 45 l = zi (k + 16 * tt) ∧ (∀ i, i ≠ l → y.2 45 i = x.2 45 i)
theorem z_pushm {x : q_W} {l tt k : Nat} (h22 : x.2 32 22 = zi l) (h18 : x.2 32 18 = zi tt) (hl : l < 18) (hk : k < 15) : ∃ y, f_Mo_push x (zi k) = some y ∧ z_Ps l tt k x y := by
  unfold f_Mo_push
  rw [h22, z_sto hl (by omega)]
  simp only [Option.bind_some, q_let, z_isTm hk]
  have e : zi k + 16 * x.2 32 18 = zi (k + 16 * tt) := by
    rw [h18, show (16 : Int32) = zi 16 from rfl, zi_mul, zi_add]
  by_cases h : 6 ≤ k ∧ k ≤ 10
  · simp only [h, and_self, if_true]
    rw [if_neg z_10]
    refine ⟨_, rfl, rfl, fun q q1 q2 => ?_, fun j j1 j2 => ?_, ?_, ?_, ?_, fun i hi => ?_⟩
    · rw [z_wrf q1, z_wrf q1, z_wrf q2]
    · rw [z_wr2 (Or.inr j1), z_wr2 (Or.inr j2), z_wr2 (Or.inl (by omega))]
    · rw [z_wr2 (Or.inr (by omega)), z_wr1, z_wr2 (Or.inl (by omega)), h22, zi_succ]
    · rw [z_wr1, z_wr2 (Or.inr (by omega)), z_wr2 (Or.inl (by omega)), h18, zi_succ]
      simp [h]
    · rw [z_wr2 (Or.inl (by omega)), z_wr2 (Or.inl (by omega)), z_wr1, e]
    · rw [z_wr2 (Or.inl (by omega)), z_wr2 (Or.inl (by omega)), z_wr2 (Or.inr hi)]
  · simp only [h, if_false, if_true]
    refine ⟨_, rfl, rfl, fun q q1 q2 => ?_, fun j j1 j2 => ?_, ?_, ?_, ?_, fun i hi => ?_⟩
    · rw [z_wrf q1, z_wrf q1, z_wrf q2]
    · rw [z_wr2 (Or.inr j1), z_wr2 (Or.inr j2), z_wr2 (Or.inl (by omega))]
    · rw [z_wr2 (Or.inr (by omega)), z_wr1, z_wr2 (Or.inl (by omega)), h22, zi_succ]
    · rw [z_wr1, z_wr2 (Or.inr (by omega)), z_wr2 (Or.inl (by omega)), h18]
      simp [h]
    · rw [z_wr2 (Or.inl (by omega)), z_wr2 (Or.inl (by omega)), z_wr1, e]
    · rw [z_wr2 (Or.inl (by omega)), z_wr2 (Or.inl (by omega)), z_wr2 (Or.inr hi)]
theorem z_Ps_fm {x y : q_W} {l tt k : Nat} (h : z_Ps l tt k x y) : z_Fm x y := ⟨h.1, fun q hq => h.2.1 q (by omega) (by omega), fun j _ j2 _ j4 => h.2.2.1 j j2 j4⟩
/-- what stands on the stacks is not touched by a sign put upon them -/
theorem z_Mo_push {x y : q_W} {v : Nat → z_LD D} {m tt tt' c i : Nat} {O : List (Nat × Nat)} {V : List (z_LD D)} (hM : z_Mo A x v m tt O V) (h1 : ∀ q, q ≠ 32 → q ≠ 45 → y.2 q = x.2 q) (h2 : ∀ j, j ≠ 18 → j ≠ 22 → y.2 32 j = x.2 32 j) (h22 : y.2 32 22 = zi (O.length + 1)) (h18 : y.2 32 18 = zi tt') (h45 : y.2 45 O.length = zi (z_kd c + 16 * i)) (ho : ∀ j, j ≠ O.length → y.2 45 j = x.2 45 j) (hc : z_op c = true ∨ c = 40) (hi : i < 20) (htt : tt ≤ tt') (hT : z_T c = true → i = tt ∧ tt < tt') : z_Mo A y v m tt' ((c, i) :: O) V := by
  obtain ⟨⟨g13, g18, g20, g22⟩, hOp, hV, hnd, hun, hlg, htop⟩ := hM
  have s4 : ∀ j, y.2 40 j = x.2 40 j ∧ y.2 (40 + 1) j = x.2 (40 + 1) j ∧ y.2 (40 + 2) j = x.2 (40 + 2) j ∧ y.2 (40 + 3) j = x.2 (40 + 3) j := fun j => ⟨by rw [h1 _ (by omega) (by omega)], by rw [h1 _ (by omega) (by omega)], by rw [h1 _ (by omega) (by omega)], by rw [h1 _ (by omega) (by omega)]⟩
  obtain ⟨u1, u2, u3⟩ := hun
  refine ⟨⟨(h2 13 (by omega) (by omega)).trans g13, h18, (h2 20 (by omega) (by omega)).trans g20, h22⟩, ⟨⟨h45, hc, hi⟩, z_Op_same hOp (fun j hj => ho j (by omega))⟩, z_Vl_same hV (fun j _ => by rw [h1 44 (by omega) (by omega)]) (Nat.le_refl _) (fun _ _ => rfl), fun j hj => z_nm_same (hnd j hj) (s4 j) (fun _ _ => rfl), ⟨?_, ?_, ?_⟩, fun j hj q e he => z_te_same (hlg j hj q e he) (Nat.le_refl _) (fun j _ => s4 j) (fun _ _ => rfl), fun d0 V0 h0 => by rw [h1 44 (by omega) (by omega)]; exact htop d0 V0 h0⟩
  · intro j hj nu n1 n2 n3
    rw [(s4 j).2.2.2] at n1
    rw [(s4 j).1] at n3
    obtain ⟨w1, w2, w3⟩ := u1 j hj nu n1 n2 n3
    refine ⟨by omega, ?_, fun j' hj' m1 m2 => ?_⟩
    · rintro ⟨c', m1, m2⟩
      rcases List.mem_cons.mp m1 with e | m1
      · cases e
        have := (hT m2).1
        omega
      · exact w2 ⟨c', m1, m2⟩
    · rw [(s4 j').2.2.2] at m1
      rw [(s4 j').1] at m2
      exact w3 j' hj' m1 m2
  · rintro q ⟨c', m1, m2⟩
    rcases List.mem_cons.mp m1 with e | m1
    · cases e
      have := hT m2
      omega
    · have := u2 q ⟨c', m1, m2⟩
      omega
  · rw [List.pairwise_cons]
    refine ⟨fun b hb t1 t2 => ?_, u3⟩
    have h3 := u2 b.2 ⟨b.1, hb, t2⟩
    have h4 := (hT t1).1
    simp only
    omega
end ZM
