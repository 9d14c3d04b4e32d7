/-! UNTIL, on a word that goes round in the end. -/
section ZU
variable (nx : Nat → Nat) (a b : Nat → Bool)
def z_Uf : Nat → Nat → Bool
  | 0, k => b k
  | j + 1, k => b k || (a k && z_Uf j (nx k))
variable {nx a b}
theorem z_Uf_up {j k : Nat} (h : z_Uf nx a b j k = true) : z_Uf nx a b (j + 1) k = true := by
  induction j generalizing k with
  | zero =>
    simp only [z_Uf] at h ⊢
    rw [h]; rfl
  | succ j ih =>
    simp only [z_Uf, Bool.or_eq_true, Bool.and_eq_true] at h
    rw [show z_Uf nx a b (j + 1 + 1) k = (b k || (a k && z_Uf nx a b (j + 1) (nx k))) from rfl, Bool.or_eq_true, Bool.and_eq_true]
    rcases h with h | ⟨h1, h2⟩
    · exact Or.inl h
    · exact Or.inr ⟨h1, ih h2⟩
theorem z_Uf_le {j m k : Nat} (hjm : j ≤ m) (h : z_Uf nx a b j k = true) : z_Uf nx a b m k = true := by
  obtain ⟨d, rfl⟩ := Nat.le.dest hjm
  induction d with
  | zero => exact h
  | succ d ih => exact z_Uf_up (ih (by omega))
theorem z_Uf_st {n : Nat} (hnx : ∀ k, k < n → nx k < n) : ∀ k, k < n → z_Uf nx a b (n + 1) k = z_Uf nx a b n k := by
  have key : ∀ j, (∀ k, k < n → z_Uf nx a b (j + 1) k = z_Uf nx a b j k) ∨ j ≤ z_cd (z_Uf nx a b j) n := by
    intro j
    induction j with
    | zero => exact Or.inr (by omega)
    | succ j ih =>
      rcases ih with ih | ih
      · left
        intro k hk
        rw [show z_Uf nx a b (j + 1 + 1) k = (b k || (a k && z_Uf nx a b (j + 1) (nx k))) from rfl, ih _ (hnx k hk)]
        rfl
      · by_cases hs : ∀ k, k < n → z_Uf nx a b (j + 1) k = z_Uf nx a b j k
        · left
          intro k hk
          rw [show z_Uf nx a b (j + 1 + 1) k = (b k || (a k && z_Uf nx a b (j + 1) (nx k))) from rfl, hs _ (hnx k hk)]
          rfl
        · right
          have : ∃ k, k < n ∧ z_Uf nx a b (j + 1) k ≠ z_Uf nx a b j k := by
            refine Classical.byContradiction fun hc => hs fun k hk => ?_
            exact Classical.byContradiction fun h => hc ⟨k, hk, h⟩
          obtain ⟨k, hk, hne⟩ := this
          have h0 : z_Uf nx a b j k = false := by
            cases h : z_Uf nx a b j k with
            | false => rfl
            | true => exact absurd ((z_Uf_up h).trans h.symm) hne
          have h1 : z_Uf nx a b (j + 1) k = true := by
            cases h : z_Uf nx a b (j + 1) k with
            | true => rfl
            | false => exact absurd (h.trans h0.symm) hne
          have := z_cd_lt (n := n) (b := z_Uf nx a b j) (b' := z_Uf nx a b (j + 1)) (fun i _ h => z_Uf_up h) hk h1 h0
          omega
  intro k hk
  rcases key n with h | h
  · exact h k hk
  · have hall : ∀ k, k < n → z_Uf nx a b n k = true := fun k hk => by
      cases hz : z_Uf nx a b n k with
      | true => rfl
      | false =>
        have h1 := z_cd_lt (n := n) (b := z_Uf nx a b n) (b' := fun _ => true) (fun _ _ _ => rfl) hk rfl hz
        have h2 := z_cd_le (fun _ => true) n
        omega
    rw [z_Uf_up (hall k hk), hall k hk]
theorem z_Uf_ge {n m : Nat} (hnx : ∀ k, k < n → nx k < n) {k : Nat} (hk : k < n) (h : z_Uf nx a b m k = true) : z_Uf nx a b n k = true := by
  by_cases hm : m ≤ n
  · exact z_Uf_le hm h
  · obtain ⟨d, rfl⟩ := Nat.le.dest (show n ≤ m by omega)
    clear hm
    have : ∀ d k, k < n → z_Uf nx a b (n + d) k = z_Uf nx a b n k := by
      intro d
      induction d with
      | zero => intro k _; rfl
      | succ d ih =>
        intro k hk
        rw [show z_Uf nx a b (n + (d + 1)) k = (b k || (a k && z_Uf nx a b (n + d) (nx k))) from rfl, ih _ (hnx k hk)]
        exact z_Uf_st hnx k hk
    rw [← this d k hk]
    exact h
theorem z_Uf_F {j k : Nat} : z_Uf nx (fun _ => false) b j k = b k := by
  cases j with
  | zero => rfl
  | succ j => simp [z_Uf]
/-- what j rounds in place leave, at least and at most -/
def z_Rn (nx : Nat → Nat) (a b : Nat → Bool) (n j : Nat) (c : Nat → Bool) : Prop := ∀ k, k < n → (c k = true → z_Uf nx a b n k = true) ∧ (1 ≤ j → z_Uf nx a b (j - 1) k = true → c k = true)
theorem z_Rn_upd {n j k0 : Nat} {c : Nat → Bool} (hnx : ∀ k, k < n → nx k < n) (hk0 : k0 < n) (h : z_Rn nx a b n j c) : z_Rn nx a b n j (fun k => if k = k0 then (b k0 || (a k0 && c (nx k0))) else c k) ∧ (z_Uf nx a b j k0 = true → (b k0 || (a k0 && c (nx k0))) = true) := by
  have hlow : z_Uf nx a b j k0 = true → (b k0 || (a k0 && c (nx k0))) = true := by
    intro hu
    cases j with
    | zero =>
      simp only [z_Uf] at hu
      rw [hu]; rfl
    | succ j =>
      simp only [z_Uf, Bool.or_eq_true, Bool.and_eq_true] at hu ⊢
      rcases hu with hu | ⟨h1, h2⟩
      · exact Or.inl hu
      · exact Or.inr ⟨h1, (h _ (hnx k0 hk0)).2 (by omega) h2⟩
  refine ⟨fun k hk => ?_, hlow⟩
  by_cases hkk : k = k0
  · subst hkk
    simp only [if_true]
    refine ⟨fun hc => ?_, fun hj hu => hlow (z_Uf_le (by omega) hu)⟩
    rw [← z_Uf_st hnx k hk]
    simp only [z_Uf, Bool.or_eq_true, Bool.and_eq_true] at hc ⊢
    rcases hc with hc | ⟨h1, h2⟩
    · exact Or.inl hc
    · exact Or.inr ⟨h1, (h _ (hnx k hk)).1 h2⟩
  · simp only [hkk, if_false]
    exact h k hk
theorem z_Rn_end {n j : Nat} {c : Nat → Bool} (h : z_Rn nx a b n j c) (hj : n < j) {k : Nat} (hk : k < n) : c k = z_Uf nx a b n k := by
  cases hc : c k with
  | true => rw [(h k hk).1 hc]
  | false =>
    cases hu : z_Uf nx a b n k with
    | false => rfl
    | true =>
      have := (h k hk).2 (by omega) (z_Uf_le (show n ≤ j - 1 by omega) hu)
      rw [hc] at this
      cases this
end ZU
def z_nxp (n st k : Nat) : Nat := if n ≤ k + 1 then st else k + 1
/-- the algebra of the places of a word -/
def z_AW (n st : Nat) (le : Nat → Nat) : z_A (Nat → Bool) :=
  (fun c k => z_vl c (zi (le k)),
   fun c _ u => if c = 33 then fun k => !u k else if c = 70 then z_Uf (z_nxp n st) (fun _ => true) u n else if c = 71 then fun k => !z_Uf (z_nxp n st) (fun _ => true) (fun k => !u k) n k else fun k => u (z_nxp n st k),
   fun c _ u w => if c = 38 then fun k => u k && w k else if c = 124 then fun k => u k || w k else if c = 62 then fun k => !u k || w k else if c = 85 then z_Uf (z_nxp n st) u w n else fun k => !z_Uf (z_nxp n st) (fun k => !u k) (fun k => !w k) n k)
theorem z_AW_as (n st : Nat) (le : Nat → Nat) : z_as (z_AW n st le) := by
  intro c hc i j i' j' u v w
  rcases hc with rfl | rfl
  · funext k; simp [z_AW, Bool.and_assoc]
  · funext k; simp [z_AW, Bool.or_assoc]
theorem z_nxp_lt {n st k : Nat} (h : st < n) (hk : k < n) : z_nxp n st k < n := by
  unfold z_nxp
  split <;> omega
