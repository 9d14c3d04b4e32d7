/-! SETS THAT LAST: good ones, and the greatest. -/
section ZG
variable {N r : Nat} {W : Nat → Nat} {kp op : Nat → Nat → Bool} {S G : Nat → Bool}
def z_Gd (N r : Nat) (W : Nat → Nat) (kp op : Nat → Nat → Bool) (G : Nat → Bool) : Prop := (∀ s, s < N → G s = true → ∃ s', s' < N ∧ G s' = true ∧ s / 8 = W s') ∧ ∀ k, k < r → ∃ f, z_St N G (fun s => kp s k) W f ∧ ∀ s, s < N → G s = true → op s k = true → f s ≠ none
/-- S has all that any good set has -/
def z_Up (N r : Nat) (W : Nat → Nat) (kp op : Nat → Nat → Bool) (S : Nat → Bool) : Prop := ∀ G, z_Gd N r W kp op G → ∀ s, s < N → G s = true → S s = true
theorem z_Gd_eq {S S' : Nat → Bool} (h1 : z_Gd N r W kp op S) (h2 : z_Up N r W kp op S) (h3 : z_Gd N r W kp op S') (h4 : z_Up N r W kp op S') {s : Nat} (hs : s < N) : S s = S' s := by
  cases h : S s with
  | true => rw [h4 S h1 s hs h]
  | false =>
    cases h' : S' s with
    | false => rfl
    | true =>
      have := h2 S' h3 s hs h'
      rw [h] at this
      cases this
theorem z_St_mono {K : Nat → Bool} {f g : Nat → Option Nat} (hsub : ∀ s, s < N → G s = true → S s = true) (hf : z_St N G K W f) (hg : z_St N S K W g) : ∀ d s, s < N → f s = some d → g s ≠ none := by
  intro d
  induction d with
  | zero =>
    intro s hs h
    have := (hf.1 s hs).mp h
    rw [(hg.1 s hs).mpr ⟨hsub s hs this.1, this.2⟩]
    simp
  | succ d ih =>
    intro s hs h
    obtain ⟨a, s', b, c, e⟩ := hf.2.1 s hs d h
    have := ih s' b e
    obtain ⟨e', he'⟩ := Option.isSome_iff_exists.mp (Option.isSome_iff_ne_none.mpr this)
    obtain ⟨d', h1, -⟩ := hg.2.2 s hs s' b (hsub s hs a) c e' he'
    rw [h1]
    simp
/-- taking out a state that leads to none in the set takes nothing from a good set -/
theorem z_Up_dead (h : z_Up N r W kp op S) : z_Up N r W kp op (fun s => S s && z_ex S W N (s / 8)) := by
  intro G hG s hs hGs
  simp only [Bool.and_eq_true]
  refine ⟨h G hG s hs hGs, ?_⟩
  obtain ⟨s', a, b, c⟩ := hG.1 s hs hGs
  exact z_ex_iff.mpr ⟨s', a, h G hG s' a b, c.symm⟩
/-- nor does taking out a state whose promise isn't kept inside the set -/
theorem z_Up_unk {k : Nat} {f : Nat → Option Nat} (hk : k < r) (h : z_Up N r W kp op S) (hf : z_St N S (fun s => kp s k) W f) : z_Up N r W kp op (fun s => S s && !(op s k && (f s).isNone)) := by
  intro G hG s hs hGs
  simp only [Bool.and_eq_true, Bool.not_eq_true', Bool.and_eq_false_iff]
  refine ⟨h G hG s hs hGs, ?_⟩
  cases ho : op s k with
  | false => exact Or.inl rfl
  | true =>
    right
    obtain ⟨g, g1, g2⟩ := hG.2 k hk
    have := g2 s hs hGs ho
    obtain ⟨d, hd⟩ := Option.isSome_iff_exists.mp (Option.isSome_iff_ne_none.mpr this)
    have := z_St_mono (h G hG) g1 hf d s hs hd
    cases hfs : f s with
    | none => exact absurd hfs this
    | some e => rfl
theorem z_Up_congr {S S' : Nat → Bool} (h : z_Up N r W kp op S) (e : ∀ s, s < N → S s = S' s) : z_Up N r W kp op S' := fun G hG s hs hGs => by rw [← e s hs]; exact h G hG s hs hGs
theorem z_St_congr {K : Nat → Bool} {S S' : Nat → Bool} {f : Nat → Option Nat} (h : z_St N S K W f) (e : ∀ s, s < N → S s = S' s) : z_St N S' K W f := ⟨fun s hs => by rw [← e s hs]; exact h.1 s hs, fun s hs d hd => by rw [← e s hs]; exact h.2.1 s hs d hd, fun s hs s' hs' hS => by rw [← e s hs] at hS; exact h.2.2 s hs s' hs' hS⟩
/-- for a state in the set: promised and not kept in finitely many steps is pending so -/
theorem z_unk_pd {k : Nat} {f : Nat → Option Nat} (hf : z_St N S (fun s => kp s k) W f) {s : Nat} (hs : s < N) : (S s && !(z_pd' op kp s k && (f s).isNone)) = (S s && !(op s k && (f s).isNone)) := by
  unfold z_pd'
  cases hS : S s with
  | false => rfl
  | true =>
    cases hk : kp s k with
    | false => simp
    | true =>
      have := (hf.1 s hs).mpr ⟨hS, hk⟩
      rw [this]
      simp
end ZG
