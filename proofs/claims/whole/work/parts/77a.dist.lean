/-! HOW MANY OF A RANGE KEEP b; steps to a kept moment, inside a set. -/
def z_cd (b : Nat → Bool) : Nat → Nat
  | 0 => 0
  | n + 1 => z_cd b n + (if b n then 1 else 0)
theorem z_cd_le (b : Nat → Bool) (n : Nat) : z_cd b n ≤ n := by
  induction n with
  | zero => exact Nat.le_refl _
  | succ n ih => simp only [z_cd]; split <;> omega
theorem z_cd_congr {b b' : Nat → Bool} {n : Nat} (h : ∀ i, i < n → b i = b' i) : z_cd b n = z_cd b' n := by
  induction n with
  | zero => rfl
  | succ n ih => simp only [z_cd]; rw [ih (fun i hi => h i (by omega)), h n (by omega)]
theorem z_cd_mono {b b' : Nat → Bool} {n : Nat} (h : ∀ i, i < n → b i = true → b' i = true) : z_cd b n ≤ z_cd b' n := by
  induction n with
  | zero => exact Nat.le_refl _
  | succ n ih =>
    have h1 := ih (fun i hi => h i (by omega))
    have h2 := h n (by omega)
    simp only [z_cd]
    by_cases hb : b n = true
    · rw [if_pos hb, if_pos (h2 hb)]; omega
    · rw [if_neg hb]; omega
theorem z_cd_lt {b b' : Nat → Bool} {n : Nat} (h : ∀ i, i < n → b i = true → b' i = true) {j : Nat} (hj : j < n) (h1 : b' j = true) (h2 : b j = false) : z_cd b n < z_cd b' n := by
  induction n with
  | zero => omega
  | succ n ih =>
    simp only [z_cd]
    by_cases hjn : j = n
    · subst hjn
      have := z_cd_mono (n := j) (fun i hi => h i (by omega))
      rw [if_pos h1, if_neg (by rw [h2]; simp)]
      omega
    · have := ih (fun i hi => h i (by omega)) (by omega)
      have h3 := h n (by omega)
      by_cases hb : b n = true
      · rw [if_pos hb, if_pos (h3 hb)]; omega
      · rw [if_neg hb]; omega
theorem z_cd_eq {b b' : Nat → Bool} {n : Nat} (h : ∀ i, i < n → b i = true → b' i = true) (hc : z_cd b' n ≤ z_cd b n) {i : Nat} (hi : i < n) : b i = b' i := by
  cases hb : b i with
  | true => rw [h i hi hb]
  | false =>
    cases hb' : b' i with
    | false => rfl
    | true =>
      have := z_cd_lt h hi hb' hb
      omega
theorem z_cd_add {b : Nat → Bool} {n j : Nat} (hj : j < n) (h : b j = false) : z_cd (fun i => if i = j then true else b i) n = z_cd b n + 1 := by
  induction n with
  | zero => omega
  | succ n ih =>
    simp only [z_cd]
    by_cases hjn : j = n
    · subst hjn
      rw [z_cd_congr (b := fun i => if i = j then true else b i) (b' := b) (fun i hi => by simp; omega)]
      simp [h]
    · rw [ih (by omega)]
      have : n ≠ j := fun e => hjn e.symm
      simp only [this, if_false]
      omega
/-- steps: 0 where it is kept; one more than a successor's; at most one more than any successor's -/
def z_St (N : Nat) (S K : Nat → Bool) (W : Nat → Nat) (f : Nat → Option Nat) : Prop := (∀ s, s < N → (f s = some 0 ↔ S s = true ∧ K s = true)) ∧ (∀ s, s < N → ∀ d, f s = some (d + 1) → S s = true ∧ ∃ s', s' < N ∧ s / 8 = W s' ∧ f s' = some d) ∧ (∀ s, s < N → ∀ s', s' < N → S s = true → s / 8 = W s' → ∀ e, f s' = some e → ∃ d, f s = some d ∧ d ≤ e + 1)
section ZD
variable {N : Nat} {S K : Nat → Bool} {W : Nat → Nat} {f g : Nat → Option Nat}
theorem z_St_one (hf : z_St N S K W f) (hg : z_St N S K W g) : ∀ d s, s < N → f s = some d → g s = some d := by
  have key : ∀ d, (∀ s, s < N → (f s = some d ↔ g s = some d)) := by
    intro d
    induction d using Nat.strongRecOn with
    | _ d ih =>
      intro s hs
      cases d with
      | zero => exact (hf.1 s hs).trans (hg.1 s hs).symm
      | succ d =>
        have one : ∀ f g : Nat → Option Nat, z_St N S K W f → z_St N S K W g → (∀ m, m < d + 1 → ∀ s, s < N → (f s = some m ↔ g s = some m)) → f s = some (d + 1) → g s = some (d + 1) := by
          intro f g hf hg ih h
          obtain ⟨h1, s', h2, h3, h4⟩ := hf.2.1 s hs d h
          obtain ⟨e, h5, h6⟩ := hg.2.2 s hs s' h2 h1 h3 d ((ih d (by omega) s' h2).mp h4)
          by_cases he : e = d + 1
          · rw [h5, he]
          · have := (ih e (by omega) s hs).mpr h5
            rw [h] at this
            have := Option.some.inj this
            omega
        exact ⟨one f g hf hg ih, one g f hg hf (fun m hm s hs => (ih m hm s hs).symm)⟩
  intro d s hs h
  exact (key d s hs).mp h
theorem z_St_eq (hf : z_St N S K W f) (hg : z_St N S K W g) {s : Nat} (hs : s < N) : f s = g s := by
  cases h : f s with
  | some d => rw [z_St_one hf hg d s hs h]
  | none =>
    cases h' : g s with
    | none => rfl
    | some d =>
      have := z_St_one hg hf d s hs h'
      rw [h] at this
      cases this
/-- steps are fewer than states -/
theorem z_bd (h : ∀ s, s < N → ∀ d, f s = some (d + 1) → ∃ s', s' < N ∧ f s' = some d) {s d : Nat} (hs : s < N) (hd : f s = some d) : d < N := by
  have h1 : ∀ e, e ≤ d → ∃ s', s' < N ∧ f s' = some (d - e) := by
    intro e
    induction e with
    | zero => intro _; exact ⟨s, hs, hd⟩
    | succ e ih =>
      intro he
      obtain ⟨s', a, b⟩ := ih (by omega)
      obtain ⟨m, hm⟩ : ∃ m, d - e = m + 1 := ⟨d - e - 1, by omega⟩
      rw [hm] at b
      obtain ⟨s'', a', b'⟩ := h s' a m b
      refine ⟨s'', a', ?_⟩
      rw [b']
      congr 1
      omega
  have h2 : ∀ j, j ≤ d + 1 → j ≤ z_cd (fun s => match f s with | some e => decide (e < j) | none => false) N := by
    intro j
    induction j with
    | zero => intro _; omega
    | succ j ih =>
      intro hj
      have h3 := ih (by omega)
      obtain ⟨s', a, b⟩ := h1 (d - j) (by omega)
      rw [show d - (d - j) = j by omega] at b
      have : z_cd (fun s => match f s with | some e => decide (e < j) | none => false) N < z_cd (fun s => match f s with | some e => decide (e < j + 1) | none => false) N := by
        refine z_cd_lt (j := s') (fun i hi hb => ?_) a ?_ ?_
        · cases hfi : f i with
          | none => simp [hfi] at hb
          | some e => simp [hfi] at hb ⊢; omega
        · simp [b]
        · simp [b]
      omega
  have h3 := h2 (d + 1) (by omega)
  have h4 := z_cd_le (fun s => match f s with | some e => decide (e < d + 1) | none => false) N
  omega
def zo (o : Option Nat) : Int32 := match o with
  | none => -1
  | some d => zi d
theorem zo_m1 {o : Option Nat} (h : ∀ d, o = some d → d < 2147483648) : zo o = -1 ↔ o = none := by
  cases o with
  | none => simp [zo]
  | some d => simp only [zo, reduceCtorEq, iff_false]; exact zi_m1 (h d rfl)
theorem zo_eq {o : Option Nat} {d : Nat} (h : ∀ d, o = some d → d < 2147483648) (hd : d < 2147483648) : zo o = zi d ↔ o = some d := by
  cases o with
  | none =>
    simp only [zo, reduceCtorEq, iff_false]
    exact fun e => zi_m1 hd e.symm
  | some e =>
    simp only [zo, Option.some.injEq]
    exact zi_eq (h e rfl) hd
theorem zo_neg {o : Option Nat} (h : ∀ d, o = some d → d < 2147483648) : (0 : Int32) ≤ zo o ↔ o ≠ none := by
  cases o with
  | none => simp only [zo]; decide
  | some d =>
    simp only [zo]
    constructor
    · intro _ h0
      cases h0
    · intro _
      exact (zi_le (n := 0) (by omega) (h d rfl)).mpr (by omega)
/-- the class's queue -/
def z_B0 (N : Nat) (S K : Nat → Bool) (W : Nat → Nat) (f : Nat → Option Nat) (T : Nat) (qu : Nat → Nat) (h : Nat) : Prop := (∀ j, j < T → qu j < N ∧ (f (qu j)).isSome = true) ∧ T = z_cd (fun s => (f s).isSome) N ∧ (∀ s, s < N → (f s).isSome = true → ∃ j, j < T ∧ qu j = s) ∧ (∀ j j', j ≤ j' → j' < T → ∀ d d', f (qu j) = some d → f (qu j') = some d' → d ≤ d') ∧ (h < T → ∀ j, j < T → ∀ d e, f (qu h) = some d → f (qu j) = some e → e ≤ d + 1) ∧ (∀ s, s < N → (f s = some 0 ↔ S s = true ∧ K s = true)) ∧ (∀ s, s < N → ∀ d, f s = some (d + 1) → S s = true ∧ ∃ s', s' < N ∧ s / 8 = W s' ∧ f s' = some d) ∧ (∀ j, j < h → ∀ p, p < N → S p = true → p / 8 = W (qu j) → ∀ e, f (qu j) = some e → ∃ d, f p = some d ∧ d ≤ e + 1)
theorem z_B0_bd {T h : Nat} {qu : Nat → Nat} (hB : z_B0 N S K W f T qu h) {s d : Nat} (hs : s < N) (hd : f s = some d) : d < N := z_bd (fun s hs d hd => by obtain ⟨-, s', a, -, b⟩ := hB.2.2.2.2.2.2.1 s hs d hd; exact ⟨s', a, b⟩) hs hd
theorem z_B0_app {T h d p : Nat} {qu : Nat → Nat} (hB : z_B0 N S K W f T qu h) (hh : h < T) (hd : f (qu h) = some d) (hp : p < N) (hS : S p = true) (hg : p / 8 = W (qu h)) (hn : f p = none) : T < N ∧ z_B0 N S K W (fun s => if s = p then some (d + 1) else f s) (T + 1) (fun j => if j = T then p else qu j) h := by
  obtain ⟨b1, b2, b3, b4, b5, b6, b7, b8⟩ := hB
  have hq : ∀ j, j < T → qu j ≠ p := fun j hj e => by
    have := (b1 j hj).2
    rw [e, hn] at this
    cases this
  have hcd : z_cd (fun s => (if s = p then some (d + 1) else f s).isSome) N = z_cd (fun s => (f s).isSome) N + 1 := by
    rw [← z_cd_add (b := fun s => (f s).isSome) hp (by simp [hn])]
    apply z_cd_congr
    intro i hi
    by_cases hip : i = p
    · simp [hip]
    · simp [hip]
  have hle := z_cd_le (fun s => (if s = p then some (d + 1) else f s).isSome) N
  refine ⟨by omega, fun j hj => ?_, ?_, fun s hs hse => ?_, fun j j' hjj hj' e e' h1 h2 => ?_, fun _ j hj e e' h1 h2 => ?_, fun s hs => ?_, fun s hs e he => ?_, fun j hj p' hp' hS' hg' e he => ?_⟩
  · by_cases hjT : j = T
    · simp [hjT, hp]
    · have hjT' : j < T := by omega
      simp only [hjT, if_false, hq j hjT']
      exact b1 j hjT'
  · rw [hcd]; omega
  · by_cases hsp : s = p
    · exact ⟨T, by omega, by simp [hsp]⟩
    · simp only [hsp, if_false] at hse
      obtain ⟨j, j1, j2⟩ := b3 s hs hse
      refine ⟨j, by omega, ?_⟩
      simp only [show j ≠ T by omega, if_false]
      exact j2
  · by_cases hjT' : j' = T
    · simp only [hjT', if_true] at h2
      have h2 := Option.some.inj h2
      by_cases hjT : j = T
      · simp only [hjT, if_true] at h1
        have h1 := Option.some.inj h1
        omega
      · have hjl : j < T := by omega
        simp only [hjT, if_false, hq j hjl] at h1
        have := b5 hh j hjl d e hd h1
        omega
    · have hj'l : j' < T := by omega
      have hjl : j < T := by omega
      simp only [hjT', if_false, hq j' hj'l] at h2
      simp only [show j ≠ T by omega, if_false, hq j hjl] at h1
      exact b4 j j' hjj hj'l e e' h1 h2
  · simp only [show h ≠ T by omega, if_false, hq h hh] at h1
    rw [hd] at h1
    have h1 := Option.some.inj h1
    by_cases hjT : j = T
    · simp only [hjT, if_true] at h2
      have h2 := Option.some.inj h2
      omega
    · have hjl : j < T := by omega
      simp only [hjT, if_false, hq j hjl] at h2
      have := b5 hh j hjl d e' hd h2
      omega
  · by_cases hsp : s = p
    · subst hsp
      simp only [if_true, Option.some.injEq]
      refine ⟨fun h => by omega, fun h => ?_⟩
      have := (b6 s hs).mpr h
      rw [hn] at this
      cases this
    · simp only [hsp, if_false]
      exact b6 s hs
  · by_cases hsp : s = p
    · subst hsp
      simp only [if_true, Option.some.injEq] at he
      have hqp := hq h hh
      refine ⟨hS, qu h, (b1 h hh).1, hg, ?_⟩
      simp only [hqp, if_false]
      rw [hd]
      congr 1
      omega
    · simp only [hsp, if_false] at he
      obtain ⟨c1, s', c2, c3, c4⟩ := b7 s hs e he
      refine ⟨c1, s', c2, c3, ?_⟩
      have : s' ≠ p := fun e => by rw [e, hn] at c4; cases c4
      simp only [this, if_false]
      exact c4
  · have hjl : j < T := by omega
    simp only [show j ≠ T by omega, if_false] at hg' he
    simp only [hq j hjl, if_false] at he
    obtain ⟨d', c1, c2⟩ := b8 j hj p' hp' hS' hg' e he
    refine ⟨d', ?_, c2⟩
    have : p' ≠ p := fun e => by rw [e, hn] at c1; cases c1
    simp only [this, if_false]
    exact c1
theorem z_B0_next {T h : Nat} {qu : Nat → Nat} (hB : z_B0 N S K W f T qu h) (hh : h < T) (hn : ∀ p, p < N → S p = true → p / 8 = W (qu h) → ∀ e, f (qu h) = some e → ∃ d, f p = some d ∧ d ≤ e + 1) : z_B0 N S K W f T qu (h + 1) := by
  obtain ⟨b1, b2, b3, b4, b5, b6, b7, b8⟩ := hB
  refine ⟨b1, b2, b3, b4, fun h1 j hj d e h2 h3 => ?_, b6, b7, fun j hj => ?_⟩
  · obtain ⟨d0, hd0⟩ := Option.isSome_iff_exists.mp (b1 h hh).2
    have := b5 hh j hj d0 e hd0 h3
    have := b4 h (h + 1) (by omega) h1 d0 d hd0 h2
    omega
  · by_cases hjh : j = h
    · subst hjh; exact hn
    · exact b8 j (by omega)
theorem z_B0_end {T h : Nat} {qu : Nat → Nat} (hB : z_B0 N S K W f T qu h) (hh : T ≤ h) : z_St N S K W f := by
  obtain ⟨b1, b2, b3, b4, b5, b6, b7, b8⟩ := hB
  refine ⟨b6, b7, fun s hs s' hs' hS hg e he => ?_⟩
  obtain ⟨j, j1, j2⟩ := b3 s' hs' (by rw [he]; rfl)
  subst j2
  exact b8 j (by omega) s hs hS hg e he
/-- the reference's layers -/
def z_Ly (N : Nat) (S K : Nat → Bool) (W : Nat → Nat) (f : Nat → Option Nat) (d : Nat) : Prop := (∀ s, s < N → (f s = some 0 ↔ S s = true ∧ K s = true)) ∧ (∀ s, s < N → ∀ d, f s = some (d + 1) → S s = true ∧ ∃ s', s' < N ∧ s / 8 = W s' ∧ f s' = some d) ∧ (∀ s, s < N → ∀ e, f s = some e → e ≤ d) ∧ (∀ s, s < N → ∀ s', s' < N → S s = true → s / 8 = W s' → ∀ e, f s' = some e → e < d → ∃ d', f s = some d' ∧ d' ≤ e + 1)
theorem z_Ly_bd {d : Nat} (h : z_Ly N S K W f d) {s e : Nat} (hs : s < N) (hd : f s = some e) : e < N := z_bd (fun s hs d hd => by obtain ⟨-, s', a, -, b⟩ := h.2.1 s hs d hd; exact ⟨s', a, b⟩) hs hd
theorem z_Ly_step {d : Nat} (h : z_Ly N S K W f d) (hg : ∀ s, s < N → (∀ e, f s = some e → g s = some e)) (hg2 : ∀ s, s < N → f s = none → (S s = true ∧ ∃ s', s' < N ∧ s / 8 = W s' ∧ f s' = some d) → g s = some (d + 1)) (hg3 : ∀ s, s < N → f s = none → ¬ (S s = true ∧ ∃ s', s' < N ∧ s / 8 = W s' ∧ f s' = some d) → g s = none) : z_Ly N S K W g (d + 1) := by
  obtain ⟨a1, a2, a3, a4⟩ := h
  have back : ∀ s, s < N → ∀ e, g s = some e → f s = some e ∨ (e = d + 1 ∧ f s = none ∧ S s = true ∧ ∃ s', s' < N ∧ s / 8 = W s' ∧ f s' = some d) := by
    intro s hs e he
    cases hf : f s with
    | some e' =>
      have := hg s hs e' hf
      rw [he] at this
      exact Or.inl this.symm
    | none =>
      right
      by_cases hc : S s = true ∧ ∃ s', s' < N ∧ s / 8 = W s' ∧ f s' = some d
      · have := hg2 s hs hf hc
        rw [he] at this
        exact ⟨Option.some.inj this, rfl, hc⟩
      · have := hg3 s hs hf hc
        rw [he] at this
        cases this
  refine ⟨fun s hs => ⟨fun h => ?_, fun h => hg s hs 0 ((a1 s hs).mpr h)⟩, fun s hs e he => ?_, fun s hs e he => ?_, fun s hs s' hs' hS hgo e he hed => ?_⟩
  · rcases back s hs 0 h with h | h
    · exact (a1 s hs).mp h
    · omega
  · rcases back s hs (e + 1) he with h | ⟨h1, h2, h3, s', h4, h5, h6⟩
    · obtain ⟨c1, s', c2, c3, c4⟩ := a2 s hs e h
      exact ⟨c1, s', c2, c3, hg s' c2 e c4⟩
    · refine ⟨h3, s', h4, h5, hg s' h4 e ?_⟩
      rw [h6]
      congr 1
      omega
  · rcases back s hs e he with h | h
    · have := a3 s hs e h; omega
    · omega
  · rcases back s' hs' e he with h | h
    · by_cases hed' : e < d
      · obtain ⟨d', c1, c2⟩ := a4 s hs s' hs' hS hgo e h hed'
        exact ⟨d', hg s hs d' c1, c2⟩
      · have hed2 : e = d := by omega
        subst hed2
        cases hf : f s with
        | some d' =>
          have := a3 s hs d' hf
          exact ⟨d', hg s hs d' hf, by omega⟩
        | none => exact ⟨e + 1, hg2 s hs hf ⟨hS, s', hs', hgo, h⟩, by omega⟩
    · omega
theorem z_Ly_end {d : Nat} (h : z_Ly N S K W f d) (hn : ∀ s, s < N → f s = none → ¬ (S s = true ∧ ∃ s', s' < N ∧ s / 8 = W s' ∧ f s' = some d)) : z_St N S K W f := by
  obtain ⟨a1, a2, a3, a4⟩ := h
  refine ⟨a1, a2, fun s hs s' hs' hS hg e he => ?_⟩
  by_cases hed : e < d
  · exact a4 s hs s' hs' hS hg e he hed
  · have := a3 s' hs' e he
    have hed2 : e = d := by omega
    subst hed2
    cases hf : f s with
    | some d' =>
      have := a3 s hs d' hf
      exact ⟨d', rfl, by omega⟩
    | none => exact absurd ⟨hS, s', hs', hg, he⟩ (hn s hs hf)
end ZD
