/-! THE WALK, abstractly. -/
theorem zi_sub {a b : Nat} (h : b ≤ a) : zi a - zi b = zi (a - b) := by
  have e : zi a = zi (a - b) + zi b := by rw [zi_add, Nat.sub_add_cancel h]
  rw [e]
  simp
theorem zi_div {a b : Nat} (ha : a < 2147483648) (hb : b < 2147483648) : zi a / zi b = zi (a / b) := by
  apply Int32.toInt_inj.mp
  have h1 : a / b ≤ a := Nat.div_le_self a b
  rw [Int32.toInt_div, zi_toInt ha, zi_toInt hb, zi_toInt (by omega)]
  have e : (a : Int).tdiv (b : Int) = ((a / b : Nat) : Int) := by
    rw [Int.tdiv_eq_ediv_of_nonneg (by omega)]
    rfl
  rw [e]
  generalize a / b = c at h1
  have h2 : (c : Int).bmod (2 ^ 32) = (c : Int) := Int.bmod_eq_of_le (by omega) (by omega)
  exact h2
theorem zi_mod {a b : Nat} (ha : a < 2147483648) (hb : b < 2147483648) : zi a - zi a / zi b * zi b = zi (a % b) := by
  rw [zi_div ha hb, zi_mul, zi_sub (Nat.div_mul_le_self a b)]
  congr 1
  have := Nat.div_add_mod a b
  rw [Nat.mul_comm] at this
  omega
def z_du (r : Nat) (P : Nat → Bool) (v : Nat) : Nat → Nat → Nat
  | 0, _ => v
  | m + 1, j => if P ((v + j) % r) then (v + j) % r else z_du r P v m (j + 1)
theorem z_du_lt {r v : Nat} {P : Nat → Bool} (h : v < r ∨ (r = 0 ∧ v = 0)) : ∀ m j, (r = 0 → m = 0) → (z_du r P v m j < r ∨ (r = 0 ∧ z_du r P v m j = 0)) := by
  intro m
  induction m with
  | zero => intro j _; exact h
  | succ m ih =>
    intro j hm
    have hr : 0 < r := by
      cases r with
      | zero => exact absurd (hm rfl) (by omega)
      | succ r => omega
    simp only [z_du]
    split
    · exact Or.inl (Nat.mod_lt _ hr)
    · exact ih (j + 1) (fun h0 => by omega)
/-- the least that keeps b, from i on -/
def z_ls (b : Nat → Bool) : Nat → Nat → Option Nat
  | 0, _ => none
  | m + 1, i => if b i then some i else z_ls b m (i + 1)
theorem z_ls_congr {b b' : Nat → Bool} : ∀ m i, (∀ j, i ≤ j → j < i + m → b j = b' j) → z_ls b m i = z_ls b' m i := by
  intro m
  induction m with
  | zero => intro i _; rfl
  | succ m ih =>
    intro i h
    simp only [z_ls]
    rw [h i (by omega) (by omega), ih (i + 1) (fun j a b => h j (by omega) (by omega))]
theorem z_ls_mem {b : Nat → Bool} : ∀ m i s, z_ls b m i = some s → i ≤ s ∧ s < i + m ∧ b s = true := by
  intro m
  induction m with
  | zero => intro i s h; cases h
  | succ m ih =>
    intro i s h
    simp only [z_ls] at h
    split at h
    · cases h
      rename_i hb
      exact ⟨by omega, by omega, hb⟩
    · obtain ⟨a, b, c⟩ := ih (i + 1) s h
      exact ⟨by omega, by omega, c⟩
/-- among those below i that keep C, the first of the least value -/
def z_nr (C : Nat → Bool) (val : Nat → Option Nat) : Nat → Option (Nat × Nat)
  | 0 => none
  | i + 1 => match val i with
    | none => z_nr C val i
    | some e => if C i then (match z_nr C val i with
        | none => some (i, e)
        | some (b, m) => if e < m then some (i, e) else some (b, m)) else z_nr C val i
theorem z_nr_congr {C C' : Nat → Bool} {val val' : Nat → Option Nat} : ∀ i, (∀ j, j < i → C j = C' j ∧ val j = val' j) → z_nr C val i = z_nr C' val' i := by
  intro i
  induction i with
  | zero => intro _; rfl
  | succ i ih =>
    intro h
    simp only [z_nr]
    rw [ih (fun j hj => h j (by omega)), (h i (by omega)).1, (h i (by omega)).2]
theorem z_nr_mem {C : Nat → Bool} {val : Nat → Option Nat} : ∀ i b m, z_nr C val i = some (b, m) → b < i ∧ C b = true ∧ val b = some m := by
  intro i
  induction i with
  | zero => intro b m h; cases h
  | succ i ih =>
    intro b m h
    simp only [z_nr] at h
    cases hv : val i with
    | none =>
      rw [hv] at h
      obtain ⟨a, b', c⟩ := ih b m h
      exact ⟨by omega, b', c⟩
    | some e =>
      rw [hv] at h
      simp only at h
      by_cases hC : C i = true
      · rw [if_pos hC] at h
        cases hn : z_nr C val i with
        | none =>
          rw [hn] at h
          cases h
          exact ⟨by omega, hC, hv⟩
        | some bm =>
          obtain ⟨b0, m0⟩ := bm
          rw [hn] at h
          simp only at h
          split at h
          · cases h
            exact ⟨by omega, hC, hv⟩
          · cases h
            obtain ⟨a, b', c⟩ := ih b m hn
            exact ⟨by omega, b', c⟩
      · rw [if_neg hC] at h
        obtain ⟨a, b', c⟩ := ih b m h
        exact ⟨by omega, b', c⟩
theorem z_nr_none {C : Nat → Bool} {val : Nat → Option Nat} : ∀ i, z_nr C val i = none → ∀ j, j < i → C j = true → val j = none := by
  intro i
  induction i with
  | zero => intro _ j hj; omega
  | succ i ih =>
    intro h j hj hC
    simp only [z_nr] at h
    cases hv : val i with
    | none =>
      rw [hv] at h
      by_cases hji : j = i
      · rw [hji]; exact hv
      · exact ih h j (by omega) hC
    | some e =>
      rw [hv] at h
      simp only at h
      by_cases hCi : C i = true
      · rw [if_pos hCi] at h
        cases hn : z_nr C val i with
        | none => rw [hn] at h; cases h
        | some bm => rw [hn] at h; simp only at h; split at h <;> cases h
      · rw [if_neg hCi] at h
        by_cases hji : j = i
        · rw [hji] at hC; exact absurd hC hCi
        · exact ih h j (by omega) hC
section ZW
variable (nx : Nat → Nat → Option Nat) (du : Nat → Nat → Nat)
def z_wk : Nat → Option Nat → Nat → Nat → (Nat → Option Nat) → (Nat → Nat) → Option (Nat × Nat) × (Nat → Nat)
  | 0, _, _, _, _, row => (none, row)
  | n + 1, st, p, v, seen, row => match st with
    | none => (none, row)
    | some s => match seen (5 * s + du s v) with
      | some q => (some (q, p - q), row)
      | none => z_wk n (nx s (du s v)) (p + 1) (du s v) (fun z => if z = 5 * s + du s v then some p else seen z) (fun i => if i = p then s else row i)
end ZW
/-- what a walk comes to is kept at: stem and loop, or none; and its states -/
def z_Wo (N : Nat) (res : Option (Nat × Nat) × (Nat → Nat)) (a b : Int32) (g : Nat → Int32) : Prop := match res.1 with
  | none => a = -1 ∧ b = -1
  | some (q, l) => a = zi q ∧ b = zi l ∧ 1 ≤ l ∧ q + l ≤ 1280 ∧ ∀ i, i < q + l → g i = zi (res.2 i) ∧ res.2 i < N
/-- where a lasting state's promise is due, it leads to one that is nearer -/
theorem z_due {N r : Nat} {W : Nat → Nat} {kp op : Nat → Nat → Bool} {S : Nat → Bool} {F : Nat → Nat → Option Nat} (hG : z_Gd N r W kp op S) (hF : ∀ k, k < r → z_St N S (fun s => kp s k) W (F k)) {s k : Nat} (hs : s < N) (hS : S s = true) (hk : k < r) (hp : z_pd' op kp s k = true) : ∃ s', s' < N ∧ S s' = true ∧ s / 8 = W s' ∧ F k s' ≠ none := by
  unfold z_pd' at hp
  rw [Bool.and_eq_true, Bool.not_eq_true'] at hp
  obtain ⟨f, f1, f2⟩ := hG.2 k hk
  have h1 := f2 s hs hS hp.1
  rw [z_St_eq f1 (hF k hk) hs] at h1
  obtain ⟨d, hd⟩ := Option.isSome_iff_exists.mp (Option.isSome_iff_ne_none.mpr h1)
  cases d with
  | zero =>
    have h3 : kp s k = true := (((hF k hk).1 s hs).mp hd).2
    rw [hp.2] at h3
    cases h3
  | succ d =>
    obtain ⟨-, s', a, b, c⟩ := (hF k hk).2.1 s hs d hd
    refine ⟨s', a, ?_, b, by rw [c]; simp⟩
    cases d with
    | zero => exact (((hF k hk).1 s' a).mp c).1
    | succ d => exact ((hF k hk).2.1 s' a d c).1
/-- the walk that both take -/
def z_vu (D : Bool) (f : Nat → Option Nat) (s : Nat) : Option Nat := if D = true then f s else some 0
def z_nxt (N r : Nat) (W : Nat → Nat) (kp op : Nat → Nat → Bool) (S : Nat → Bool) (F : Nat → Nat → Option Nat) (s k : Nat) : Option Nat := (z_nr (fun s' => S s' && (s / 8 == W s')) (z_vu (decide (k < r) && z_pd' op kp s k) (F k)) N).map Prod.fst
def z_dut (r : Nat) (kp op : Nat → Nat → Bool) (s v : Nat) : Nat := z_du r (z_pd' op kp s) v r 0
def z_wlk (N r : Nat) (W : Nat → Nat) (kp op : Nat → Nat → Bool) (wh : Nat → Bool) (S : Nat → Bool) (F : Nat → Nat → Option Nat) : Option (Nat × Nat) × (Nat → Nat) := z_wk (z_nxt N r W kp op S F) (z_dut r kp op) 1300 (z_ls (fun s => S s && wh s) N 0) 0 0 (fun _ => none) (fun _ => 0)
theorem z_wlk_congr {N r : Nat} {W : Nat → Nat} {kp op : Nat → Nat → Bool} {wh : Nat → Bool} {S S' : Nat → Bool} {F F' : Nat → Nat → Option Nat} (hS : ∀ s, s < N → S s = S' s) (hF : ∀ k, k < r → ∀ s, s < N → F k s = F' k s) : z_wlk N r W kp op wh S F = z_wlk N r W kp op wh S' F' := by
  unfold z_wlk
  have e1 : z_ls (fun s => S s && wh s) N 0 = z_ls (fun s => S' s && wh s) N 0 := z_ls_congr N 0 (fun j _ hj => by simp only [hS j (by omega)])
  have e2 : z_nxt N r W kp op S F = z_nxt N r W kp op S' F' := by
    funext s k
    unfold z_nxt
    congr 1
    apply z_nr_congr
    intro j hj
    refine ⟨by simp only [hS j hj], ?_⟩
    unfold z_vu
    by_cases hd : (decide (k < r) && z_pd' op kp s k) = true
    · simp only [hd, if_true]
      rw [Bool.and_eq_true, decide_eq_true_iff] at hd
      exact hF k hd.1 j hj
    · simp only [hd, if_false]
      rfl
  rw [e1, e2]
