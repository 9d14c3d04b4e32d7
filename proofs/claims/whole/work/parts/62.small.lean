/-! SMALL NUMBERS (zi), AND WHAT A FUNCTION OF THE TWO SIDES GIVES (z_ok: it gives something, and that keeps P). -/
def zi (n : Nat) : Int32 := Int32.ofNat n
def z_ok {α : Type} (o : Option α) (P : α → Prop) : Prop := ∃ a, o = some a ∧ P a
theorem zi_toInt {n : Nat} (h : n < 2147483648) : (zi n).toInt = n := Int32.toInt_ofNat_of_lt h
theorem zi_lit (n : Nat) : (OfNat.ofNat n : Int32) = zi n := rfl
theorem zi_le {n m : Nat} (hn : n < 2147483648) (hm : m < 2147483648) : zi n ≤ zi m ↔ n ≤ m := by
  rw [Int32.le_iff_toInt_le, zi_toInt hn, zi_toInt hm]; omega
theorem zi_lt {n m : Nat} (hn : n < 2147483648) (hm : m < 2147483648) : zi n < zi m ↔ n < m := by
  rw [Int32.lt_iff_toInt_lt, zi_toInt hn, zi_toInt hm]; omega
theorem zi_eq {n m : Nat} (hn : n < 2147483648) (hm : m < 2147483648) : zi n = zi m ↔ n = m := by
  rw [← Int32.toInt_inj, zi_toInt hn, zi_toInt hm]; omega
theorem zi_add (n m : Nat) : zi n + zi m = zi (n + m) := (Int32.ofNat_add n m).symm
theorem zi_succ (n : Nat) : zi n + 1 = zi (n + 1) := zi_add n 1
theorem zi_nat {n : Nat} (h : n < 2147483648) : (zi n).toNatClampNeg = n := by
  rw [← Int32.toNat_toInt, zi_toInt h]; omega
theorem zi_neg {n : Nat} (h : n < 2147483648) : ¬ zi n < 0 := by
  rw [Int32.lt_iff_toInt_lt, zi_toInt h]
  have : (0 : Int32).toInt = 0 := rfl
  omega
theorem zi_m1 {n : Nat} (h : n < 2147483648) : zi n ≠ -1 := by
  intro e
  have := congrArg Int32.toInt e
  rw [zi_toInt h] at this
  have h1 : (-1 : Int32).toInt = -1 := rfl
  omega
theorem zi_pred {n : Nat} (h : 0 < n) : zi n - 1 = zi (n - 1) := by
  obtain ⟨m, rfl⟩ : ∃ m, n = m + 1 := ⟨n - 1, by omega⟩
  rw [← zi_succ]
  simp
theorem zi_of {v : Int32} (h : ¬ v < 0) : ∃ n, n < 2147483648 ∧ v = zi n := by
  refine ⟨v.toNatClampNeg, ?_, ?_⟩
  · have := Int32.toInt_lt v
    rw [← Int32.toNat_toInt]
    omega
  · have h0 : 0 ≤ v.toInt := by
      rw [Int32.lt_iff_toInt_lt] at h
      have : (0 : Int32).toInt = 0 := rfl
      omega
    apply Int32.toInt_inj.mp
    have h1 := Int32.toInt_lt v
    rw [zi_toInt (by rw [← Int32.toNat_toInt]; omega), ← Int32.toNat_toInt]
    omega
section ZK
variable {α β : Type} {P : β → Prop}
theorem z_ok.some {a : β} (h : P a) : z_ok (some a) P := ⟨a, rfl, h⟩
theorem z_ok.bind {o : Option α} {f : α → Option β} {Q : α → Prop} (h : z_ok o Q) (k : ∀ a, Q a → z_ok (f a) P) : z_ok (o.bind f) P := by
  obtain ⟨a, rfl, ha⟩ := h
  exact k a ha
theorem z_ok.to {o : Option α} {f : α → Option β} {a : α} (h : o = .some a) (k : z_ok (f a) P) : z_ok (o.bind f) P := by
  rw [h]
  exact k
theorem z_ok.let {a : α} {f : α → Option β} (k : z_ok (f a) P) : z_ok (q_let a f) P := k
theorem z_ok.ite {c : Prop} [Decidable c] {A B : Option β} (h : c → z_ok A P) (g : ¬ c → z_ok B P) : z_ok (if c then A else B) P := by
  by_cases hc : c
  · rw [if_pos hc]; exact h hc
  · rw [if_neg hc]; exact g hc
theorem z_ok.pos {c : Prop} [Decidable c] {A B : Option β} (hc : c) (h : z_ok A P) : z_ok (if c then A else B) P := by
  rw [if_pos hc]; exact h
theorem z_ok.neg {c : Prop} [Decidable c] {A B : Option β} (hc : ¬ c) (h : z_ok B P) : z_ok (if c then A else B) P := by
  rw [if_neg hc]; exact h
theorem z_ok.mono {o : Option β} {Q : β → Prop} (h : z_ok o Q) (k : ∀ a, Q a → P a) : z_ok o P := by
  obtain ⟨a, e, ha⟩ := h
  exact ⟨a, e, k a ha⟩
end ZK
