/-! BITS of 32-bit numbers. -/
def z_bt (w : Int32) (i : Nat) : Bool := w.toBitVec.getLsbD i
theorem z_bt_ext {a b : Int32} (h : ∀ i, i < 32 → z_bt a i = z_bt b i) : a = b := by
  apply Int32.toBitVec_inj.mp
  apply BitVec.eq_of_getLsbD_eq
  intro i hi
  exact h i hi
theorem z_bt_hi {a : Int32} {i : Nat} (h : 32 ≤ i) : z_bt a i = false := BitVec.getLsbD_of_ge _ _ h
theorem z_bt_and {a b : Int32} {i : Nat} : z_bt (a &&& b) i = (z_bt a i && z_bt b i) := by
  unfold z_bt
  rw [Int32.toBitVec_and, BitVec.getLsbD_and]
theorem z_bt_or {a b : Int32} {i : Nat} : z_bt (a ||| b) i = (z_bt a i || z_bt b i) := by
  unfold z_bt
  rw [Int32.toBitVec_or, BitVec.getLsbD_or]
theorem z_bt_m1 {i : Nat} (h : i < 32) : z_bt (-1) i = true := by
  have : ∀ i, i < 32 → z_bt (-1) i = true := by decide
  exact this i h
theorem z_bt_not {a : Int32} {i : Nat} (h : i < 32) : z_bt (a ^^^ (-1)) i = !z_bt a i := by
  have := z_bt_m1 h
  unfold z_bt at this ⊢
  rw [Int32.toBitVec_xor, BitVec.getLsbD_xor, this]
  simp
theorem z_bt_0 {i : Nat} : z_bt 0 i = false := by
  unfold z_bt
  rw [show (0 : Int32).toBitVec = 0#32 from rfl]
  simp
theorem z_31 : ∀ i, i < 32 → (zi i &&& 31) = zi i := by decide
theorem z_sm : ∀ i, i < 32 → (zi i).toBitVec.smod 32 = BitVec.ofNat 32 i := by decide
theorem z_bt_shr {a : Int32} {i j : Nat} (hj : j < 32) (hi : i + j < 32) : z_bt (a >>> (zi j &&& 31)) i = z_bt a (i + j) := by
  unfold z_bt
  rw [z_31 j hj, Int32.toBitVec_shiftRight, z_sm j hj]
  show (a.toBitVec.sshiftRight (BitVec.ofNat 32 j).toNat).getLsbD i = _
  rw [show (BitVec.ofNat 32 j).toNat = j by rw [BitVec.toNat_ofNat]; omega, BitVec.getLsbD_sshiftRight]
  have h1 : ¬ 32 ≤ i := by omega
  have h2 : j + i < 32 := by omega
  simp [h1, h2, Nat.add_comm]
  intro h; omega
theorem z_bt_1 {i : Nat} : z_bt 1 i = decide (i = 0) := by
  by_cases h : i < 32
  · have : ∀ i, i < 32 → z_bt 1 i = decide (i = 0) := by decide
    exact this i h
  · rw [z_bt_hi (by omega)]
    have : i ≠ 0 := by omega
    simp [this]
theorem z_bt_one {i j : Nat} (hj : j < 32) : z_bt (1 <<< (zi j &&& 31)) i = decide (i = j) := by
  by_cases h : i < 32
  · have : ∀ j, j < 32 → ∀ i, i < 32 → z_bt (1 <<< (zi j &&& 31)) i = decide (i = j) := by decide +kernel
    exact this j hj i h
  · rw [z_bt_hi (by omega)]
    have : i ≠ j := by omega
    simp [this]
theorem z_bt_set {v : Int32} {i j : Nat} (hj : j < 32) : z_bt (v ||| (1 <<< (zi j &&& 31))) i = (z_bt v i || decide (i = j)) := by
  rw [z_bt_or, z_bt_one hj]
theorem z_bit {w : Int32} {i : Nat} (hi : i < 32) : ((w >>> (zi i &&& 31)) &&& 1) = if z_bt w i then 1 else 0 := by
  apply z_bt_ext
  intro k hk
  rw [z_bt_and, z_bt_1]
  by_cases h0 : k = 0
  · subst h0
    rw [z_bt_shr hi (by omega), Nat.zero_add]
    cases z_bt w i with
    | true => simp [z_bt_1]
    | false => simp [z_bt_0]
  · simp only [h0, decide_false, Bool.and_false]
    cases z_bt w i with
    | true => simp [z_bt_1, h0]
    | false => simp [z_bt_0]
theorem z_hb {x : q_W} {w : Int32} {i : Nat} (hi : i < 32) : f_D_hasBit x w (zi i) = some (if z_bt w i then 1 else 0) := by
  unfold f_D_hasBit
  rw [z_bit hi]
  cases z_bt w i with
  | true => rfl
  | false => rfl
theorem z_bt_zi {m i : Nat} (hi : i < 32) : z_bt (zi m) i = m.testBit i := by
  unfold z_bt zi
  rw [show (Int32.ofNat m).toBitVec = BitVec.ofNat 32 m from rfl, BitVec.getLsbD_ofNat]
  simp [hi]
/-- a number whose bits from t on are none is a small one -/
theorem z_bt_nat {w : Int32} {t : Nat} (ht : t < 31) (h : ∀ i, t ≤ i → z_bt w i = false) : ∃ m, w = zi m ∧ m < 2 ^ t := by
  refine ⟨w.toBitVec.toNat, ?_, ?_⟩
  · apply z_bt_ext
    intro i hi
    rw [z_bt_zi hi]
    rfl
  · apply Nat.lt_pow_two_of_testBit
    intro i hi
    exact h i hi
theorem z_ifb {b : Bool} : ((if b then 1 else 0 : Int32) = 0) ↔ b = false := by cases b <;> decide
theorem z_ifb1 {b : Bool} : ((if b then 1 else 0 : Int32) = 1) ↔ b = true := by cases b <;> decide
theorem z_ifbe {b c : Bool} : ((if b then 1 else 0 : Int32) = (if c then 1 else 0)) ↔ b = c := by cases b <;> cases c <;> decide
def zb (b : Bool) : Int32 := if b then 1 else 0
theorem zb_nb (b : Bool) : q_nb (zb b) = zb b := by cases b <;> rfl
theorem zb_nar (b : Bool) : vp_nar .boolean (zb b) = zb b := by cases b <;> rfl
theorem zb_0 {b : Bool} : (zb b = 0) ↔ b = false := z_ifb
theorem zb_1 {b : Bool} : (zb b = 1) ↔ b = true := z_ifb1
theorem zb_e {b c : Bool} : (zb b = zb c) ↔ b = c := z_ifbe
theorem z_hbb {x : q_W} {w : Int32} {i : Nat} (hi : i < 32) : f_D_hasBit x w (zi i) = some (zb (z_bt w i)) := z_hb hi
theorem z_bitb {w : Int32} {i : Nat} (hi : i < 32) : ((w >>> (zi i &&& 31)) &&& 1) = zb (z_bt w i) := z_bit hi
theorem z_shr3 : ∀ s, s < 256 → (zi s >>> (3 &&& 31)) = zi (s / 8) := by decide +kernel
theorem z_shl3 : ∀ w, w < 32 → (zi w <<< (3 &&& 31)) = zi (8 * w) := by decide +kernel
theorem z_st8 : ∀ t, t ≤ 5 → (8 <<< (zi t &&& 31) : Int32) = zi (8 * 2 ^ t) := by decide +kernel
theorem z_p2 : ∀ t, t ≤ 5 → 1 ≤ 2 ^ t ∧ 2 ^ t ≤ 32 := by decide
/-- the mask of the numbers below k that keep b -/
def z_ms (b : Nat → Bool) : Nat → Int32
  | 0 => 0
  | k + 1 => if b k then z_ms b k ||| (1 <<< (zi k &&& 31)) else z_ms b k
theorem z_bt_ms {b : Nat → Bool} {k i : Nat} (hk : k ≤ 32) : z_bt (z_ms b k) i = (decide (i < k) && b i) := by
  induction k with
  | zero => simp [z_ms, z_bt_0]
  | succ k ih =>
    have ih := ih (by omega)
    simp only [z_ms]
    by_cases hb : b k = true
    · rw [if_pos hb, z_bt_set (by omega), ih]
      by_cases hik : i = k
      · subst hik; simp [hb]
      · have : decide (i < k + 1) = decide (i < k) := by simp; omega
        simp [hik, this]
    · rw [if_neg hb, ih]
      by_cases hik : i = k
      · subst hik; simp [hb]
      · have : decide (i < k + 1) = decide (i < k) := by simp; omega
        simp [this]
theorem z_ms_nat {b : Nat → Bool} {t : Nat} (ht : t ≤ 5) : ∃ m, z_ms b t = zi m ∧ m < 2 ^ t := z_bt_nat (by omega) (fun i hi => by rw [z_bt_ms (by omega)]; simp; omega)
theorem z_ms_congr {b b' : Nat → Bool} {k : Nat} (h : ∀ i, i < k → b i = b' i) : z_ms b k = z_ms b' k := by
  induction k with
  | zero => rfl
  | succ k ih =>
    simp only [z_ms]
    rw [ih (fun i hi => h i (by omega)), h k (by omega)]
