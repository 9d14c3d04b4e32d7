/-! THE REFERENCE'S READING: its two stacks, as lists, and the parts behind them (places g to g + 3). -/
def z_kd (c : Nat) : Nat := if c = 48 then 0 else if c = 49 then 1 else if c = 97 then 2 else if c = 98 then 3 else if c = 99 then 4 else if c = 33 then 5 else if c = 88 then 6 else if c = 70 then 7 else if c = 71 then 8 else if c = 85 then 9 else if c = 82 then 10 else if c = 38 then 11 else if c = 124 then 12 else if c = 62 then 13 else 14
def z_op (c : Nat) : Bool := z_pre c || decide (z_jn c < 4)
theorem z_op_c {c : Nat} (h : z_op c = true) : c = 33 ∨ c = 88 ∨ c = 70 ∨ c = 71 ∨ c = 85 ∨ c = 82 ∨ c = 38 ∨ c = 124 ∨ c = 62 := by
  simp only [z_op, Bool.or_eq_true, decide_eq_true_eq] at h
  rcases h with h | h
  · simp only [z_pre, Bool.or_eq_true, beq_iff_eq] at h
    omega
  · rcases z_jn_c rfl h with ⟨-, e⟩ | ⟨-, e⟩ | ⟨-, e⟩ | ⟨-, e⟩ <;> omega
theorem z_bits : ∀ k, k < 15 → ∀ i, i < 20 → zi (k + 16 * i) &&& 15 = zi k ∧ zi (k + 16 * i) >>> ((4 : Int32) &&& 31) = zi i := by decide +kernel
theorem z_ite_lt {c : Prop} [Decidable c] {a b k : Nat} (h : a < k) (g : b < k) : (if c then a else b) < k := by
  by_cases hc : c
  · rw [if_pos hc]; exact h
  · rw [if_neg hc]; exact g
theorem z_kd_lt (c : Nat) : z_kd c < 15 := by
  unfold z_kd
  refine z_ite_lt (by omega) ?_
  refine z_ite_lt (by omega) ?_
  refine z_ite_lt (by omega) ?_
  refine z_ite_lt (by omega) ?_
  refine z_ite_lt (by omega) ?_
  refine z_ite_lt (by omega) ?_
  refine z_ite_lt (by omega) ?_
  refine z_ite_lt (by omega) ?_
  refine z_ite_lt (by omega) ?_
  refine z_ite_lt (by omega) ?_
  refine z_ite_lt (by omega) ?_
  refine z_ite_lt (by omega) ?_
  refine z_ite_lt (by omega) ?_
  refine z_ite_lt (by omega) ?_
  omega
theorem z_tight {x : q_W} {c : Nat} (h : z_op c = true ∨ c = 40) : f_Mo_tightness x (zi (z_kd c)) = some (zi (z_ti c)) ∧ (9 ≤ z_kd c ↔ z_pre c = false) ∧ (z_T c = true ↔ 6 ≤ z_kd c ∧ z_kd c ≤ 10) := by
  have h : c = 33 ∨ c = 88 ∨ c = 70 ∨ c = 71 ∨ c = 85 ∨ c = 82 ∨ c = 38 ∨ c = 124 ∨ c = 62 ∨ c = 40 := by
    rcases h with h | h
    · have := z_op_c h; omega
    · omega
  rcases h with rfl | rfl | rfl | rfl | rfl | rfl | rfl | rfl | rfl | rfl <;> exact ⟨rfl, by decide, by decide⟩
section ZM
variable {D : Type} (A : z_A D)
def z_Op (x : q_W) : List (Nat × Nat) → Prop
  | [] => True
  | (c, i) :: O => (x.2 45 O.length = zi (z_kd c + 16 * i) ∧ (z_op c = true ∨ c = 40) ∧ i < 20) ∧ z_Op x O
def z_Vl (x : q_W) (v : Nat → D) (m : Nat) : List D → Prop
  | [] => True
  | d :: V => (∃ w, x.2 44 V.length = zi w ∧ w < m ∧ v w = d) ∧ z_Vl x v m V
/-- the part at i of the reference's, read from the places g to g + 3 -/
def z_nm (g : Nat) (v : Nat → D) (x : q_W) (i : Nat) : Prop := ∃ sg nu : Nat, x.2 g i = zi (z_kd sg) ∧ x.2 (g + 3) i = zi nu ∧ nu < 20 ∧ ((z_leaf sg = true ∧ x.2 (g + 1) i = -1 ∧ x.2 (g + 2) i = -1 ∧ v i = A.1 sg) ∨ ∃ lf rt : Nat, x.2 (g + 1) i = zi lf ∧ x.2 (g + 2) i = zi rt ∧ lf < i ∧ rt < i ∧ ((z_pre sg = true ∧ lf = rt ∧ v i = A.2.1 sg nu (v rt)) ∨ (z_jn sg < 4 ∧ v i = A.2.2 sg nu (v lf) (v rt))))
def z_nbn : List (Nat × Nat) → Nat
  | [] => 0
  | (c, _) :: O => (if z_jn c < 4 then 1 else 0) + z_nbn O
def z_nbr : List (Nat × Nat) → Nat
  | [] => 0
  | (c, _) :: O => (if c = 40 then 0 else 1) + z_nbr O
/-- i is the number of a temporal operator that waits on the stack -/
def z_On (O : List (Nat × Nat)) (i : Nat) : Prop := ∃ c, (c, i) ∈ O ∧ z_T c = true
/-- temporal parts have numbers of their own, below tt, and none of those that wait -/
def z_un (g : Nat) (x : q_W) (m tt : Nat) (O : List (Nat × Nat)) : Prop :=
  (∀ j, j < m → ∀ nu : Nat, x.2 (g + 3) j = zi nu → nu < 20 → (zi 6 ≤ x.2 g j ∧ x.2 g j ≤ zi 10) → nu < tt ∧ ¬ z_On O nu ∧ ∀ j', j' < m → x.2 (g + 3) j' = zi nu → (zi 6 ≤ x.2 g j' ∧ x.2 g j' ≤ zi 10) → j' = j)
  ∧ (∀ i, z_On O i → i < tt) ∧ O.Pairwise (fun a b => z_T a.1 = true → z_T b.1 = true → a.2 ≠ b.2)
/-- the log entry e is that of a temporal part with number i -/
def z_te (g : Nat) (v : Nat → z_LD D) (x : q_W) (m i : Nat) (e : Nat × D × D × D) : Prop := ∃ j sg lf rt : Nat, j < m ∧ x.2 g j = zi (z_kd sg) ∧ x.2 (g + 1) j = zi lf ∧ x.2 (g + 2) j = zi rt ∧ x.2 (g + 3) j = zi i ∧ lf < j ∧ rt < j ∧ i < 20 ∧ z_op sg = true ∧ z_T sg = true ∧ e = (sg, (v j).1, (v lf).1, (v rt).1)
def z_Mo (A : z_A D) (x : q_W) (v : Nat → z_LD D) (m tt : Nat) (O : List (Nat × Nat)) (V : List (z_LD D)) : Prop :=
  (x.2 32 13 = zi m ∧ x.2 32 18 = zi tt ∧ x.2 32 20 = zi V.length ∧ x.2 32 22 = zi O.length) ∧ z_Op x O ∧ z_Vl x v m V ∧ (∀ i, i < m → z_nm (z_lg A) 40 v x i) ∧ z_un 40 x m tt O ∧ (∀ i, i < m → ∀ q e, (v i).2 q = some e → z_te 40 v x m q e) ∧ (∀ d V', V = d :: V' → x.2 44 V'.length = zi (m - 1))
/-- nothing but the reference's reading is touched -/
def z_Fm (x y : q_W) : Prop := y.1 = x.1 ∧ (∀ q, q < 32 ∨ (32 < q ∧ q < 40) ∨ 45 < q → y.2 q = x.2 q) ∧ (∀ k, k ≠ 13 → k ≠ 18 → k ≠ 20 → k ≠ 22 → y.2 32 k = x.2 32 k)
theorem z_Fm_rf {x : q_W} : z_Fm x x := ⟨rfl, fun _ _ => rfl, fun _ _ _ _ _ => rfl⟩
theorem z_Fm_tr {x y z : q_W} (h : z_Fm x y) (g : z_Fm y z) : z_Fm x z := ⟨g.1.trans h.1, fun q a => (g.2.1 q a).trans (h.2.1 q a), fun k a b c d => (g.2.2 k a b c d).trans (h.2.2 k a b c d)⟩
theorem z_Op_same {x y : q_W} {O : List (Nat × Nat)} (h : z_Op x O) (e : ∀ i, i < O.length → y.2 45 i = x.2 45 i) : z_Op y O := by
  induction O with
  | nil => trivial
  | cons a O ih =>
    obtain ⟨c, i⟩ := a
    obtain ⟨⟨h1, h2⟩, h3⟩ := h
    exact ⟨⟨(e _ (by simp)).trans h1, h2⟩, ih h3 (fun j hj => e j (by simp; omega))⟩
theorem z_Vl_same {x y : q_W} {v v' : Nat → D} {m m' : Nat} {V : List D} (h : z_Vl x v m V) (e : ∀ i, i < V.length → y.2 44 i = x.2 44 i) (hm : m ≤ m') (hv : ∀ j, j < m → v' j = v j) : z_Vl y v' m' V := by
  induction V with
  | nil => trivial
  | cons d V ih =>
    obtain ⟨⟨w, h1, h2, h3⟩, h4⟩ := h
    exact ⟨⟨w, (e _ (by simp)).trans h1, by omega, (hv w h2).trans h3⟩, ih h4 (fun j hj => e j (by simp; omega))⟩
/-- a part made by the reference -/
def z_Pt (m l : Nat) (kd nu : Nat) (a b : Int32) (x y : q_W) : Prop := y.1 = x.1 ∧ (∀ q, q < 32 ∨ (32 < q ∧ q < 40) ∨ 44 < q → y.2 q = x.2 q) ∧ (∀ k, k ≠ 13 → k ≠ 20 → y.2 32 k = x.2 32 k) ∧ y.2 32 13 = zi (m + 1) ∧ y.2 32 20 = zi (l + 1) ∧ (y.2 40 m = zi kd ∧ y.2 41 m = a ∧ y.2 42 m = b ∧ y.2 43 m = zi nu ∧ y.2 44 l = zi m) ∧ (∀ i, i ≠ m → y.2 40 i = x.2 40 i ∧ y.2 41 i = x.2 41 i ∧ y.2 42 i = x.2 42 i ∧ y.2 43 i = x.2 43 i) ∧ (∀ i, i ≠ l → y.2 44 i = x.2 44 i)
theorem z_part {m l kd nu : Nat} {a b : Int32} {x : q_W} (hm : x.2 32 13 = zi m) (hl : x.2 32 20 = zi l) (hm18 : m < 18) (hl18 : l < 18) : ∃ y, f_Mo_part x (zi kd) (zi nu) a b = some y ∧ z_Pt m l kd nu a b x y := by
  unfold f_Mo_part
  simp only [hm, z_sto hm18 (show 18 < 2147483648 by omega), Option.bind_some, z_wrv, show ¬ ((32 : Nat) = 40) by decide, show ¬ ((32 : Nat) = 43) by decide, show ¬ ((32 : Nat) = 41) by decide, show ¬ ((32 : Nat) = 42) by decide, false_and, if_false, hl, z_sto hl18 (show 18 < 2147483648 by omega), q_let]
  refine ⟨_, rfl, rfl, fun q hq => ?_, fun k k1 k2 => ?_, ?_, ?_, ⟨?_, ?_, ?_, ?_, ?_⟩, fun i hi => ⟨?_, ?_, ?_, ?_⟩, fun i hi => ?_⟩
  · rw [z_wrf (by omega), z_wrf (by omega), z_wrf (by omega), z_wrf (by omega), z_wrf (by omega), z_wrf (by omega), z_wrf (by omega)]
  · simp [z_wrv, k1, k2]
  · simp [z_wrv, hm, zi_succ]
  · simp [z_wrv, hl, zi_succ]
  all_goals first | (simp [z_wrv]; done) | (simp [z_wrv, hi]; done)
end ZM
