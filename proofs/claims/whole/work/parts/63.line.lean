/-! THE CLASS'S READING, against z_pd. -/
theorem z_ld {x : q_W} {p n i : Nat} (h : i < n) (hn : n < 2147483648) : q_ld x p n (zi i) = some (x.2 p i) := by
  have h1 : i < 2147483648 := by omega
  unfold q_ld
  rw [zi_nat h1, if_neg]
  rintro (h2 | h2)
  · exact zi_neg h1 h2
  · omega
theorem z_sto {x : q_W} {p n i : Nat} {v : Int32} (h : i < n) (hn : n < 2147483648) : q_sto x p n (zi i) v = some (q_wr x p i v) := by
  have h1 : i < 2147483648 := by omega
  unfold q_sto
  rw [zi_nat h1, if_neg]
  rintro (h2 | h2)
  · exact zi_neg h1 h2
  · omega
theorem z_wr1 {x : q_W} {p k : Nat} {v : Int32} : (q_wr x p k v).2 p k = v := by simp [q_wr, upd]
theorem z_wr2 {x : q_W} {p k p' k' : Nat} {v : Int32} (h : p' ≠ p ∨ k' ≠ k) : (q_wr x p k v).2 p' k' = x.2 p' k' := by
  by_cases hp : p' = p
  · subst hp
    have hk : k' ≠ k := h.resolve_left (fun f => f rfl)
    simp [q_wr, upd, hk]
  · simp [q_wr, hp]
theorem z_wrp {x : q_W} {p k p' : Nat} {v : Int32} (h : p' ≠ p) : (q_wr x p k v).2 p' = x.2 p' := by
  simp [q_wr, h]
theorem z_wr0 {x : q_W} {p k : Nat} {v : Int32} : (q_wr x p k v).1 = x.1 := rfl
def z_T (c : Nat) : Bool := c == 88 || c == 70 || c == 71 || c == 85 || c == 82
def z_tk (n : Nat) (ch : Nat → Nat) (p : Nat) : Nat := if p < n then ch p else 0
def z_tb (tok : Nat → Nat) : Nat → Nat
  | 0 => 0
  | p + 1 => z_tb tok p + (if z_T (tok p) then 1 else 0)
/-- the line as the class holds it: n characters, reading at p -/
def z_Ln (n : Nat) (ch : Nat → Nat) (x : q_W) : Prop := n ≤ 18 ∧ x.2 1 1 = zi n ∧ ∀ i, i < n → x.2 2 i = zi (ch i) ∧ 33 ≤ ch i ∧ ch i ≤ 126
theorem z_tk_le {n : Nat} {ch : Nat → Nat} {x : q_W} (h : z_Ln n ch x) (p : Nat) : z_tk n ch p ≤ 126 := by
  unfold z_tk
  split
  · rename_i hp
    exact (h.2.2 p hp).2.2
  · omega
theorem z_sign {n : Nat} {ch : Nat → Nat} {x : q_W} (h : z_Ln n ch x) {p : Nat} (hp : p < 2147483648) : f_Li_signAt x (zi p) = some (zi (z_tk n ch p)) := by
  obtain ⟨h1, h2, h3⟩ := h
  unfold f_Li_signAt
  rw [if_neg (zi_neg hp), h2]
  by_cases hpn : p < n
  · rw [if_neg (by rw [zi_le (by omega) hp]; omega), z_ld (by omega) (by omega), (h3 p hpn).1]
    simp [z_tk, hpn]
  · rw [if_pos (by rw [zi_le (by omega) hp]; omega)]
    simp [z_tk, hpn]
    rfl
theorem z_isT {x : q_W} {c : Nat} (hc : c < 2147483648) : f_D_isTemporal x (zi c) = some (q_nb (if z_T c then 1 else 0)) := by
  unfold f_D_isTemporal z_T
  simp only [show (88 : Int32) = zi 88 from rfl, show (70 : Int32) = zi 70 from rfl, show (71 : Int32) = zi 71 from rfl, show (85 : Int32) = zi 85 from rfl, show (82 : Int32) = zi 82 from rfl]
  simp (disch := omega) only [zi_eq]
  by_cases h1 : c = 88
  · simp [h1]
  · by_cases h2 : c = 70
    · simp [h2]
    · by_cases h3 : c = 71
      · simp [h3]
      · by_cases h4 : c = 85
        · simp [h4]
        · by_cases h5 : c = 82
          · simp [h5]
          · simp [h1, h2, h3, h4, h5]
theorem z_nb1 : q_nb 1 = 1 := rfl
theorem z_nb0 : q_nb 0 = 0 := rfl
theorem z_10 : (1 : Int32) ≠ 0 := by decide
theorem z_tb_L {n : Nat} {ch : Nat → Nat} {x : q_W} (h : z_Ln n ch x) {p : Nat} (hp : p < 1000) : ∀ k i, i ≤ p → p < i + k → f_Li_temporalsBefore_L4 k x (zi p) (zi (z_tb (z_tk n ch) i)) (zi i) = some (zi (z_tb (z_tk n ch) p)) := by
  intro k
  induction k with
  | zero => intro i h1 h2; omega
  | succ k ih =>
    intro i h1 h2
    simp only [f_Li_temporalsBefore_L4]
    by_cases hi : i = p
    · subst hi
      rw [if_pos (by rw [zi_le (by omega) (by omega)]; omega)]
    · rw [if_neg (by rw [zi_le (by omega) (by omega)]; omega), z_sign h (by omega)]
      simp only [Option.bind_some]
      have := z_tk_le h i
      rw [z_isT (by omega)]
      simp only [Option.bind_some, zi_succ]
      by_cases ht : z_T (z_tk n ch i) = true
      · have e : z_tb (z_tk n ch) i + 1 = z_tb (z_tk n ch) (i + 1) := by simp [z_tb, ht]
        rw [if_pos ht, z_nb1, if_neg z_10, e]
        exact ih (i + 1) (by omega) (by omega)
      · have e : z_tb (z_tk n ch) i = z_tb (z_tk n ch) (i + 1) := by simp [z_tb, ht]
        rw [if_neg ht, z_nb0, if_pos rfl, e]
        exact ih (i + 1) (by omega) (by omega)
theorem z_tbf {n : Nat} {ch : Nat → Nat} {x : q_W} (h : z_Ln n ch x) {p : Nat} (hp : p < 1000) : f_Li_temporalsBefore x (zi p) = some (zi (z_tb (z_tk n ch) p)) :=
  z_tb_L h hp q_fu 0 (by omega) (by simp only [q_fu]; omega)
theorem z_join {x : q_W} {c L : Nat} (hc : c < 2147483648) (hL : L < 4) : ∃ w, f_Li_levelJoinedBy x (zi c) = some w ∧ (w = zi L ↔ z_jn c = L) := by
  unfold f_Li_levelJoinedBy z_jn
  simp only [show (38 : Int32) = zi 38 from rfl, show (62 : Int32) = zi 62 from rfl, show (124 : Int32) = zi 124 from rfl, show (85 : Int32) = zi 85 from rfl, show (82 : Int32) = zi 82 from rfl]
  simp (disch := omega) only [zi_eq]
  by_cases h1 : c = 38
  · subst h1
    exact ⟨zi 2, rfl, by rw [zi_eq (by omega) (by omega)]; simp⟩
  · by_cases h2 : c = 62
    · subst h2
      exact ⟨zi 0, rfl, by rw [zi_eq (by omega) (by omega)]; simp⟩
    · by_cases h3 : c = 82
      · subst h3
        exact ⟨zi 3, rfl, by rw [zi_eq (by omega) (by omega)]; simp⟩
      · by_cases h4 : c = 85
        · subst h4
          exact ⟨zi 3, rfl, by rw [zi_eq (by omega) (by omega)]; simp⟩
        · by_cases h5 : c = 124
          · subst h5
            exact ⟨zi 1, rfl, by rw [zi_eq (by omega) (by omega)]; simp⟩
          · refine ⟨-1, by simp [h1, h2, h3, h4, h5], ?_⟩
            simp only [h1, h2, h3, h4, h5, if_false, or_self]
            constructor
            · intro e
              exact absurd e.symm (zi_m1 (by omega))
            · intro e
              omega
