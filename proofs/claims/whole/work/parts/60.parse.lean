/-! THE LINE, READ TWO WAYS, in any algebra whose & and | may be bracketed anyhow: by descent (z_pd, as the class does it) and by two stacks (z_st, z_run, as the reference does it). They accept the same lines and give the same value. -/
def z_leaf (c : Nat) : Bool := c == 48 || c == 49 || c == 97 || c == 98 || c == 99
def z_pre (c : Nat) : Bool := c == 33 || c == 88 || c == 70 || c == 71
def z_jn (c : Nat) : Nat := if c = 62 then 0 else if c = 124 then 1 else if c = 38 then 2 else if c = 85 ∨ c = 82 then 3 else 9
def z_ti (c : Nat) : Nat := if z_pre c then 5 else if c = 85 ∨ c = 82 then 4 else if c = 38 then 3 else if c = 124 then 2 else if c = 62 then 1 else 0
def z_th (L : Nat) : Nat := L + 1
/-- how tight an operator must be to be joined ahead of the sign c -/
def z_sh (c : Nat) : Nat := if c = 38 then 3 else if c = 124 ∨ c = 62 then 2 else 5
abbrev z_A (D : Type) : Type := (Nat → D) × (Nat → Nat → D → D) × (Nat → Nat → D → D → D)
def z_as {D : Type} (A : z_A D) : Prop := ∀ c, c = 38 ∨ c = 124 → ∀ (i j i' j' : Nat) (u v w : D), A.2.2 c i (A.2.2 c j u v) w = A.2.2 c i' u (A.2.2 c j' v w)
section ZP
variable {D : Type} (A : z_A D) (tok tb : Nat → Nat)
/-- tag 0: a level; 1: a simple part; 2: what stands in a bracket, and the bracket's end -/
def z_pd : Nat → Nat → Nat → Nat → Nat → Option (Option D × Nat)
  | 0 => fun _ _ _ _ => none
  | k + 1 => fun tag L b p => match tag with
    | 0 => if 4 ≤ L then z_pd k 1 0 b p else
      (z_pd k 0 (L + 1) b p).bind fun q => match q.1 with
        | none => some (none, q.2)
        | some v => if z_jn (tok q.2) = L then
            (z_pd k 0 L b (q.2 + 1)).bind fun w => match w.1 with
              | none => some (none, w.2)
              | some u => some (some (A.2.2 (tok q.2) (tb q.2) v u), w.2)
          else some (some v, q.2)
    | 1 => if z_leaf (tok p) then some (some (A.1 (tok p)), p + 1)
      else if z_pre (tok p) then
        (z_pd k 1 0 b (p + 1)).bind fun q => match q.1 with
          | none => some (none, q.2)
          | some v => some (some (A.2.1 (tok p) (tb p) v), q.2)
      else if tok p = 40 then (if 4 ≤ b then some (none, p + 1) else z_pd k 2 0 (b + 1) (p + 1))
      else some (none, p + 1)
    | _ => (z_pd k 0 0 b p).bind fun q => if tok q.2 = 41 then some (q.1, q.2 + 1) else some (none, q.2)
def z_app (c i : Nat) (V : List D) : List D := if z_pre c then (match V with
    | v :: V' => A.2.1 c i v :: V'
    | [] => []) else (match V with
    | w :: v :: V' => A.2.2 c i v w :: V'
    | _ => [])
def z_se (t : Nat) : List (Nat × Nat) → List D → List (Nat × Nat) × List D
  | [], V => ([], V)
  | (c, i) :: O, V => if t ≤ z_ti c then z_se t O (z_app A c i V) else ((c, i) :: O, V)
/-- a state of the two stacks: operators, values, brackets not yet ended, whether a value stands before -/
abbrev z_S (D : Type) : Type := List (Nat × Nat) × List D × Nat × Bool
def z_st (p : Nat) (S : z_S D) : Option (z_S D) :=
  if S.2.2.2 then
    (if tok p = 41 then (match z_se A 1 S.1 S.2.1 with
      | ([], _) => none
      | (_ :: O, V) => some (O, V, S.2.2.1 - 1, true))
    else if z_jn (tok p) < 4 then some ((tok p, tb p) :: (z_se A (z_sh (tok p)) S.1 S.2.1).1, (z_se A (z_sh (tok p)) S.1 S.2.1).2, S.2.2.1, false)
    else none)
  else
    (if z_leaf (tok p) then some (S.1, A.1 (tok p) :: S.2.1, S.2.2.1, true)
    else if tok p = 40 then (if S.2.2.1 + 1 < 5 then some ((40, 0) :: S.1, S.2.1, S.2.2.1 + 1, false) else none)
    else if z_pre (tok p) then some ((tok p, tb p) :: S.1, S.2.1, S.2.2.1, false)
    else none)
def z_run : Nat → Nat → z_S D → Option (z_S D)
  | 0, _, S => some S
  | m + 1, p, S => (z_st A tok tb p S).bind (z_run m (p + 1))
theorem z_run_add (m k p : Nat) (S : z_S D) : z_run A tok tb (m + k) p S = (z_run A tok tb m p S).bind (z_run A tok tb k (p + m)) := by
  induction m generalizing p S with
  | zero => simp [z_run]
  | succ m ih =>
    rw [Nat.succ_add]
    simp only [z_run]
    cases h : z_st A tok tb p S with
    | none => rfl
    | some S' =>
      simp only [Option.bind_some]
      rw [ih, show p + (m + 1) = p + 1 + m by omega]
/-- the operators that a level may begin upon -/
def z_hd (L : Nat) (O : List (Nat × Nat)) : Prop := match O with
  | [] => True
  | (c, _) :: _ => z_ti c < z_th L
def z_C (L : Nat) (O : List (Nat × Nat)) : Prop := match O with
  | [] => True
  | (c, _) :: O' => z_ti c < z_th L ∨ (z_ti c = z_th L ∧ (L = 1 ∨ L = 2 → z_hd L O'))
theorem z_se_lt {t c i : Nat} {O : List (Nat × Nat)} {V : List D} (h : z_ti c < t) : z_se A t ((c, i) :: O) V = ((c, i) :: O, V) := by
  simp [z_se, Nat.not_le.mpr h]
theorem z_se_ge {t c i : Nat} {O : List (Nat × Nat)} {V : List D} (h : t ≤ z_ti c) : z_se A t ((c, i) :: O) V = z_se A t O (z_app A c i V) := by
  simp [z_se, h]
theorem z_C_up {L : Nat} {O : List (Nat × Nat)} (h : z_C L O) : z_C (L + 1) O := by
  match O, h with
  | [], _ => trivial
  | (c, i) :: O', h =>
    left
    unfold z_th
    rcases h with h | h
    · unfold z_th at h; omega
    · have := h.1; unfold z_th at this; omega
/-- a bracket's end, a sign: what a simple part or a level can't go on with -/
theorem z_jn_ti {c : Nat} (h : z_jn c < 4) : z_ti c = z_th (z_jn c) ∧ z_pre c = false := by
  unfold z_jn at h ⊢
  unfold z_ti z_th
  split at h
  · rename_i e; subst e; decide
  · split at h
    · rename_i e; subst e; decide
    · split at h
      · rename_i e; subst e; decide
      · split at h
        · rename_i e
          rcases e with rfl | rfl <;> decide
        · omega
/-- what a reading by descent that gave r says of the two stacks, begun at p upon any operators and values -/
def z_Ok (n tag L b p : Nat) (r : Option D × Nat) : Prop := ∀ (O : List (Nat × Nat)) (V : List D), (tag = 0 → z_C L O) → (match r.1 with
  | some v => p < r.2 ∧ r.2 ≤ n ∧ (tag = 0 → ∀ l, L ≤ l → l < 4 → z_jn (tok r.2) ≠ l) ∧ ∃ O1 V1, z_run A tok tb (r.2 - p) p (if tag = 2 then (40, 0) :: O else O, V, b, false) = some (O1, V1, if tag = 2 then b - 1 else b, true) ∧ ∀ t, 1 ≤ t → t ≤ (if tag = 0 then z_th L else 5) → z_se A t O1 V1 = z_se A t O (v :: V)
  | none => ∀ S, z_run A tok tb (n - p) p (if tag = 2 then (40, 0) :: O else O, V, b, false) = some S → ¬ (S.2.2.2 = true ∧ (z_se A 1 S.1 S.2.1).1 = []))
theorem z_run_split {m q p n : Nat} {S : z_S D} (h1 : p ≤ q) (h2 : q + m = n) : z_run A tok tb (n - p) p S = (z_run A tok tb (q - p) p S).bind (z_run A tok tb m q) := by
  rw [show n - p = (q - p) + m by omega, z_run_add, show p + (q - p) = q by omega]
theorem z_run_one {p q : Nat} {S : z_S D} (h : p < q) : z_run A tok tb (q - p) p S = (z_st A tok tb p S).bind (z_run A tok tb (q - (p + 1)) (p + 1)) := by
  rw [show q - p = (q - (p + 1)) + 1 by omega]
  rfl
theorem z_jn_v (c : Nat) : z_jn c = 0 ∨ z_jn c = 1 ∨ z_jn c = 2 ∨ z_jn c = 3 ∨ z_jn c = 9 := by
  unfold z_jn
  split
  · omega
  · split
    · omega
    · split
      · omega
      · split <;> omega
theorem z_jn_c {c L : Nat} (h : z_jn c = L) (hL : L < 4) : (L = 0 ∧ c = 62) ∨ (L = 1 ∧ c = 124) ∨ (L = 2 ∧ c = 38) ∨ (L = 3 ∧ (c = 85 ∨ c = 82)) := by
  unfold z_jn at h
  split at h
  · omega
  · split at h
    · omega
    · split at h
      · omega
      · split at h
        · rename_i e; right; right; right; exact ⟨h.symm, e⟩
        · omega
theorem z_ti_c {c : Nat} (h : z_ti c = 2) : c = 124 := by
  unfold z_ti at h
  split at h
  · omega
  · split at h
    · omega
    · split at h
      · omega
      · split at h
        · assumption
        · split at h <;> omega
theorem z_ti_c3 {c : Nat} (h : z_ti c = 3) : c = 38 := by
  unfold z_ti at h
  split at h
  · omega
  · split at h
    · omega
    · split at h
      · assumption
      · split at h
        · omega
        · split at h <;> omega
theorem z_ti_le (c : Nat) : z_ti c ≤ 5 := by
  unfold z_ti
  split
  · omega
  · split
    · omega
    · split
      · omega
      · split
        · omega
        · split <;> omega
theorem z_leaf0 {c : Nat} (h : z_leaf c = true) : c ≠ 0 := by
  rintro rfl
  cases h
theorem z_pre_v {c : Nat} (h : z_pre c = true) : c ≠ 0 ∧ c ≠ 40 ∧ z_leaf c = false ∧ z_ti c = 5 := by
  refine ⟨?_, ?_, ?_, by simp [z_ti, h]⟩
  · rintro rfl; cases h
  · rintro rfl; cases h
  · simp only [z_pre, Bool.or_eq_true, beq_iff_eq] at h
    rcases h with ((rfl | rfl) | rfl) | rfl <;> rfl
/-- joining what a level's operator has on both sides, upon operators that it may stand upon -/
theorem z_push (hA : z_as A) {c i L : Nat} {O : List (Nat × Nat)} {v : D} {V : List D} (hc : z_jn c = L) (hL : L < 4) (hC : z_C L O) :
    z_C L ((c, i) :: (z_se A (z_sh c) O (v :: V)).1) ∧ ∀ (u : D) t, 1 ≤ t → t ≤ z_th L → z_se A t ((c, i) :: (z_se A (z_sh c) O (v :: V)).1) (u :: (z_se A (z_sh c) O (v :: V)).2) = z_se A t O (A.2.2 c i v u :: V) := by
  obtain ⟨hti, hpre⟩ := z_jn_ti (c := c) (by omega)
  rw [hc] at hti
  have happ : ∀ (u v' : D) (V' : List D), z_app A c i (u :: v' :: V') = A.2.2 c i v' u :: V' := fun u v' V' => by simp [z_app, hpre]
  by_cases hcase : z_se A (z_sh c) O (v :: V) = (O, v :: V)
  · rw [hcase]
    refine ⟨Or.inr ⟨hti, fun h12 => ?_⟩, fun u t h1 h2 => ?_⟩
    · match O, hC, hcase with
      | [], _, _ => trivial
      | (c', i') :: O', hC, hcase =>
        rcases hC with hC | hC
        · exact hC
        · exfalso
          have hsh : z_sh c = z_th L := by
            rcases z_jn_c hc hL with ⟨rfl, rfl⟩ | ⟨rfl, rfl⟩ | ⟨rfl, rfl⟩ | ⟨rfl, _⟩
            · omega
            · rfl
            · rfl
            · omega
          rw [z_se_ge A (by omega)] at hcase
          have hlen : (z_se A (z_sh c) O' (z_app A c' i' (v :: V))).1.length ≤ O'.length := by
            generalize z_app A c' i' (v :: V) = W
            clear hcase hC
            induction O' generalizing W with
            | nil => simp [z_se]
            | cons a O'' ih =>
              obtain ⟨a1, a2⟩ := a
              by_cases hz : z_sh c ≤ z_ti a1
              · rw [z_se_ge A hz]
                exact Nat.le_trans (ih _) (Nat.le_succ _)
              · rw [z_se_lt A (by omega)]
                exact Nat.le_refl _
          rw [hcase] at hlen
          simp only [List.length_cons] at hlen
          omega
    · rw [z_se_ge A (by omega), happ]
  · match O, hC, hcase with
    | [], _, hcase => exact absurd rfl hcase
    | (c', i') :: O', hC, hcase =>
      have hge : z_sh c ≤ z_ti c' := by
        refine Nat.le_of_not_lt fun hlt => hcase ?_
        rw [z_se_lt A hlt]
      have hL12 : L = 1 ∨ L = 2 := by
        rcases z_jn_c hc hL with ⟨rfl, rfl⟩ | ⟨rfl, rfl⟩ | ⟨rfl, rfl⟩ | ⟨rfl, h⟩
        · exfalso
          have h2 : z_sh 62 = 2 := rfl
          rcases hC with hC | hC
          · unfold z_th at hC; omega
          · have := hC.1; unfold z_th at this; omega
        · exact Or.inl rfl
        · exact Or.inr rfl
        · exfalso
          have h2 : z_sh c = 5 := by rcases h with rfl | rfl <;> rfl
          rcases hC with hC | hC
          · unfold z_th at hC; omega
          · have := hC.1; unfold z_th at this; omega
      have hsh : z_sh c = z_th L := by
        rcases z_jn_c hc hL with ⟨rfl, rfl⟩ | ⟨rfl, rfl⟩ | ⟨rfl, rfl⟩ | ⟨rfl, _⟩
        · omega
        · rfl
        · rfl
        · omega
      have hC2 : z_ti c' = z_th L ∧ z_hd L O' := by
        rcases hC with hC | hC
        · exact absurd hC (by omega)
        · exact ⟨hC.1, hC.2 hL12⟩
      have hcc : c' = c := by
        rcases hL12 with rfl | rfl
        · rcases z_jn_c hc hL with ⟨h, _⟩ | ⟨_, rfl⟩ | ⟨h, _⟩ | ⟨h, _⟩
          · omega
          · exact z_ti_c hC2.1
          · omega
          · omega
        · rcases z_jn_c hc hL with ⟨h, _⟩ | ⟨h, _⟩ | ⟨_, rfl⟩ | ⟨h, _⟩
          · omega
          · omega
          · exact z_ti_c3 hC2.1
          · omega
      subst hcc
      have h38 : c' = 38 ∨ c' = 124 := by
        rcases z_jn_c hc hL with ⟨h, _⟩ | ⟨_, rfl⟩ | ⟨_, rfl⟩ | ⟨h, _⟩
        · omega
        · exact Or.inr rfl
        · exact Or.inl rfl
        · omega
      have hstop : ∀ W : List D, z_se A (z_sh c') O' W = (O', W) := by
        intro W
        have h2 := hC2.2
        cases O' with
        | nil => rfl
        | cons a O'' =>
          obtain ⟨c'', i''⟩ := a
          have h2 : z_ti c'' < z_th L := h2
          exact z_se_lt A (by omega)
      rw [z_se_ge A hge, hstop]
      refine ⟨Or.inr ⟨hti, fun _ => hC2.2⟩, fun u t h1 h2 => ?_⟩
      rw [z_se_ge A (by omega), z_se_ge A (show t ≤ z_ti c' by omega)]
      congr 1
      match V with
      | [] => simp [z_app, hpre]
      | a :: V' =>
        simp only [z_app, hpre]
        simp only [Bool.false_eq_true, if_false]
        rw [hA c' h38]
end ZP
