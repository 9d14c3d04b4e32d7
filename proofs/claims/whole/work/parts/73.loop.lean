/-! THE REFERENCE'S READING IS z_run. -/
theorem z_leafc0 : ∀ c, c < 127 → f_Mo_leafOf q_x0 (zi c) = some (if z_leaf c then zi (z_kd c) else -1) := by decide +kernel
theorem z_prec0 : ∀ c, c < 127 → f_Mo_prefixOf q_x0 (zi c) = some (if z_pre c then zi (z_kd c) else -1) := by decide +kernel
theorem z_signc0 : ∀ c, c < 127 → f_Mo_signOf q_x0 (zi c) = some (if z_jn c < 4 then zi (z_kd c) else -1) := by decide +kernel
theorem z_leafc {x : q_W} {c : Nat} (h : c < 127) : f_Mo_leafOf x (zi c) = some (if z_leaf c then zi (z_kd c) else -1) := z_leafc0 c h
theorem z_prec {x : q_W} {c : Nat} (h : c < 127) : f_Mo_prefixOf x (zi c) = some (if z_pre c then zi (z_kd c) else -1) := z_prec0 c h
theorem z_signc {x : q_W} {c : Nat} (h : c < 127) : f_Mo_signOf x (zi c) = some (if z_jn c < 4 then zi (z_kd c) else -1) := z_signc0 c h
def z_E30 : q_W → Int32 → Int32 → Option (Int32 × q_W) := fun x5 u6 u7 => f_Mo_reads_J296 x5 u6 u7
theorem z_bad {k : Nat} {x : q_W} {a b c d : Int32} : f_Mo_reads_L30 z_E30 (k + 1) x a b c 0 d = some (0, x) := by
  have h : z_E30 x c 0 = some (0, x) := rfl
  simp only [f_Mo_reads_L30, h, if_true]
  split <;> rfl
theorem z_nbn_le (O : List (Nat × Nat)) : z_nbn O ≤ O.length := by
  induction O with
  | nil => exact Nat.le_refl _
  | cons a O ih =>
    obtain ⟨c, i⟩ := a
    simp only [z_nbn, List.length_cons]
    split <;> omega
section ZM
variable {D : Type} {A : z_A D} {n : Nat} {ch : Nat → Nat}
theorem z_se_stop {t : Nat} {O O' : List (Nat × Nat)} {V V' : List D} {c i : Nat} (h : z_se A t O V = ((c, i) :: O', V')) : z_ti c < t := by
  induction O generalizing V with
  | nil => cases h
  | cons a O ih =>
    obtain ⟨c', i'⟩ := a
    by_cases hc : t ≤ z_ti c'
    · rw [z_se_ge A hc] at h
      exact ih h
    · rw [z_se_lt A (by omega)] at h
      cases h
      omega
theorem z_Mo_pop {x y : q_W} {v : Nat → z_LD D} {m tt c i : Nat} {O : List (Nat × Nat)} {V : List (z_LD D)} (hM : z_Mo A x v m tt ((c, i) :: O) V) (hy : y = q_wr x 32 22 (zi O.length)) : z_Mo A y v m tt O V := by
  obtain ⟨⟨g13, g18, g20, g22⟩, hOp, hV, hnd, hun, hlg, htop⟩ := hM
  have h1 : ∀ q, q ≠ 32 → y.2 q = x.2 q := fun q hq => by rw [hy, z_wrp hq]
  have h2 : ∀ j, j ≠ 22 → y.2 32 j = x.2 32 j := fun j hj => by rw [hy, z_wr2 (Or.inr hj)]
  have s4 : ∀ j, y.2 40 j = x.2 40 j ∧ y.2 (40 + 1) j = x.2 (40 + 1) j ∧ y.2 (40 + 2) j = x.2 (40 + 2) j ∧ y.2 (40 + 3) j = x.2 (40 + 3) j := fun j => ⟨by rw [h1 _ (by omega)], by rw [h1 _ (by omega)], by rw [h1 _ (by omega)], by rw [h1 _ (by omega)]⟩
  obtain ⟨u1, u2, u3⟩ := hun
  have hsub : ∀ q, z_On O q → z_On ((c, i) :: O) q := fun q ⟨c', a, b⟩ => ⟨c', List.mem_cons_of_mem _ a, b⟩
  refine ⟨⟨(h2 13 (by omega)).trans g13, (h2 18 (by omega)).trans g18, (h2 20 (by omega)).trans g20, by rw [hy, z_wr1]⟩, z_Op_same hOp.2 (fun j _ => by rw [h1 45 (by omega)]), z_Vl_same hV (fun j _ => by rw [h1 44 (by omega)]) (Nat.le_refl _) (fun _ _ => rfl), fun j hj => z_nm_same (hnd j hj) (s4 j) (fun _ _ => rfl), ⟨?_, fun q hq => u2 q (hsub q hq), (List.pairwise_cons.mp u3).2⟩, fun j hj q e he => z_te_same (hlg j hj q e he) (Nat.le_refl _) (fun j _ => s4 j) (fun _ _ => rfl), fun d0 V0 h0 => by rw [h1 44 (by omega)]; exact htop d0 V0 h0⟩
  intro j hj nu n1 n2 n3
  rw [(s4 j).2.2.2] at n1
  rw [(s4 j).1] at n3
  obtain ⟨w1, w2, w3⟩ := u1 j hj nu n1 n2 n3
  refine ⟨w1, fun h => w2 (hsub nu h), fun j' hj' m1 m2 => ?_⟩
  rw [(s4 j').2.2.2] at m1
  rw [(s4 j').1] at m2
  exact w3 j' hj' m1 m2
/-- what stands when p characters are read, and all was good -/
def z_Lo (A : z_A D) (n : Nat) (ch : Nat → Nat) (x : q_W) (v : Nat → z_LD D) (m p b : Nat) (O : List (Nat × Nat)) (V : List (z_LD D)) (bh : Bool) : Prop := z_Mo A x v m (z_tb (z_tk n ch) p) O V ∧ V.length = z_nbn O + (if bh then 1 else 0) ∧ m + O.length ≤ p ∧ m + z_nbr O = z_nc (z_tk n ch) p ∧ b + z_nbr O = O.length ∧ b ≤ 4 ∧ ∀ i, i < n → x.2 33 i = zi (ch i) ∧ 33 ≤ ch i ∧ ch i ≤ 126
def z_Po (A : z_A D) (n : Nat) (ch : Nat → Nat) (p : Nat) (S0 : z_S (z_LD D)) (x : q_W) (r : Int32 × q_W) : Prop := z_Fm x r.2 ∧ ((r.1 = 1 ∧ ∃ S v' m', z_run (z_lg A) (z_tk n ch) (z_tb (z_tk n ch)) (n - p) p S0 = some S ∧ S.2.2.2 = true ∧ (z_se (z_lg A) 1 S.1 S.2.1).1 = [] ∧ z_tb (z_tk n ch) n < 6 ∧ z_Mo A r.2 v' m' (z_tb (z_tk n ch) n) [] (z_se (z_lg A) 1 S.1 S.2.1).2 ∧ m' = z_nc (z_tk n ch) n) ∨ (r.1 = 0 ∧ ∀ S, z_run (z_lg A) (z_tk n ch) (z_tb (z_tk n ch)) (n - p) p S0 = some S → ¬ (S.2.2.2 = true ∧ (z_se (z_lg A) 1 S.1 S.2.1).1 = [] ∧ z_tb (z_tk n ch) n < 6)))
theorem z_Po_step {p : Nat} {S0 S1 : z_S (z_LD D)} {x y : q_W} {o : Option (Int32 × q_W)} (hp : p < n) (hst : z_st (z_lg A) (z_tk n ch) (z_tb (z_tk n ch)) p S0 = some S1) (hf : z_Fm x y) (h : z_ok o (z_Po A n ch (p + 1) S1 y)) : z_ok o (z_Po A n ch p S0 x) := by
  refine z_ok.mono h (fun r hr => ?_)
  obtain ⟨h1, h2⟩ := hr
  have e : z_run (z_lg A) (z_tk n ch) (z_tb (z_tk n ch)) (n - p) p S0 = z_run (z_lg A) (z_tk n ch) (z_tb (z_tk n ch)) (n - (p + 1)) (p + 1) S1 := by
    rw [z_run_one _ _ _ hp, hst]
    rfl
  refine ⟨z_Fm_tr hf h1, ?_⟩
  rw [e]
  exact h2
theorem z_Po_bad {k p : Nat} {S0 : z_S (z_LD D)} {x y : q_W} {a b c d : Int32} (hp : p < n) (hst : z_st (z_lg A) (z_tk n ch) (z_tb (z_tk n ch)) p S0 = none) (hf : z_Fm x y) : z_ok (f_Mo_reads_L30 z_E30 (k + 1) y a b c 0 d) (z_Po A n ch p S0 x) := by
  rw [z_bad]
  refine z_ok.some ⟨hf, Or.inr ⟨rfl, fun S hS => ?_⟩⟩
  rw [z_run_one _ _ _ hp, hst] at hS
  cases hS
end ZM
