/-! THE CLASS'S READING BY DESCENT IS z_pd, over the algebra with its log. -/
def z_Fr (f : Nat) (x y : q_W) : Prop := y.1 = x.1 ∧ (∀ q, q ≠ 1 → (q < f ∨ f + 5 < q) → y.2 q = x.2 q) ∧ (∀ k, k ≠ 2 → y.2 1 k = x.2 1 k)
theorem z_Fr_rf {f : Nat} {x : q_W} : z_Fr f x x := ⟨rfl, fun _ _ _ => rfl, fun _ _ => rfl⟩
theorem z_Fr_tr {f : Nat} {x y z : q_W} (h : z_Fr f x y) (g : z_Fr f y z) : z_Fr f x z := ⟨g.1.trans h.1, fun q a b => (g.2.1 q a b).trans (h.2.1 q a b), fun k a => (g.2.2 k a).trans (h.2.2 k a)⟩
theorem z_Fr_at {f : Nat} {x : q_W} {w : Int32} : z_Fr f x (q_wr x 1 2 w) := ⟨rfl, fun q a _ => z_wrp a, fun k a => z_wr2 (Or.inr a)⟩
theorem z_Fr_ln {n f : Nat} {ch : Nat → Nat} {x y : q_W} (h : z_Fr f x y) (hf : 3 ≤ f) (hx : z_Ln n ch x) : z_Ln n ch y := by
  obtain ⟨h1, h2, h3⟩ := hx
  refine ⟨h1, (h.2.2 1 (by omega)).trans h2, ?_⟩
  rw [h.2.1 2 (by omega) (by omega)]
  exact h3
theorem z_Ad_fr {f s t c a b nu : Nat} {x y : q_W} (h : z_Ad f s t c a b nu x y) (hf : 3 ≤ f) : z_Fr f x y := ⟨h.1, fun q _ b => h.2.1 q b, fun k _ => by rw [h.2.1 1 (by omega)]⟩
section ZR
variable {D : Type} (A : z_A D) (n : Nat) (ch : Nat → Nat) (f : Nat)
def z_Rd (k tag L b p s t : Nat) (v : Nat → z_LD D) (x : q_W) (r : Int32 × q_W) : Prop :=
  z_Fr f x r.2 ∧ ∃ p', r.2.2 1 2 = zi p' ∧ p' ≤ n + 1 ∧ ((r.1 = -1 ∧ z_pd (z_lg A) (z_tk n ch) (z_tb (z_tk n ch)) k tag L b p = some (none, p')) ∨
    ∃ root s' t' v', r.1 = zi root ∧ z_pd (z_lg A) (z_tk n ch) (z_tb (z_tk n ch)) k tag L b p = some (some (v' root), p') ∧ z_Su A (z_tk n ch) n f p s t v x p' s' t' v' r.2 root)
def z_me (tag L b p : Nat) : Nat := (n + 1 - p) + 8 * (4 - b) + (if tag = 0 then 5 - L else if tag = 1 then 0 else 6)
variable {A n ch f}
theorem z_lf_T {c : Nat} (h : z_leaf c = true) : z_T c = false ∧ c < 200 ∧ c ≠ 40 ∧ c ≠ 41 ∧ c ≠ 0 := by
  simp only [z_leaf, Bool.or_eq_true, beq_iff_eq] at h
  rcases h with (((rfl | rfl) | rfl) | rfl) | rfl <;> decide
theorem z_pr_T {c : Nat} (h : z_pre c = true) : c < 200 ∧ c ≠ 40 ∧ c ≠ 41 ∧ c ≠ 0 := by
  simp only [z_pre, Bool.or_eq_true, beq_iff_eq] at h
  rcases h with ((rfl | rfl) | rfl) | rfl <;> decide
theorem z_jn_T {c : Nat} (h : z_jn c < 4) : c < 200 ∧ c ≠ 40 ∧ c ≠ 41 ∧ c ≠ 0 := by
  rcases z_jn_c rfl h with ⟨-, rfl⟩ | ⟨-, rfl⟩ | ⟨-, rfl⟩ | ⟨-, rfl | rfl⟩ <;> decide
theorem z_tk_lt {p : Nat} (h : z_tk n ch p ≠ 0) : p < n := by
  unfold z_tk at h
  split at h
  · assumption
  · exact absurd rfl h
/-- a leaf -/
theorem z_Rd_leaf {p s t b k : Nat} {v : Nat → z_LD D} {x : q_W} (hf : 3 ≤ f) (hL : z_Ln n ch x) (hat : x.2 1 2 = zi p) (hs : x.2 f 7 = zi s) (ht : x.2 f 8 = zi t) (hsp : s ≤ p) (hnd : ∀ i, i < s → z_nd (z_lg A) f v x i) (hle : z_leaf (z_tk n ch p) = true) : z_ok ((f_Fo_add f (q_wr x 1 2 (zi (p + 1))) (zi (z_tk n ch p)) 0 0 (zi (z_tb (z_tk n ch) p))).bind fun q => some (q.1, q.2)) (z_Rd A n ch f (k + 1) 1 0 b p s t v x) := by
  obtain ⟨g1, g2, g3, g4, g5⟩ := z_lf_T hle
  have hpn := z_tk_lt g5
  have hn18 := hL.1
  have htb := z_tb_le (z_tk n ch) p
  have e1 : (q_wr x 1 2 (zi (p + 1))).2 f 7 = zi s := (z_wr2 (Or.inl (by omega))).trans hs
  have e2 : (q_wr x 1 2 (zi (p + 1))).2 f 8 = zi t := (z_wr2 (Or.inl (by omega))).trans ht
  obtain ⟨y, hy, had⟩ := z_add (a := 0) (b := 0) (nu := z_tb (z_tk n ch) p) e1 e2 (by omega) g2 (by omega) (fun h => by rw [g1] at h; cases h)
  refine z_ok.to hy (z_ok.some ⟨z_Fr_tr z_Fr_at (z_Ad_fr had hf), p + 1, ?_, by omega, Or.inr ⟨s, s + 1, t + (if z_T (z_tk n ch p) then 1 else 0), _, rfl, ?_, z_Su_add (v1 := v) (d := (z_lg A).1 (z_tk n ch p)) (y := q_wr x 1 2 (zi (p + 1))) (by omega) (by omega) (Nat.le_refl _) ?_ ?_ (fun _ _ => rfl) (fun i _ => ?_) (fun i hi => ?_) (by omega) g2 (Or.inl ⟨hle, rfl, rfl, rfl⟩) (fun i _ => ?_) (fun h => ?_) (fun i i1 i2 => ?_) (fun i _ => rfl) had⟩⟩)
  · show y.2 1 2 = _
    rw [had.2.1 1 (by omega), z_wr1]
  · simp only [z_pd, hle, if_true]
  · simp only [z_nc, g3, g4, or_self, if_false]; omega
  · simp only [z_tb, g1]; omega
  · refine ⟨?_, ?_, ?_, ?_⟩ <;> rw [z_wrp (by omega)]
  · refine z_nd_same (hnd i hi) ⟨?_, ?_, ?_, ?_⟩ (fun _ _ => rfl) <;> rw [z_wrp (by omega)]
  · rw [z_wrp (by omega)]
  · rw [g1] at h; cases h
  · simp only [z_tb, g1] at i2
    simp at i2
    omega
/-- a prefix and what stands behind it -/
theorem z_Rd_pre {p s t b k p' s1 t1 u : Nat} {v v1 : Nat → z_LD D} {x y : q_W} (hf : 3 ≤ f) (hL : z_Ln n ch x) (h5 : z_tb (z_tk n ch) n ≤ 5) (hsp : s ≤ p) (hpr : z_pre (z_tk n ch p) = true) (hle : ¬ z_leaf (z_tk n ch p) = true) (hfr : z_Fr f (q_wr x 1 2 (zi (p + 1))) y) (hat : y.2 1 2 = zi p') (hpd : z_pd (z_lg A) (z_tk n ch) (z_tb (z_tk n ch)) k 1 0 b (p + 1) = some (some (v1 u), p')) (hsu : z_Su A (z_tk n ch) n f (p + 1) s t v (q_wr x 1 2 (zi (p + 1))) p' s1 t1 v1 y u) : z_ok ((f_Fo_add f y (zi (z_tk n ch p)) (zi u) (zi u) (zi (z_tb (z_tk n ch) p))).bind fun q => some (q.1, q.2)) (z_Rd A n ch f (k + 1) 1 0 b p s t v x) := by
  obtain ⟨g2, g3, g4, g5⟩ := z_pr_T hpr
  have hpn := z_tk_lt g5
  have hn18 := hL.1
  have htb := z_tb_le (z_tk n ch) p
  obtain ⟨⟨a1, a2, a3, a4, a5, a6⟩, ⟨b1, b2⟩, c1, c2, c3, c4, c5, c6⟩ := id hsu
  have hnc : z_nc (z_tk n ch) (p + 1) = z_nc (z_tk n ch) p + 1 := by simp only [z_nc, g3, g4, or_self, if_false]
  have hnp : z_nc (z_tk n ch) p' ≤ z_nc (z_tk n ch) (p + 1) + (p' - (p + 1)) := by
    obtain ⟨m, rfl⟩ := Nat.le.dest (show p + 1 ≤ p' by omega)
    clear hpd hsu a1 a2 a3 a4 a5 a6 b1 b2 c1 c2 c3 c4 c5 c6 hat
    induction m with
    | zero => simp
    | succ m ih =>
      rw [← Nat.add_assoc]
      simp only [z_nc] at ih ⊢
      split <;> omega
  have htl : z_T (z_tk n ch p) = true → z_tb (z_tk n ch) p < 5 := fun h => by
    have e : z_tb (z_tk n ch) (p + 1) = z_tb (z_tk n ch) p + 1 := by simp [z_tb, h]
    have := z_tb_mono (tok := z_tk n ch) (show p + 1 ≤ n by omega)
    omega
  obtain ⟨z, hz, had⟩ := z_add (a := u) (b := u) (nu := z_tb (z_tk n ch) p) b1 b2 (by omega) g2 (by omega) htl
  have hmm := z_tb_mono (tok := z_tk n ch) (show p + 1 ≤ p' by omega)
  have hx4 : ∀ q, 3 ≤ q → (q_wr x 1 2 (zi (p + 1))).2 q = x.2 q := fun q hq => z_wrp (by omega)
  refine z_ok.to hz (z_ok.some ⟨z_Fr_tr z_Fr_at (z_Fr_tr hfr (z_Ad_fr had hf)), p', ?_, by omega, Or.inr ⟨s1, s1 + 1, t1 + (if z_T (z_tk n ch p) then 1 else 0), _, rfl, ?_, z_Su_add (v1 := v1) (d := (z_lg A).2.1 (z_tk n ch p) (z_tb (z_tk n ch) p) (v1 u)) (y := y) (by omega) a2 a4 (by omega) ?_ c1 (fun i hi => ?_) c3 (by omega) g2 (Or.inr (Or.inl ⟨hpr, rfl, by omega, rfl⟩)) (fun i hi => ?_) (fun h => ?_) (fun i i1 i2 i3 => ?_) (fun i hi => ?_) had⟩⟩)
  · show z.2 1 2 = _
    rw [had.2.1 1 (by omega), hat]
  · simp only [z_pd, hle, hpr, if_true, hpd]
    simp
  · simp only [z_tb] at a6 hmm ⊢; omega
  · have := c2 i hi
    unfold z_s4 at this ⊢
    rw [hx4 _ (by omega), hx4 _ (by omega), hx4 _ (by omega), hx4 _ (by omega)] at this
    exact this
  · rw [c4 i (fun h => hi ?_), hx4 _ (by omega)]
    simp only [z_tb] at h
    omega
  · have e : z_tb (z_tk n ch) (p + 1) = z_tb (z_tk n ch) p + 1 := by simp [z_tb, h]
    refine ⟨Nat.le_refl _, by omega, ?_, by omega, by omega⟩
    simp [z_lg, h]
  · have hi1 : z_tb (z_tk n ch) (p + 1) ≤ i := by
      simp only [z_tb]
      split
      · rename_i h
        have : i ≠ z_tb (z_tk n ch) p := fun e => i3 ⟨h, e⟩
        omega
      · omega
    obtain ⟨e, e1, e2⟩ := c5 i hi1 i2
    refine ⟨e, ?_, e2⟩
    simp only [z_lg, if_neg i3]
    exact e1
  · have hi3 : ¬ (z_T (z_tk n ch p) = true ∧ i = z_tb (z_tk n ch) p) := fun h => by
      have e : z_tb (z_tk n ch) (p + 1) = z_tb (z_tk n ch) p + 1 := by simp [z_tb, h.1]
      exact hi ⟨by omega, by omega⟩
    simp only [z_lg, if_neg hi3]
    refine c6 i (fun h => hi ?_)
    simp only [z_tb] at h
    omega
end ZR
