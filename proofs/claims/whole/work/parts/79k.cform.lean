/-! THE CALL formula(). -/
def z_CaF (L : Option (Int32 × (Nat × Nat × q_W))) (M : q_W → Option (Int32 × q_W)) : Prop := ∃ a c d y b z, L = some (a, (c, d, y)) ∧ M y = some (b, z) ∧ z.2 32 0 = a ∧ (a = 0 → z.1 = b.toInt64) ∧ z_Rel c d z
section ZF
variable {c d : Nat} {x : q_W}
theorem q_cd_sw' {c d : Nat} (h : q_cd c d) : q_cd d c := by
  rcases h with ⟨rfl, rfl⟩ | ⟨rfl, rfl⟩
  · exact Or.inr ⟨rfl, rfl⟩
  · exact Or.inl ⟨rfl, rfl⟩
theorem z_c_formula (h : z_Rel c d x) : z_CaF (f_Lw_formula c d x) f_Mo_formula := by
  obtain ⟨hcd, hL, hF, hW⟩ := h
  have hc : c = 16 ∨ c = 24 := by rcases hcd with h | h <;> omega
  have hd : d = 16 ∨ d = 24 := by rcases hcd with h | h <;> omega
  have hne : c ≠ d := by rcases hcd with h | h <;> omega
  obtain ⟨n, ch, ⟨n18, n1, n2⟩, hch⟩ := hL
  have hLn : z_Ln n ch x := ⟨n18, n1, fun i hi => ⟨(hch i hi).1, (hch i hi).2.2⟩⟩
  obtain ⟨r, hr, hIn0⟩ := z_into (A := z_U0) (f := d) (x := x) (by omega) hLn
  have hIn : ∀ (D : Type) (A : z_A D), z_In A n ch d x r := fun D A => by
    obtain ⟨r', hr', h'⟩ := z_into (A := A) (f := d) (x := x) (by omega) hLn
    rw [hr] at hr'
    rw [Option.some.inj hr']
    exact h'
  obtain ⟨f0, f1, f2⟩ := hIn0.1
  -- the class
  generalize hx2 : q_wr r.2 1 1 0 = x2
  have x2q : ∀ q, q ≠ 1 → (q < d ∨ d + 6 < q) → x2.2 q = x.2 q := fun q a b => by rw [← hx2, z_wrp a]; exact f1 q a b
  have x2r : ∀ q, q ≠ 1 → x2.2 q = r.2.2 q := fun q a => by rw [← hx2, z_wrp a]
  have x211 : x2.2 1 1 = 0 := by rw [← hx2, z_wr1]
  have hrd : f_D_formula c d x = (if ¬ r.1 = 0 then some (.inl ((q_wr (q_wr x2 0 6 1) 0 7 0).2 d 7), (d, c, q_wr (q_wr x2 0 6 1) 0 7 0)) else some (.inr 0, (c, d, x2))) := by
    unfold f_D_formula
    rw [hr]
    simp only [Option.bind_some]
    unfold f_Li_clear f_Fo_size
    simp only [Option.bind_some, q_let]
    rw [hx2]
  -- the reference's reading, of any world that keeps the line
  have hMo : ∀ y : q_W, (∀ q, 32 ≤ q → y.2 q = x.2 q) → ∃ q3, f_Mo_reads (q_wr y 32 2 0) (zi n) = some q3 ∧ f_Mo_formula y = (if q3.1 = 0 then f_Mo_formula_J24 q3.2 1 else f_Mo_formula_J24 q3.2 0) ∧ ∀ (D : Type) (A : z_A D), z_as A → z_Rm A n ch (q_wr y 32 2 0) q3 := by
    intro y hy
    have hLm : z_Lm n ch (q_wr y 32 2 0) := fun i hi => by
      rw [z_wrp (by omega), hy 33 (by omega)]
      exact (hch i hi).2
    obtain ⟨q3, e1, -⟩ := z_modr (A := z_U0) z_U0_as n18 hLm
    refine ⟨q3, e1, ?_, fun D A hA => ?_⟩
    · unfold f_Mo_formula
      simp only [q_let]
      rw [hy 32 (by omega), n2, e1]
      rfl
    · obtain ⟨q3', e2, h2⟩ := z_modr (A := A) hA n18 hLm
      rw [e1] at e2
      rw [Option.some.inj e2]
      exact h2
  rcases hIn0.2 with ⟨r1, v0, acc0, -⟩ | ⟨r1, nacc⟩
  · -- both take it
    generalize hs : z_nc (z_tk n ch) n = s at acc0
    generalize htt : z_tb (z_tk n ch) n = t
    have ht5 : t ≤ 5 := by rw [← htt]; exact acc0.1
    have hIn1 : ∀ (D : Type) (A : z_A D), ∃ v, z_Acc A n ch (v (s - 1)) ∧ z_CA A d s t v r.2 ∧ r.2.2 d 9 = zi (z_pl (z_g d r.2) t).length ∧ ∀ k, k < (z_pl (z_g d r.2) t).length → r.2.2 (d + 6) k = r.2.2 (d + 5) ((z_pl (z_g d r.2) t).getD k 0) := fun D A => by
      rcases (hIn D A).2 with ⟨-, v, a1, a2, a3, a4⟩ | ⟨r0, -⟩
      · rw [hs] at a1 a2
        rw [htt] at a2 a3 a4
        exact ⟨v, a1, a2, a3, a4⟩
      · rw [r1] at r0
        exact absurd r0 z_10
    obtain ⟨vU, aU, cU, pU, qU⟩ := hIn1 Unit z_U0
    have hs1 := cU.1
    have hs18 := cU.2.1
    rw [if_pos (by rw [r1]; exact z_10)] at hrd
    generalize hx4 : q_wr (q_wr x2 0 6 1) 0 7 0 = x4 at hrd
    have x4q : ∀ q, q ≠ 0 → x4.2 q = x2.2 q := fun q hq => by rw [← hx4, z_wrp hq, z_wrp hq]
    have x4r : ∀ q, q ≠ 0 → q ≠ 1 → x4.2 q = r.2.2 q := fun q a b => (x4q q a).trans (x2r q b)
    have x406 : x4.2 0 6 = 1 := by rw [← hx4, z_wr2 (Or.inr (by omega)), z_wr1]
    have x407 : x4.2 0 7 = 0 := by rw [← hx4, z_wr1]
    have e7 : x4.2 d 7 = zi s := by rw [x4r d (by omega) (by omega)]; exact cU.2.2.1
    rw [e7] at hrd
    obtain ⟨q3, e1, e2, e3⟩ := hMo ((zi s).toInt64, x4.2) (fun q hq => by show x4.2 q = _; rw [x4q q (by omega), x2q q (by omega) (by omega)])
    have hq31 : q3.1 = 1 := by
      rcases (e3 Unit z_U0 z_U0_as).2 with ⟨g, -⟩ | ⟨-, g⟩
      · exact g
      · exact absurd acc0 (g _)
    rw [hq31, if_neg z_10] at e2
    have hFm := (e3 Unit z_U0 z_U0_as).1
    have w0q : ∀ q, q < 32 ∨ (32 < q ∧ q < 40) ∨ 45 < q → q3.2.2 q = x4.2 q := fun q hq => (hFm.2.1 q hq).trans (by rw [z_wrp (by omega)])
    have w0k : ∀ k, k ≠ 2 → k ≠ 13 → k ≠ 18 → k ≠ 20 → k ≠ 22 → q3.2.2 32 k = x.2 32 k := fun k a b c d' e => (hFm.2.2 k b c d' e).trans (by
      rw [z_wr2 (Or.inr a)]
      show x4.2 32 k = _
      rw [x4q 32 (by omega), x2q 32 (by omega) (by omega)])
    have hRm : ∀ (D : Type) (A : z_A D), z_as A → ∃ v, z_Acc A n ch (v (s - 1)) ∧ q3.2.2 32 13 = zi s ∧ q3.2.2 32 18 = zi t ∧ z_RA A 40 s t v q3.2 := fun D A hA => by
      rcases (e3 D A hA).2 with ⟨-, v, a1, a2, a3, a4⟩ | ⟨g, -⟩
      · rw [hs] at a1 a2 a4
        rw [htt] at a3 a4
        exact ⟨v, a1, a2, a3, a4⟩
      · rw [hq31] at g
        exact absurd g z_10
    obtain ⟨vR, -, h13, h18, -⟩ := hRm Unit z_U0 z_U0_as
    have dq : ∀ q, d ≤ q → q ≤ d + 6 → q3.2.2 q = r.2.2 q := fun q a b => (w0q q (by omega)).trans (x4r q (by omega) (by omega))
    have hgg : z_g d q3.2 = z_g d r.2 := by funext i; simp only [z_g]; rw [dq (d + 1) (by omega) (by omega), dq (d + 5) (by omega) (by omega)]
    obtain ⟨o, o1, o2, o3, o4, o5, o6, o7, pr, W, kp, op, wh, S, F, oM⟩ := z_modAll (n := n) (ch := ch) hd hs1 hs18 ht5 (fun D A => by
      obtain ⟨v, a1, a2, -⟩ := hIn1 D A
      exact ⟨v, a1, z_CA_same a2 (by rw [dq d (by omega) (by omega)]; exact ⟨rfl, rfl⟩) (fun q q1 q2 => dq q (by omega) (by omega))⟩) (fun D A hA => by
      obtain ⟨v, a1, -, -, a4⟩ := hRm D A hA
      exact ⟨v, a1, a4⟩) h13 h18 (by rw [hgg, dq d (by omega) (by omega)]; exact pU) (fun k hk => by
      rw [hgg] at hk ⊢
      rw [dq (d + 6) (by omega) (by omega), dq (d + 5) (by omega) (by omega)]
      exact qU k hk)
    have oq : ∀ q, q < 32 ∨ 56 < q ∨ q = 33 → o.2.2 q = x4.2 q := fun q hq => (o4 q hq).trans (w0q q (by omega))
    refine ⟨0, d, c, ((zi s).toInt64, x4.2), zi s, o.2, ?_, ?_, o6, fun _ => ?_, q_cd_sw' hcd, ⟨0, fun _ => 0, ⟨by omega, ?_, ?_⟩, fun i hi => by omega⟩, Or.inr ⟨?_, o7, s, t, pr, W, kp, op, wh, S, F, oM, Or.inl ?_⟩, ?_⟩
    · unfold f_Lw_formula
      rw [hrd]
      rfl
    · rw [e2, o1]
      congr 1
      rw [← o2]
    · rw [o3, hFm.1]
      rfl
    · rw [oq 1 (by omega), x4q 1 (by omega)]; exact x211
    · rw [o5 2 (by omega), hFm.2.2 2 (by omega) (by omega) (by omega) (by omega), z_wr1]; rfl
    · rw [oq 0 (by omega)]; exact x406
    · rw [oq 0 (by omega)]; exact x407
    · refine z_RW_same hW ?_ ?_ ?_ ⟨?_, ?_⟩
      · rw [oq 14 (by omega), x4q 14 (by omega), x2q 14 (by omega) (by omega)]; exact ⟨rfl, rfl⟩
      · rw [oq 15 (by omega), x4q 15 (by omega), x2q 15 (by omega) (by omega)]
      · rw [oq 57 (by omega), x4q 57 (by omega), x2q 57 (by omega) (by omega)]
      · rw [o5 36 (by omega)]; exact w0k 36 (by omega) (by omega) (by omega) (by omega) (by omega)
      · rw [o5 37 (by omega)]; exact w0k 37 (by omega) (by omega) (by omega) (by omega) (by omega)
  · -- neither takes it
    rw [if_neg (fun hh => hh r1)] at hrd
    obtain ⟨q3, e1, e2, e3⟩ := hMo x2 (fun q hq => x2q q (by omega) (by omega))
    have hq31 : q3.1 = 0 := by
      rcases (e3 Unit z_U0 z_U0_as).2 with ⟨-, v, g, -⟩ | ⟨g, -⟩
      · exact absurd g (nacc _)
      · exact g
    rw [if_pos hq31] at e2
    have hFm := (e3 Unit z_U0 z_U0_as).1
    have w0q : ∀ q, q ≠ 1 → (q < d ∨ d + 6 < q) → q < 32 ∨ (32 < q ∧ q < 40) ∨ 45 < q → q3.2.2 q = x.2 q := fun q a b hq => (hFm.2.1 q hq).trans (by rw [z_wrp (by omega), x2q q a b])
    have w0k : ∀ k, k ≠ 2 → k ≠ 13 → k ≠ 18 → k ≠ 20 → k ≠ 22 → q3.2.2 32 k = x.2 32 k := fun k a b c d' e => (hFm.2.2 k b c d' e).trans (by rw [z_wr2 (Or.inr a), x2q 32 (by omega) (by omega)])
    have eJ : f_Mo_formula_J24 q3.2 1 = some (0, q_wr q3.2 32 0 1) := by
      unfold f_Mo_formula_J24
      simp only [q_let]
      rw [z_wr1, if_neg (by decide)]
    rw [eJ] at e2
    generalize hz : q_wr q3.2 32 0 1 = z at e2
    have zq : ∀ q, q ≠ 1 → (q < d ∨ d + 6 < q) → q < 32 ∨ (32 < q ∧ q < 40) ∨ 45 < q → z.2 q = x.2 q := fun q a b hq => by rw [← hz, z_wrp (by omega)]; exact w0q q a b hq
    have zk : ∀ k, k ≠ 0 → k ≠ 2 → k ≠ 13 → k ≠ 18 → k ≠ 20 → k ≠ 22 → z.2 32 k = x.2 32 k := fun k k0 a b c d' e => by rw [← hz, z_wr2 (Or.inr k0)]; exact w0k k a b c d' e
    refine ⟨1, c, d, x2, 0, z, ?_, e2, by rw [← hz, z_wr1], fun h => absurd h z_10, hcd, ⟨0, fun _ => 0, ⟨by omega, ?_, ?_⟩, fun i hi => by omega⟩, ?_, ?_⟩
    · unfold f_Lw_formula
      rw [hrd]
      rfl
    · rw [← hz, z_wrp (by omega), hFm.2.1 1 (by omega), z_wrp (by omega)]; exact x211
    · rw [← hz, z_wr2 (Or.inr (by omega)), hFm.2.2 2 (by omega) (by omega) (by omega) (by omega), z_wr1]; rfl
    · refine z_RF_same hF ⟨fun q hq => zq q (by omega) (by omega) (by omega), fun k hk => zk k (by omega) (by omega) (by omega) (by omega) (by omega) (by omega)⟩ ?_ (fun q hq => zq q (by omega) (by omega) (by omega))
      rw [zq 0 (by omega) (by omega) (by omega)]; exact ⟨rfl, rfl⟩
    · refine z_RW_same hW ?_ (zq 15 (by omega) (by omega) (by omega)) (zq 57 (by omega) (by omega) (by omega)) ⟨zk 36 (by omega) (by omega) (by omega) (by omega) (by omega) (by omega), zk 37 (by omega) (by omega) (by omega) (by omega) (by omega) (by omega)⟩
      rw [zq 14 (by omega) (by omega) (by omega)]; exact ⟨rfl, rfl⟩
end ZF
