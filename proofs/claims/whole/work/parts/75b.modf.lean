/-! THE TWO FORMULAS READ: the reference's, and that both accept the same lines. -/
section ZF
variable {D : Type} {A : z_A D} {n : Nat} {ch : Nat → Nat}
/-- the line as the reference holds it -/
def z_Lm (n : Nat) (ch : Nat → Nat) (x : q_W) : Prop := ∀ i, i < n → x.2 33 i = zi (ch i) ∧ 33 ≤ ch i ∧ ch i ≤ 126
/-- the reference's formula at the places g to g + 3, with s parts and t temporal ones -/
def z_RA (A : z_A D) (g s t : Nat) (v : Nat → z_LD D) (y : q_W) : Prop := (∀ i, i < s → z_nm (z_lg A) g v y i) ∧ z_un g y s t [] ∧ (∀ q e, (v (s - 1)).2 q = some e → z_te g v y s q e)
def z_Rm (A : z_A D) (n : Nat) (ch : Nat → Nat) (x : q_W) (r : Int32 × q_W) : Prop := z_Fm x r.2 ∧ ((r.1 = 1 ∧ ∃ v, z_Acc A n ch (v (z_nc (z_tk n ch) n - 1)) ∧ r.2.2 32 13 = zi (z_nc (z_tk n ch) n) ∧ r.2.2 32 18 = zi (z_tb (z_tk n ch) n) ∧ z_RA A 40 (z_nc (z_tk n ch) n) (z_tb (z_tk n ch) n) v r.2) ∨ (r.1 = 0 ∧ ∀ d, ¬ z_Acc A n ch d))
/-- that the reading by descent gives something -/
theorem z_pd_some (hn : n ≤ 18) (hch : ∀ i, i < n → 33 ≤ ch i ∧ ch i ≤ 126) (h5 : z_tb (z_tk n ch) n ≤ 5) : ∃ r, z_pd (z_lg A) (z_tk n ch) (z_tb (z_tk n ch)) 70 0 0 0 0 = some r := by
  let x : q_W := (0, fun p k => if p = 1 ∧ k = 1 then zi n else if p = 2 then (if k < n then zi (ch k) else 0) else 0)
  have hL : z_Ln n ch x := ⟨hn, rfl, fun i hi => ⟨by simp [x, hi], hch i hi⟩⟩
  have hrd := z_read (A := A) (n := n) (ch := ch) (f := 3) (by omega) h5 70 0 0 0 0 0 0 (fun _ => (A.1 0, fun _ => none)) x (by omega) (by omega) (by omega) (by omega) (by simp only [z_me]; simp; omega) ⟨hL, rfl, rfl, rfl, by omega, fun i hi => by omega⟩
  obtain ⟨r, -, -, p', -, -, hr⟩ := hrd
  rcases hr with ⟨-, h⟩ | ⟨root, s', t', v', -, h, -⟩
  · exact ⟨_, h⟩
  · exact ⟨_, h⟩
theorem z_modr {x : q_W} (hA : z_as A) (hn : n ≤ 18) (hL : z_Lm n ch x) : z_ok (f_Mo_reads x (zi n)) (z_Rm A n ch x) := by
  unfold f_Mo_reads
  simp only [q_let]
  generalize hx0 : q_wr (q_wr (q_wr (q_wr x 32 13 0) 32 18 0) 32 20 0) 32 22 0 = x0
  have x01 : ∀ q, q ≠ 32 → x0.2 q = x.2 q := fun q q1 => by rw [← hx0, z_wrp q1, z_wrp q1, z_wrp q1, z_wrp q1]
  have x02 : ∀ k, k ≠ 13 → k ≠ 18 → k ≠ 20 → k ≠ 22 → x0.2 32 k = x.2 32 k := fun k k1 k2 k3 k4 => by rw [← hx0, z_wr2 (Or.inr k4), z_wr2 (Or.inr k3), z_wr2 (Or.inr k2), z_wr2 (Or.inr k1)]
  have x13 : x0.2 32 13 = zi 0 := by rw [← hx0, z_wr2 (Or.inr (by omega)), z_wr2 (Or.inr (by omega)), z_wr2 (Or.inr (by omega)), z_wr1]; rfl
  have x18 : x0.2 32 18 = zi 0 := by rw [← hx0, z_wr2 (Or.inr (by omega)), z_wr2 (Or.inr (by omega)), z_wr1]; rfl
  have x20 : x0.2 32 20 = zi 0 := by rw [← hx0, z_wr2 (Or.inr (by omega)), z_wr1]; rfl
  have x22 : x0.2 32 22 = zi 0 := by rw [← hx0, z_wr1]; rfl
  have hF0 : z_Fm x x0 := ⟨by rw [← hx0]; rfl, fun q hq => x01 q (by omega), x02⟩
  have hLo : z_Lo A n ch x0 (fun _ => (A.1 0, fun _ => none)) 0 0 0 [] [] false := by
    refine ⟨⟨⟨x13, x18, x20, x22⟩, trivial, trivial, fun i hi => by omega, ⟨fun j hj => by omega, ?_, List.Pairwise.nil⟩, fun i hi => by omega, fun d V h => by cases h⟩, rfl, by simp, by simp [z_nbr, z_nc], by simp [z_nbr], by omega, fun i hi => by rw [x01 33 (by omega)]; exact hL i hi⟩
    rintro i ⟨c, h, -⟩
    cases h
  have hrd := z_reads (A := A) hn q_fu 0 0 0 [] [] false x0 _ (by omega) (by simp only [q_fu]; omega) hLo
  have e0 : f_Mo_reads_L30 (fun x5 u6 u7 => f_Mo_reads_J296 x5 u6 u7) q_fu x0 (zi n) 0 0 1 0 = f_Mo_reads_L30 z_E30 q_fu x0 (zi n) (zi 0) (if false = true then 1 else 0) 1 (zi 0) := rfl
  rw [e0]
  refine z_ok.mono hrd (fun r hr => ?_)
  obtain ⟨f1, hr⟩ := hr
  refine ⟨z_Fm_tr hF0 f1, ?_⟩
  by_cases ht5 : z_tb (z_tk n ch) n ≤ 5
  rotate_left
  · rcases hr with ⟨h1, S, v', m', h2, h3, h4, h5, h6, h7⟩ | ⟨h1, h2⟩
    · omega
    · exact Or.inr ⟨h1, fun d hd => ht5 hd.1⟩
  obtain ⟨r0, hr0⟩ := z_pd_some (A := A) hn (fun i hi => (hL i hi).2) ht5
  have hsim := z_sim (A := z_lg A) (tok := z_tk n ch) (tb := z_tb (z_tk n ch)) (z_lg_as hA) (n := n) (fun p hp => by simp [z_tk]; omega) 70 0 0 0 0 r0 (by omega) (by omega) (by omega) hr0
  have hsim := hsim [] [] (fun _ => trivial)
  obtain ⟨r1, r2⟩ := r0
  cases r1 with
  | none =>
    simp only at hsim
    rcases hr with ⟨h1, S, v', m', h2, h3, h4, h5, h6, h7⟩ | ⟨h1, h2⟩
    · refine absurd ⟨h3, h4⟩ (hsim S ?_)
      exact h2
    · refine Or.inr ⟨h1, fun d hd => ?_⟩
      have := hd.2
      rw [hr0] at this
      cases this
  | some d =>
    obtain ⟨g1, g2, g3, O1, V1, g4, g5⟩ := hsim
    simp only at g1 g2 g3 g4 g5
    have g5 := g5 1 (by omega) (by simp [z_th])
    simp only [z_se] at g5
    by_cases hq : r2 = n
    · subst hq
      rcases hr with ⟨h1, S, v', m', h2, h3, h4, h5, h6, h7⟩ | ⟨h1, h2⟩
      · have hS : S = (O1, V1, 0, true) := by
          have : some S = some (O1, V1, 0, true) := by rw [← h2]; exact g4
          exact Option.some.inj this
        subst hS
        simp only [g5] at h6
        obtain ⟨⟨k13, k18, k20, k22⟩, -, ⟨⟨w, w1, w2, w3⟩, -⟩, kn, ku, kl, kt⟩ := h6
        have kt := kt d [] rfl
        have hm18 := z_nc_le (z_tk r2 ch) r2
        have hw : w = m' - 1 := by
          rw [w1] at kt
          exact (zi_eq (by omega) (by omega)).mp kt
        subst h7
        refine Or.inl ⟨h1, v', ⟨by omega, ?_⟩, k13, k18, kn, ku, fun q e he => kl _ (by omega) q e he⟩
        rw [hr0, ← hw, w3]
      · refine Or.inr ⟨h1, fun d' hd' => ?_⟩
        refine h2 (O1, V1, 0, true) g4 ⟨rfl, by rw [g5], ?_⟩
        have := hd'.1
        omega
    · have hnone : z_run (z_lg A) (z_tk n ch) (z_tb (z_tk n ch)) (n - 0) 0 ([], [], 0, false) = none := by
        rw [z_run_split (z_lg A) (z_tk n ch) (z_tb (z_tk n ch)) (m := n - r2) (q := r2) (p := 0) (n := n) (by omega) (by omega)]
        have e : z_run (z_lg A) (z_tk n ch) (z_tb (z_tk n ch)) (r2 - 0) 0 ([], [], 0, false) = some (O1, V1, 0, true) := g4
        rw [e]
        simp only [Option.bind_some]
        obtain ⟨k, hk⟩ : ∃ k, n - r2 = k + 1 := ⟨n - r2 - 1, by omega⟩
        rw [hk]
        simp only [z_run]
        have hst : z_st (z_lg A) (z_tk n ch) (z_tb (z_tk n ch)) r2 (O1, V1, 0, true) = none := by
          unfold z_st
          simp only [if_true]
          by_cases h41 : z_tk n ch r2 = 41
          · rw [if_pos h41, g5]
          · rw [if_neg h41, if_neg]
            intro hlt
            exact g3 trivial (z_jn (z_tk n ch r2)) (by omega) hlt rfl
        rw [hst]
        rfl
      refine Or.inr ⟨?_, fun d' hd' => ?_⟩
      · rcases hr with ⟨h1, S, v', m', h2, -⟩ | ⟨h1, -⟩
        · rw [hnone] at h2
          cases h2
        · exact h1
      · have := hd'.2
        rw [hr0] at this
        cases this
        exact hq rfl
end ZF
