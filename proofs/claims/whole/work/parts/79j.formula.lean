/-! THE FORMULA READ, BY BOTH. -/
section ZF
variable {D : Type} {A : z_A D} {f s t : Nat} {v : Nat → z_LD D} {x y : q_W}
theorem z_CA_same (h : z_CA A f s t v x) (h0 : y.2 f 7 = x.2 f 7 ∧ y.2 f 8 = x.2 f 8) (h1 : ∀ q, f + 1 ≤ q → q ≤ f + 5 → y.2 q = x.2 q) : z_CA A f s t v y := by
  obtain ⟨a1, a2, a3, a4, a5, a6⟩ := h
  have s4 : ∀ j, y.2 (f + 1) j = x.2 (f + 1) j ∧ y.2 (f + 2) j = x.2 (f + 2) j ∧ y.2 (f + 3) j = x.2 (f + 3) j ∧ y.2 (f + 4) j = x.2 (f + 4) j := fun j => ⟨by rw [h1 _ (by omega) (by omega)], by rw [h1 _ (by omega) (by omega)], by rw [h1 _ (by omega) (by omega)], by rw [h1 _ (by omega) (by omega)]⟩
  refine ⟨a1, a2, h0.1.trans a3, h0.2.trans a4, fun i hi => z_nd_same (a5 i hi) (s4 i) (fun _ _ => rfl), fun i hi => ?_⟩
  obtain ⟨e, e1, e2⟩ := a6 i hi
  exact ⟨e, e1, z_tp_same e2 (Nat.le_refl _) (by rw [h1 _ (by omega) (by omega)]) (fun j _ => s4 j) (fun _ _ => rfl)⟩
theorem z_RA_move (h : z_RA A 40 s t v x) (hs : 1 ≤ s) (e : ∀ j, j < s → y.2 34 j = x.2 40 j ∧ y.2 35 j = x.2 41 j ∧ y.2 36 j = x.2 42 j ∧ y.2 37 j = x.2 43 j) : z_RA A 34 s t v y := by
  obtain ⟨r1, ⟨u1, u2, u3⟩, r3⟩ := h
  refine ⟨fun i hi => ?_, ⟨fun j hj nu n1 n2 n3 => ?_, u2, u3⟩, fun q e' he => ?_⟩
  · obtain ⟨sg, nu, h1, h2, h3, h4⟩ := r1 i hi
    obtain ⟨e1, e2, e3, e4⟩ := e i hi
    refine ⟨sg, nu, e1.trans h1, e4.trans h2, h3, ?_⟩
    rcases h4 with ⟨a, b, c, d⟩ | ⟨lf, rt, a, b, c⟩
    · exact Or.inl ⟨a, e2.trans b, e3.trans c, d⟩
    · exact Or.inr ⟨lf, rt, e2.trans a, e3.trans b, c⟩
  · obtain ⟨e1, e2, e3, e4⟩ := e j hj
    rw [show (34 + 3 : Nat) = 37 from rfl, e4] at n1
    rw [e1] at n3
    obtain ⟨w1, w2, w3⟩ := u1 j hj nu n1 n2 n3
    refine ⟨w1, w2, fun j' hj' m1 m2 => ?_⟩
    obtain ⟨f1, f2, f3, f4⟩ := e j' hj'
    rw [show (34 + 3 : Nat) = 37 from rfl, f4] at m1
    rw [f1] at m2
    exact w3 j' hj' m1 m2
  · obtain ⟨j, sg, lf, rt, h1, h2, h3, h4, h5, h6⟩ := r3 q e' he
    obtain ⟨e1, e2, e3, e4⟩ := e j h1
    exact ⟨j, sg, lf, rt, h1, e1.trans h2, e2.trans h3, e3.trans h4, e4.trans h5, h6⟩
end ZF
section ZF2
variable {c d : Nat} {x : q_W}
/-- all that the reference does once it has read a good line -/
theorem z_modAll {n s t : Nat} {ch : Nat → Nat} {w0 : q_W} (hd : d = 16 ∨ d = 24) (hs1 : 1 ≤ s) (hs : s ≤ 18) (ht : t ≤ 5)
    (hC : ∀ (D : Type) (A : z_A D), ∃ v, z_Acc A n ch (v (s - 1)) ∧ z_CA A d s t v w0)
    (hR : ∀ (D : Type) (A : z_A D), z_as A → ∃ v, z_Acc A n ch (v (s - 1)) ∧ z_RA A 40 s t v w0)
    (h13 : w0.2 32 13 = zi s) (h18 : w0.2 32 18 = zi t)
    (h9 : w0.2 d 9 = zi (z_pl (z_g d w0) t).length) (hq : ∀ k, k < (z_pl (z_g d w0) t).length → w0.2 (d + 6) k = w0.2 (d + 5) ((z_pl (z_g d w0) t).getD k 0)) :
    z_ok (f_Mo_formula_J24 w0 0) (fun r => r.1 = zi s ∧ r.2.1 = w0.1 ∧ (∀ q, q < 32 ∨ 56 < q ∨ q = 33 → r.2.2 q = w0.2 q) ∧ (∀ k, k = 2 ∨ k = 36 ∨ k = 37 → r.2.2 32 k = w0.2 32 k) ∧ r.2.2 32 0 = 0 ∧ r.2.2 32 3 = 1 ∧ ∃ pr W kp op wh S F, z_RM d s t pr W kp op wh S F r.2) := by
  unfold f_Mo_formula_J24
  simp only [q_let]
  rw [z_wr1]
  refine z_ok.pos (by decide) ?_
  have e13 : (q_wr (q_wr w0 32 0 0) 32 3 1).2 32 13 = zi s := by rw [z_wr2 (Or.inr (by omega)), z_wr2 (Or.inr (by omega))]; exact h13
  rw [e13]
  have e18 : (q_wr (q_wr (q_wr w0 32 0 0) 32 3 1) 32 4 (zi s)).2 32 18 = zi t := by rw [z_wr2 (Or.inr (by omega)), z_wr2 (Or.inr (by omega)), z_wr2 (Or.inr (by omega))]; exact h18
  rw [e18]
  generalize hw1 : q_wr (q_wr (q_wr (q_wr (q_wr w0 32 0 0) 32 3 1) 32 4 (zi s)) 32 9 (zi t)) 32 11 0 = w1
  have w1q : ∀ q, q ≠ 32 → w1.2 q = w0.2 q := fun q hq => by rw [← hw1, z_wrp hq, z_wrp hq, z_wrp hq, z_wrp hq, z_wrp hq]
  have w1k : ∀ k, k ≠ 0 → k ≠ 3 → k ≠ 4 → k ≠ 9 → k ≠ 11 → w1.2 32 k = w0.2 32 k := fun k a b c d e => by rw [← hw1, z_wr2 (Or.inr e), z_wr2 (Or.inr d), z_wr2 (Or.inr c), z_wr2 (Or.inr b), z_wr2 (Or.inr a)]
  have w10 : w1.2 32 0 = 0 := by rw [← hw1, z_wr2 (Or.inr (by omega)), z_wr2 (Or.inr (by omega)), z_wr2 (Or.inr (by omega)), z_wr2 (Or.inr (by omega)), z_wr1]
  have w13 : w1.2 32 3 = 1 := by rw [← hw1, z_wr2 (Or.inr (by omega)), z_wr2 (Or.inr (by omega)), z_wr2 (Or.inr (by omega)), z_wr1]
  have w14 : w1.2 32 4 = zi s := by rw [← hw1, z_wr2 (Or.inr (by omega)), z_wr2 (Or.inr (by omega)), z_wr1]
  have w19 : w1.2 32 9 = zi t := by rw [← hw1, z_wr2 (Or.inr (by omega)), z_wr1]
  have w111 : w1.2 32 11 = 0 := by rw [← hw1, z_wr1]
  obtain ⟨vU, -, rU⟩ := hR Unit z_U0 z_U0_as
  have hkn : ∀ j, j < s → ∃ kd nu, w1.2 40 j = zi kd ∧ kd < 15 ∧ w1.2 43 j = zi nu ∧ nu < 20 := fun j hj => by
    obtain ⟨sg, nu, h1, h2, h3, -⟩ := rU.1 j hj
    rw [w1q 40 (by omega), w1q 43 (by omega)]
    exact ⟨z_kd sg, nu, h1, z_kd_lt sg, h2, h3⟩
  have hun : z_un 40 w1 s t [] := by unfold z_un; rw [w1q 40 (by omega), w1q (40 + 3) (by omega)]; exact rU.2.1
  obtain ⟨w2, c1, c2, c3, c4⟩ := z_copy hs ht q_fu 0 w1 (by omega) (by simp only [q_fu]; omega) w14 hkn hun (fun j hj => by omega) (fun j hj => by omega)
  rw [show (0 : Int32) = zi 0 from rfl, c1]
  have w2q : ∀ q, q ≠ 32 → (q < 34 ∨ 38 < q) → w2.2 q = w0.2 q := fun q a b => (c2.2 q b).trans (w1q q a)
  have w2k : ∀ k, w2.2 32 k = w1.2 32 k := fun k => by rw [c2.2 32 (by omega)]
  have hmv : ∀ j, j < s → w2.2 34 j = w0.2 40 j ∧ w2.2 35 j = w0.2 41 j ∧ w2.2 36 j = w0.2 42 j ∧ w2.2 37 j = w0.2 43 j := fun j hj => by
    have := c3 j hj
    rw [w1q 40 (by omega), w1q 41 (by omega), w1q 42 (by omega), w1q 43 (by omega)] at this
    exact this
  have hFA : ∀ (D : Type) (A : z_A D), z_as A → ∃ v v', z_FA A d s t v v' w2 := by
    intro D A hA
    obtain ⟨v, a1, a2⟩ := hC D A
    obtain ⟨v', b1, b2⟩ := hR D A hA
    refine ⟨_, _, z_FA_mk (n := n) (ch := ch) (z_CA_same a2 (by rw [w2q d (by omega) (by omega)]; exact ⟨rfl, rfl⟩) (fun q q1 q2 => w2q q (by omega) (by omega))) a1 (z_RA_move b2 hs1 hmv) b1 (fun j hj nu n1 n2 n3 => ?_)⟩
    obtain ⟨m1, -, -, m4⟩ := hmv j hj
    refine c4 j hj nu n1 ?_ ?_
    · rw [w1q 43 (by omega), ← m4]; exact n2
    · rw [w1q 40 (by omega), ← m1]; exact n3
  obtain ⟨v0, v0', hF0⟩ := hFA Unit z_U0 z_U0_as
  have hgg : z_g d w2 = z_g d w0 := by funext i; simp only [z_g]; rw [w2q (d + 1) (by omega) (by omega), w2q (d + 5) (by omega) (by omega)]
  have hpl : z_pl (z_g d w0) t = z_pl (z_gm w2) t := z_pl_congr (fun i hi => by rw [← hgg]; exact z_g_gm hs hF0 hi)
  obtain ⟨w3, l1, ⟨l2, l3, l4⟩, l5, l6⟩ := z_listm (g := z_gm w2) ht q_fu 0 w2 (by omega) (by simp only [q_fu]; omega) ((w2k 9).trans w19) (fun i hi => by
    obtain ⟨j, rt, j', rt', sg, -, ⟨k1, k2, -⟩, -⟩ := hF0.2.2.2 i hi
    exact ⟨j', k1, by omega⟩) (fun i => rfl) ((w2k 11).trans w111) (fun k hk => by simp [z_pl] at hk)
  rw [show (zi 0) = (0 : Int32) from rfl, show f_Mo_formula_L152 q_fu w2 0 = f_Mo_formula_L209 z_E209 q_fu w3 0 from l1]
  have hc3 : ∀ k, k ≠ 11 → w3.2 32 k = w1.2 32 k := fun k hk => (l4 k hk).trans (w2k k)
  have hZ3 : z_ZF d s t (z_pl (z_g d w0) t) w3 := by
    obtain ⟨vv, -, hCA⟩ := hC Unit z_U0
    have hdq : w3.2 d = w0.2 d := by rw [l3 d (by omega) (by omega), w2q d (by omega) (by omega)]
    refine ⟨⟨hs1, hs, ht, z_pl_len _ _⟩, ⟨?_, ?_, ?_⟩, ⟨?_, ?_, ?_⟩, fun k hk => ⟨(z_pl_mem hk).1, ?_, ?_⟩, fun D A hA => ?_⟩
    · rw [hdq]; exact hCA.2.2.1
    · rw [hdq]; exact hCA.2.2.2.1
    · rw [hdq]; exact h9
    · rw [hc3 4 (by omega)]; exact w14
    · rw [hc3 9 (by omega)]; exact w19
    · rw [l5, hpl]
    · rw [l3 (d + 6) (by omega) (by omega), l3 (d + 5) (by omega) (by omega), w2q (d + 6) (by omega) (by omega), w2q (d + 5) (by omega) (by omega)]
      exact hq k hk
    · rw [hpl] at hk ⊢
      exact l6 k hk
    · obtain ⟨v, v', hv⟩ := hFA D A hA
      exact ⟨v, v', z_FA_same hv (fun q q1 q2 => l3 q (by omega) (by omega)) (fun q q1 q2 => l3 q (by omega) (by omega))⟩
  generalize hpr : z_pl (z_g d w0) t = pr at hZ3
  obtain ⟨W, kp, op, wh, hE3⟩ := z_Ev_of hZ3
  have hp2 := z_p2 t ht
  obtain ⟨w4, k1, k2, k3⟩ := z_looks (E := z_E209) (W := W) (kp := kp) (op := op) (wh := wh) hd q_fu 0 w3 (by omega) (by simp only [q_fu]; omega) hZ3 hE3 (fun st hst => by omega)
  rw [show (0 : Int32) = zi 0 from rfl, k1]
  have hZ4 : z_ZF d s t pr w4 := z_ZF_same hZ3 (by rw [k2.2 d (by omega)]; exact ⟨rfl, rfl, rfl⟩) (fun q q1 q2 => k2.2 q (by omega)) (fun q q1 q2 => k2.2 q (by omega)) (by rw [k2.2 32 (by omega)]; exact ⟨rfl, rfl, rfl⟩)
  have hE4 : z_Ev d s t pr W kp op wh w4 := z_Ev_same hE3 (fun q q1 q2 => k2.2 q (by omega)) (fun q q1 q2 => k2.2 q (by omega))
  have hWlt : ∀ st, W st < 2 ^ t := fun st => by
    obtain ⟨sg, jj, rr, jm, rm, V, V', -, -, -, a4, -⟩ := hE4
    exact (a4 st).2
  -- what lasts
  obtain ⟨w5, o1, o2, o3⟩ := z_outI (t := t) (N := 8 * 2 ^ t) q_fu 0 w4 (by omega) (by simp only [q_fu]; omega) ⟨ht, rfl, hZ4.2.2.1.2.1⟩ (fun s hs => by omega)
  have hMs5 : z_Ms t (8 * 2 ^ t) pr.length W kp op (fun _ => true) w5 := by
    refine ⟨⟨⟨ht, rfl, by have := hZ4.1; omega, fun st _ => by have := hWlt st; omega⟩, ⟨?_, ?_⟩, fun st hst => o3 st hst, fun st hst => ?_, fun st hst => ?_⟩, fun st hst => ?_⟩
    · rw [o2.2 32 (by omega)]; exact hZ4.2.2.1.2.1
    · rw [o2.2 32 (by omega)]; exact hZ4.2.2.1.2.2
    · rw [o2.2 49 (by omega)]; exact (k3 st hst).2.2.2
    · rw [o2.2 46 (by omega)]; exact (k3 st hst).1
    · rw [o2.2 48 (by omega)]; exact (k3 st hst).2.2.1
  have hcd := z_cd_le (fun _ => true) (8 * 2 ^ t)
  obtain ⟨w6, p1, p2, S, p3, p4, p5⟩ := z_outL q_fu w5 (fun _ => true) (by simp only [q_fu]; omega) hMs5 (fun G _ s _ _ => rfl)
  have eO : f_Mo_takeOut w4 = some w6 := by
    unfold f_Mo_takeOut
    rw [show (0 : Int32) = zi 0 from rfl, o1]
    exact p1
  have w64 : ∀ q, (q < 51 ∨ 54 < q) → w6.2 q = w4.2 q := fun q hq => (p2.2 q (by omega)).trans (o2.2 q (by omega))
  obtain ⟨w7, g1, g2, F, g3, g4⟩ := z_mgo (wh := wh) p3 (fun st hst => by rw [w64 47 (by omega)]; exact (k3 st hst).2.1)
  have eE : z_E209 w4 = some (w7.2 32 4, w7) := by
    unfold z_E209
    rw [eO]
    simp only [Option.bind_some]
    rw [g1]
    rfl
  rw [eE]
  have w7q : ∀ q, q ≠ 32 → (q < 51 ∨ 56 < q) → w7.2 q = w4.2 q := fun q a b => (g2.2.1 q a (by omega)).trans (w64 q (by omega))
  have w7k : ∀ k, k ≠ 32 → k ≠ 33 → w7.2 32 k = w4.2 32 k := fun k a b => (g2.2.2 k a b).trans (by rw [w64 32 (by omega)])
  have w70 : ∀ q, q < 32 ∨ 56 < q ∨ q = 33 → w7.2 q = w0.2 q := fun q hq => by
    rw [w7q q (by omega) (by omega), k2.2 q (by omega), l3 q (by omega) (by omega), w2q q (by omega) (by omega)]
  have w7s : ∀ k, k ≠ 11 → k ≠ 32 → k ≠ 33 → w7.2 32 k = w1.2 32 k := fun k a b c => by
    rw [w7k k b c, k2.2 32 (by omega), hc3 k a]
  refine z_ok.some ⟨?_, ?_, w70, fun k hk => ?_, ?_, ?_, pr, W, kp, op, wh, S, F, ⟨?_, ?_⟩, ?_, ⟨?_, p4, p5⟩, g3, g4⟩
  · show w7.2 32 4 = zi s
    rw [w7s 4 (by omega) (by omega) (by omega)]; exact w14
  · show w7.1 = w0.1
    rw [g2.1, p2.1, o2.1, k2.1, l2, c2.1, ← hw1]
    rfl
  · rw [w7s k (by omega) (by omega) (by omega)]
    exact w1k k (by omega) (by omega) (by omega) (by omega) (by omega)
  · show w7.2 32 0 = 0
    rw [w7s 0 (by omega) (by omega) (by omega)]; exact w10
  · show w7.2 32 3 = 1
    rw [w7s 3 (by omega) (by omega) (by omega)]; exact w13
  · exact z_ZF_same hZ4 (by rw [w7q d (by omega) (by omega)]; exact ⟨rfl, rfl, rfl⟩) (fun q q1 q2 => w7q q (by omega) (by omega)) (fun q q1 q2 => w7q q (by omega) (by omega)) ⟨w7k 4 (by omega) (by omega), w7k 9 (by omega) (by omega), w7k 11 (by omega) (by omega)⟩
  · exact z_Ev_same hE4 (fun q q1 q2 => w7q q (by omega) (by omega)) (fun q q1 q2 => w7q q (by omega) (by omega))
  · unfold z_Lm'
    rw [w7q 46 (by omega) (by omega), w7q 47 (by omega) (by omega), w7q 48 (by omega) (by omega), w7q 49 (by omega) (by omega)]
    exact k3
  · exact z_Ms_same' p3 (fun q hq => by rw [g2.2.1 q (by omega) (by omega)]) ⟨g2.2.2 9 (by omega) (by omega), g2.2.2 11 (by omega) (by omega)⟩
end ZF2
