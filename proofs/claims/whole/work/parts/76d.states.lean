/-! ALL STATES LOOKED AT, by the class and by the reference. -/
section ZE
variable {c s t : Nat} {pr : List Nat} {W : Nat → Nat} {kp op : Nat → Nat → Bool} {wh : Nat → Bool} {x : q_W}
def z_Ev (c s t : Nat) (pr : List Nat) (W : Nat → Nat) (kp op : Nat → Nat → Bool) (wh : Nat → Bool) (x : q_W) : Prop := ∃ (sg jj rr jm rm : Nat → Nat) (V V' : Nat → Nat → Bool), z_tl c s t sg jj rr x ∧ z_tlm s t sg jm rm x ∧ (∀ st, (∀ i, i < s → z_nd (z_AS st) c (V st) x i) ∧ (∀ i, i < s → z_nm (z_AS st) 34 (V' st) x i) ∧ V st (s - 1) = V' st (s - 1) ∧ ∀ i, i < t → V st (jj i) = V' st (jm i) ∧ V st (rr i) = V' st (rm i)) ∧ (∀ st, z_ms (z_wb sg jj rr (V st)) t = zi (W st) ∧ W st < 2 ^ t) ∧ (∀ st, kp st = z_kp sg rr pr (V st)) ∧ (∀ st, op st = z_kp sg jj pr (V st)) ∧ (∀ st, wh st = V st (s - 1))
theorem z_Ev_of (h : z_ZF c s t pr x) : ∃ W kp op wh, z_Ev c s t pr W kp op wh x := by
  obtain ⟨⟨s1, s2, t1, p1⟩, -, -, -, hA⟩ := h
  have h1 : ∀ st, ∃ v v', z_FA (z_AS st) c s t v v' x := fun st => hA Bool (z_AS st) (z_AS_as st)
  obtain ⟨V, h2⟩ := Classical.skolem.mp h1
  obtain ⟨V', h3⟩ := Classical.skolem.mp h2
  let jj : Nat → Nat := fun i => (x.2 (c + 5) i).toNatClampNeg
  let sg : Nat → Nat := fun i => (x.2 (c + 1) (jj i)).toNatClampNeg
  let rr : Nat → Nat := fun i => (x.2 (c + 3) (jj i)).toNatClampNeg
  let jm : Nat → Nat := fun i => (x.2 38 i).toNatClampNeg
  let rm : Nat → Nat := fun i => (x.2 36 (jm i)).toNatClampNeg
  have key : ∀ st i, i < t → (x.2 (c + 5) i = zi (jj i) ∧ jj i < s ∧ x.2 (c + 1) (jj i) = zi (sg i) ∧ x.2 (c + 3) (jj i) = zi (rr i) ∧ rr i < jj i ∧ sg i < 200) ∧ (x.2 38 i = zi (jm i) ∧ jm i < s ∧ x.2 34 (jm i) = zi (z_kd (sg i)) ∧ x.2 36 (jm i) = zi (rm i) ∧ rm i < jm i ∧ z_T (sg i) = true) ∧ V st (jj i) = V' st (jm i) ∧ V st (rr i) = V' st (rm i) := by
    intro st i hi
    obtain ⟨j, rt, j', rt', g, ⟨g1, g2, g3, g4, g5⟩, ⟨k1, k2, k3, k4, k5⟩, hT, h200, e1, e2⟩ := (h3 st).2.2.2 i hi
    have ej : jj i = j := by simp only [jj]; rw [g1, zi_nat (by omega)]
    have eg : sg i = g := by simp only [sg]; rw [ej, g3, zi_nat (by omega)]
    have er : rr i = rt := by simp only [rr]; rw [ej, g4, zi_nat (by omega)]
    have em : jm i = j' := by simp only [jm]; rw [k1, zi_nat (by omega)]
    have en : rm i = rt' := by simp only [rm]; rw [em, k4, zi_nat (by omega)]
    rw [ej, eg, er, em, en]
    exact ⟨⟨g1, g2, g3, g4, g5, h200⟩, ⟨k1, k2, k3, k4, k5, hT⟩, e1, e2⟩
  have hW : ∀ st, ∃ m, z_ms (z_wb sg jj rr (V st)) t = zi m ∧ m < 2 ^ t := fun st => z_ms_nat t1
  obtain ⟨W, hW⟩ := Classical.skolem.mp hW
  exact ⟨W, fun st => z_kp sg rr pr (V st), fun st => z_kp sg jj pr (V st), fun st => V st (s - 1), sg, jj, rr, jm, rm, V, V', fun i hi => (key 0 i hi).1, fun i hi => (key 0 i hi).2.1, fun st => ⟨(h3 st).1, (h3 st).2.1, (h3 st).2.2.1, fun i hi => (key st i hi).2.2⟩, hW, fun _ => rfl, fun _ => rfl, fun _ => rfl⟩
theorem z_Ev_same {y : q_W} (h : z_Ev c s t pr W kp op wh x) (h1 : ∀ q, c + 1 ≤ q → q ≤ c + 5 → y.2 q = x.2 q) (h2 : ∀ q, 34 ≤ q → q ≤ 38 → y.2 q = x.2 q) : z_Ev c s t pr W kp op wh y := by
  obtain ⟨sg, jj, rr, jm, rm, V, V', a1, a2, a3, a4⟩ := h
  refine ⟨sg, jj, rr, jm, rm, V, V', ?_, ?_, fun st => ?_, a4⟩
  · unfold z_tl
    rw [h1 _ (by omega) (by omega), h1 (c + 1) (by omega) (by omega), h1 (c + 3) (by omega) (by omega)]
    exact a1
  · unfold z_tlm
    rw [h2 38 (by omega) (by omega), h2 34 (by omega) (by omega), h2 36 (by omega) (by omega)]
    exact a2
  · obtain ⟨b1, b2, b3⟩ := a3 st
    exact ⟨fun i hi => z_nd_same (b1 i hi) ⟨by rw [h1 _ (by omega) (by omega)], by rw [h1 _ (by omega) (by omega)], by rw [h1 _ (by omega) (by omega)], by rw [h1 _ (by omega) (by omega)]⟩ (fun _ _ => rfl), fun i hi => z_nm_same (b2 i hi) ⟨by rw [h2 _ (by omega) (by omega)], by rw [h2 _ (by omega) (by omega)], by rw [h2 _ (by omega) (by omega)], by rw [h2 _ (by omega) (by omega)]⟩ (fun _ _ => rfl), b3⟩
theorem z_Ev_c (hZ : z_ZF c s t pr x) (h : z_Ev c s t pr W kp op wh x) (st : Nat) : ∃ M, f_Fo_partsAt c x (zi st) = some M ∧ f_Fo_expectedBefore c x M = some (zi (W st)) ∧ f_Fo_keptIn c x M = some (z_ms (kp st) pr.length) ∧ f_Fo_openIn c x M = some (z_ms (op st) pr.length) ∧ f_Fo_isWholeIn c x M = some (zb (wh st)) := by
  obtain ⟨⟨s1, s2, t1, p1⟩, ⟨h7, h8, h9⟩, -, hq, -⟩ := hZ
  obtain ⟨sg, jj, rr, jm, rm, V, V', a1, a2, a3, a4, a5, a6, a7⟩ := h
  have hql : z_ql c t pr x := fun k hk => ⟨(hq k hk).1, (hq k hk).2.1⟩
  refine ⟨z_ms (V st) s, z_parts s2 h7 (a3 st).1, ?_, ?_, ?_, ?_⟩
  · rw [z_exp s2 t1 h8 a1, (a4 st).1]
  · rw [z_kept s2 t1 p1 h9 a1 hql, a5 st]
  · rw [z_opn s2 t1 p1 h9 a1 hql, a6 st]
  · rw [z_whole s1 s2 h7, a7 st]
theorem z_kp_congr {sg jj jm : Nat → Nat} {v v' : Nat → Bool} (hq : ∀ k, k < pr.length → pr.getD k 0 < t) (h : ∀ i, i < t → v (jj i) = v' (jm i)) : z_ms (z_kp sg jj pr v) pr.length = z_ms (z_kp sg jm pr v') pr.length := by
  apply z_ms_congr
  intro k hk
  unfold z_kp
  rw [h _ (hq k hk)]
theorem z_Ev_m (hZ : z_ZF c s t pr x) (h : z_Ev c s t pr W kp op wh x) {st : Nat} (hst : st < 256) : ∃ y, f_Mo_look x (zi st) = some y ∧ z_only (fun q => 46 ≤ q ∧ q ≤ 50) x y ∧ (∀ i, i ≠ st → y.2 46 i = x.2 46 i ∧ y.2 47 i = x.2 47 i ∧ y.2 48 i = x.2 48 i ∧ y.2 49 i = x.2 49 i) ∧ y.2 46 st = zi (W st) ∧ y.2 47 st = zb (wh st) ∧ y.2 48 st = z_ms (op st) pr.length ∧ y.2 49 st = z_ms (kp st) pr.length := by
  obtain ⟨⟨s1, s2, t1, p1⟩, -, ⟨h4, h9, h11⟩, hq, -⟩ := hZ
  obtain ⟨sg, jj, rr, jm, rm, V, V', a1, a2, a3, a4, a5, a6, a7⟩ := h
  have hql : z_qlm t pr x := fun k hk => ⟨(hq k hk).1, (hq k hk).2.2⟩
  obtain ⟨y, y1, y2, y3, y4, y5, y6, y7⟩ := z_look hst s1 s2 t1 p1 h4 h9 h11 (a3 st).2.1 a2 hql
  obtain ⟨b1, b2, b3, b4⟩ := a3 st
  refine ⟨y, y1, y2, y3, ?_, ?_, ?_, ?_⟩
  · rw [y4, ← (a4 st).1]
    apply z_ms_congr
    intro i hi
    unfold z_wb
    rw [(b4 i hi).1, (b4 i hi).2]
  · rw [y5, a7 st, b3]
  · rw [y6, a6 st]
    exact (z_kp_congr (t := t) (fun k hk => (hq k hk).1) (fun i hi => (b4 i hi).1)).symm
  · rw [y7, a5 st]
    exact (z_kp_congr (t := t) (fun k hk => (hq k hk).1) (fun i hi => (b4 i hi).2)).symm
/-- what is pending: not kept yet -/
def z_pd' (op kp : Nat → Nat → Bool) (st k : Nat) : Bool := op st k && !kp st k
/-- the class has looked at n states -/
def z_Lk (n r : Nat) (W : Nat → Nat) (kp op : Nat → Nat → Bool) (wh : Nat → Bool) (x : q_W) : Prop := ∀ st, st < n → x.2 4 st = zi (W st) ∧ x.2 5 st = z_ms (kp st) r ∧ x.2 6 st = z_ms (z_pd' op kp st) r ∧ x.2 7 st = zb (wh st)
theorem z_pend {r : Nat} {o k : Nat → Bool} (hr : r ≤ 5) : (z_ms o r &&& (z_ms k r ^^^ (-1))) = z_ms (fun i => o i && !k i) r := by
  apply z_bt_ext
  intro i hi
  rw [z_bt_and, z_bt_not hi, z_bt_ms (by omega), z_bt_ms (by omega), z_bt_ms (by omega)]
  cases decide (i < r) <;> simp
theorem z_las_L {N : Nat} (hc : c = 16 ∨ c = 24) (hN : N ≤ 256) : ∀ (k i : Nat) (x : q_W), i ≤ N → N < i + k → z_ZF c s t pr x → z_Ev c s t pr W kp op wh x → x.2 3 7 = zi N → z_Lk i pr.length W kp op wh x → (∀ st, st < i → x.2 8 st = 1) → z_ok (f_La_lookAtStates_L26 c k x (zi i)) (fun y => z_only (fun q => 4 ≤ q ∧ q ≤ 8) x y ∧ z_Lk N pr.length W kp op wh y ∧ ∀ st, st < N → y.2 8 st = 1) := by
  intro k
  induction k with
  | zero => intro i x h1 h2; omega
  | succ k ih =>
    intro i x h1 h2 hZ hE h7 hL h8
    simp only [f_La_lookAtStates_L26]
    by_cases his : i = N
    · subst his
      exact z_ok.pos (by rw [h7, zi_le (by omega) (by omega)]; omega) (z_ok.some ⟨z_only_rf, hL, h8⟩)
    · refine z_ok.neg (by rw [h7, zi_le (by omega) (by omega)]; omega) ?_
      have hi : i < 256 := by omega
      have hsame : ∀ y : q_W, z_only (fun q => 4 ≤ q ∧ q ≤ 8) x y → z_ZF c s t pr y ∧ z_Ev c s t pr W kp op wh y := fun y hy => by
        refine ⟨z_ZF_same hZ ?_ (fun q q1 q2 => hy.2 q (by omega)) (fun q q1 q2 => hy.2 q (by omega)) ?_, z_Ev_same hE (fun q q1 q2 => hy.2 q (by omega)) (fun q q1 q2 => hy.2 q (by omega))⟩
        · rw [hy.2 c (by omega)]; exact ⟨rfl, rfl, rfl⟩
        · rw [hy.2 32 (by omega)]; exact ⟨rfl, rfl, rfl⟩
      obtain ⟨M, m1, m2, m3, m4, m5⟩ := z_Ev_c hZ hE i
      have hu : ∀ y : q_W, z_only (fun q => 4 ≤ q ∧ q ≤ 8) x y → f_Fo_keptIn c y M = some (z_ms (kp i) pr.length) ∧ f_Fo_openIn c y M = some (z_ms (op i) pr.length) ∧ f_Fo_isWholeIn c y M = some (zb (wh i)) := fun y hy => by
        obtain ⟨M', n1, n2, n3, n4, n5⟩ := z_Ev_c (hsame y hy).1 (hsame y hy).2 i
        have : M' = M := by
          obtain ⟨sg, jj, rr, jm, rm, V, V', a1, a2, a3, -⟩ := hE
          have e1 := z_parts hZ.1.2.1 hZ.2.1.1 (a3 i).1
          have hzy := (hsame y hy).1
          have e2 := z_parts (x := y) hzy.1.2.1 hzy.2.1.1 (fun j hj => z_nd_same ((a3 i).1 j hj) ⟨by rw [hy.2 _ (by omega)], by rw [hy.2 _ (by omega)], by rw [hy.2 _ (by omega)], by rw [hy.2 _ (by omega)]⟩ (fun _ _ => rfl))
          rw [m1] at e1
          rw [n1] at e2
          rw [Option.some.inj e1, Option.some.inj e2]
        rw [← this]
        exact ⟨n3, n4, n5⟩
      refine z_ok.to m1 (z_ok.to m2 ?_)
      rw [z_sto hi (by omega)]
      simp only [Option.bind_some]
      generalize ha : q_wr x 4 i (zi (W i)) = a
      have oa : z_only (fun q => 4 ≤ q ∧ q ≤ 8) x a := by rw [← ha]; exact z_only_wr (by omega)
      rw [(hu a oa).1]
      simp only [Option.bind_some]
      rw [z_sto hi (by omega)]
      simp only [Option.bind_some]
      generalize hb : q_wr a 5 i (z_ms (kp i) pr.length) = b
      have ob : z_only (fun q => 4 ≤ q ∧ q ≤ 8) x b := z_only_tr oa (by rw [← hb]; exact z_only_wr (by omega))
      rw [(hu b ob).2.1]
      simp only [Option.bind_some]
      rw [z_ld hi (by omega), show b.2 5 i = z_ms (kp i) pr.length by rw [← hb, z_wr1]]
      simp only [Option.bind_some]
      have hp5 : pr.length ≤ 5 := by have := hZ.1; omega
      rw [z_pend hp5, z_sto hi (by omega)]
      simp only [Option.bind_some]
      generalize hd : q_wr b 6 i _ = d
      have od : z_only (fun q => 4 ≤ q ∧ q ≤ 8) x d := z_only_tr ob (by rw [← hd]; exact z_only_wr (by omega))
      rw [(hu d od).2.2]
      simp only [Option.bind_some]
      rw [z_sto hi (by omega), zb_nar]
      simp only [Option.bind_some]
      generalize he : q_wr d 7 i (zb (wh i)) = e
      have oe : z_only (fun q => 4 ≤ q ∧ q ≤ 8) x e := z_only_tr od (by rw [← he]; exact z_only_wr (by omega))
      rw [z_sto hi (by omega), show vp_nar .boolean 1 = 1 from rfl]
      simp only [Option.bind_some, zi_succ]
      generalize hf : q_wr e 8 i 1 = f
      have of : z_only (fun q => 4 ≤ q ∧ q ≤ 8) x f := z_only_tr oe (by rw [← hf]; exact z_only_wr (by omega))
      refine z_ok.mono (ih (i + 1) f (by omega) (by omega) (hsame f of).1 (hsame f of).2 (by rw [of.2 3 (by omega)]; exact h7) (fun st hst => ?_) (fun st hst => ?_)) (fun y hy => ⟨z_only_tr of hy.1, hy.2⟩)
      · by_cases hsi : st = i
        · subst hsi
          refine ⟨?_, ?_, ?_, ?_⟩
          · rw [← hf, z_wrp (by omega), ← he, z_wrp (by omega), ← hd, z_wrp (by omega), ← hb, z_wrp (by omega), ← ha, z_wr1]
          · rw [← hf, z_wrp (by omega), ← he, z_wrp (by omega), ← hd, z_wrp (by omega), ← hb, z_wr1]
          · rw [← hf, z_wrp (by omega), ← he, z_wrp (by omega), ← hd, z_wr1]
            rfl
          · rw [← hf, z_wrp (by omega), ← he, z_wr1]
        · obtain ⟨l1, l2, l3, l4⟩ := hL st (by omega)
          refine ⟨?_, ?_, ?_, ?_⟩
          · rw [← hf, z_wrp (by omega), ← he, z_wrp (by omega), ← hd, z_wrp (by omega), ← hb, z_wrp (by omega), ← ha, z_wr2 (Or.inr hsi)]; exact l1
          · rw [← hf, z_wrp (by omega), ← he, z_wrp (by omega), ← hd, z_wrp (by omega), ← hb, z_wr2 (Or.inr hsi), ← ha, z_wrp (by omega)]; exact l2
          · rw [← hf, z_wrp (by omega), ← he, z_wrp (by omega), ← hd, z_wr2 (Or.inr hsi), ← hb, z_wrp (by omega), ← ha, z_wrp (by omega)]; exact l3
          · rw [← hf, z_wrp (by omega), ← he, z_wr2 (Or.inr hsi), ← hd, z_wrp (by omega), ← hb, z_wrp (by omega), ← ha, z_wrp (by omega)]; exact l4
      · by_cases hsi : st = i
        · subst hsi
          rw [← hf, z_wr1]
        · rw [← hf, z_wr2 (Or.inr hsi), ← he, z_wrp (by omega), ← hd, z_wrp (by omega), ← hb, z_wrp (by omega), ← ha, z_wrp (by omega)]
          exact h8 st (by omega)
theorem z_las (hc : c = 16 ∨ c = 24) (hZ : z_ZF c s t pr x) (hE : z_Ev c s t pr W kp op wh x) : z_ok (f_La_lookAtStates c x) (fun y => z_only (fun q => 3 ≤ q ∧ q ≤ 8) x y ∧ (y.2 3 7 = zi (8 * 2 ^ t) ∧ y.2 3 8 = zi pr.length ∧ y.2 3 9 = zi (8 * 2 ^ t)) ∧ z_Lk (8 * 2 ^ t) pr.length W kp op wh y ∧ ∀ st, st < 8 * 2 ^ t → y.2 8 st = 1) := by
  obtain ⟨⟨s1, s2, t1, p1⟩, ⟨h7, h8, h9⟩, -⟩ := id hZ
  have hp2 := z_p2 t t1
  unfold f_La_lookAtStates f_Fo_stateCount f_Fo_promiseCount
  simp only [Option.bind_some, q_let]
  rw [h8, z_st8 t t1, z_wrp (by omega), h9]
  generalize ha : q_wr (q_wr x 3 7 (zi (8 * 2 ^ t))) 3 8 (zi pr.length) = a
  have a7 : a.2 3 7 = zi (8 * 2 ^ t) := by rw [← ha, z_wr2 (Or.inr (by omega)), z_wr1]
  have a8 : a.2 3 8 = zi pr.length := by rw [← ha, z_wr1]
  have oa : z_only (fun q => 3 ≤ q ∧ q ≤ 8) x a := by rw [← ha]; exact z_only_tr (z_only_wr (by omega)) (z_only_wr (by omega))
  rw [a7]
  generalize hb : q_wr a 3 9 (zi (8 * 2 ^ t)) = b
  have ob : z_only (fun q => 3 ≤ q ∧ q ≤ 8) x b := z_only_tr oa (by rw [← hb]; exact z_only_wr (by omega))
  have hZb : z_ZF c s t pr b := z_ZF_same hZ (by rw [ob.2 c (by omega)]; exact ⟨rfl, rfl, rfl⟩) (fun q q1 q2 => ob.2 q (by omega)) (fun q q1 q2 => ob.2 q (by omega)) (by rw [ob.2 32 (by omega)]; exact ⟨rfl, rfl, rfl⟩)
  have hEb : z_Ev c s t pr W kp op wh b := z_Ev_same hE (fun q q1 q2 => ob.2 q (by omega)) (fun q q1 q2 => ob.2 q (by omega))
  refine z_ok.mono (z_las_L hc (show 8 * 2 ^ t ≤ 256 by omega) q_fu 0 b (by omega) (by simp only [q_fu]; omega) hZb hEb (by rw [← hb, z_wr2 (Or.inr (by omega)), a7]) (fun st hst => by omega) (fun st hst => by omega)) (fun y hy => ?_)
  obtain ⟨y1, y2, y3⟩ := hy
  refine ⟨z_only_tr ob (z_only_mono y1 (fun q hq => by omega)), ⟨?_, ?_, ?_⟩, y2, y3⟩
  · rw [y1.2 3 (by omega), ← hb, z_wr2 (Or.inr (by omega)), a7]
  · rw [y1.2 3 (by omega), ← hb, z_wr2 (Or.inr (by omega)), a8]
  · rw [y1.2 3 (by omega), ← hb, z_wr1]
/-- the reference has looked at n states -/
def z_Lm' (n r : Nat) (W : Nat → Nat) (kp op : Nat → Nat → Bool) (wh : Nat → Bool) (x : q_W) : Prop := ∀ st, st < n → x.2 46 st = zi (W st) ∧ x.2 47 st = zb (wh st) ∧ x.2 48 st = z_ms (op st) r ∧ x.2 49 st = z_ms (kp st) r
theorem z_cnt (hZ : z_ZF c s t pr x) : f_Mo_count x = some (zi (8 * 2 ^ t)) := by
  unfold f_Mo_count
  rw [hZ.2.2.1.2.1, z_st8 t hZ.1.2.2.1]
theorem z_looks {E : q_W → Option (Int32 × q_W)} (hc : c = 16 ∨ c = 24) : ∀ (k i : Nat) (x : q_W), i ≤ 8 * 2 ^ t → 8 * 2 ^ t < i + k → z_ZF c s t pr x → z_Ev c s t pr W kp op wh x → z_Lm' i pr.length W kp op wh x → ∃ y, f_Mo_formula_L209 E k x (zi i) = E y ∧ z_only (fun q => 46 ≤ q ∧ q ≤ 50) x y ∧ z_Lm' (8 * 2 ^ t) pr.length W kp op wh y := by
  intro k
  induction k with
  | zero => intro i x h1 h2; omega
  | succ k ih =>
    intro i x h1 h2 hZ hE hL
    have hp2 := z_p2 t hZ.1.2.2.1
    simp only [f_Mo_formula_L209]
    rw [z_cnt hZ]
    simp only [Option.bind_some]
    by_cases his : i = 8 * 2 ^ t
    · subst his
      rw [if_pos (by rw [zi_le (by omega) (by omega)]; omega)]
      exact ⟨x, rfl, z_only_rf, hL⟩
    · rw [if_neg (by rw [zi_le (by omega) (by omega)]; omega)]
      obtain ⟨y, y1, y2, y3, y4, y5, y6, y7⟩ := z_Ev_m hZ hE (show i < 256 by omega)
      rw [y1]
      simp only [Option.bind_some, zi_succ]
      have hZy : z_ZF c s t pr y := z_ZF_same hZ (by rw [y2.2 c (by omega)]; exact ⟨rfl, rfl, rfl⟩) (fun q q1 q2 => y2.2 q (by omega)) (fun q q1 q2 => y2.2 q (by omega)) (by rw [y2.2 32 (by omega)]; exact ⟨rfl, rfl, rfl⟩)
      have hEy : z_Ev c s t pr W kp op wh y := z_Ev_same hE (fun q q1 q2 => y2.2 q (by omega)) (fun q q1 q2 => y2.2 q (by omega))
      have hLy : z_Lm' (i + 1) pr.length W kp op wh y := fun st hst => by
        by_cases hsi : st = i
        · subst hsi
          exact ⟨y4, y5, y6, y7⟩
        · obtain ⟨a, b, c, d⟩ := y3 st hsi
          rw [a, b, c, d]
          exact hL st (by omega)
      obtain ⟨z, z1, z2, z3⟩ := ih (i + 1) y (by omega) (by omega) hZy hEy hLy
      exact ⟨z, z1, z_only_tr y2 z2, z3⟩
end ZE
