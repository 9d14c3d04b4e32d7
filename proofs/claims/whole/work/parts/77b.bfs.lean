/-! THE CLASS COUNTS STEPS by a queue. -/
section ZB
variable {N r base k : Nat} {S : Nat → Bool} {kp : Nat → Nat → Bool} {W : Nat → Nat}
def z_F9 (base : Nat) (x y : q_W) : Prop := y.1 = x.1 ∧ (∀ q, q ≠ 9 → q ≠ 10 → y.2 q = x.2 q) ∧ ∀ i, i < base ∨ base + 256 ≤ i → y.2 9 i = x.2 9 i
theorem z_F9_rf {x : q_W} : z_F9 base x x := ⟨rfl, fun _ _ _ => rfl, fun _ _ => rfl⟩
theorem z_F9_tr {x y z : q_W} (h : z_F9 base x y) (g : z_F9 base y z) : z_F9 base x z := ⟨g.1.trans h.1, fun q a b => (g.2.1 q a b).trans (h.2.1 q a b), fun i hi => (g.2.2 i hi).trans (h.2.2 i hi)⟩
theorem z_F9_9 {x : q_W} {i : Nat} {w : Int32} (h1 : base ≤ i) (h2 : i < base + 256) : z_F9 base x (q_wr x 9 i w) := ⟨rfl, fun q a _ => z_wrp a, fun j hj => z_wr2 (Or.inr (by omega))⟩
theorem z_F9_10 {x : q_W} {i : Nat} {w : Int32} : z_F9 base x (q_wr x 10 i w) := ⟨rfl, fun q _ b => z_wrp b, fun j hj => z_wr2 (Or.inl (by omega))⟩
/-- what the class counts upon: the states' number, what leads where, what is kept, the set -/
def z_Ba (N r : Nat) (S : Nat → Bool) (W : Nat → Nat) (kp : Nat → Nat → Bool) (x : q_W) : Prop := (N ≤ 256 ∧ r ≤ 5 ∧ ∀ s, s < N → 8 * W s + 8 ≤ N) ∧ (x.2 3 7 = zi N ∧ x.2 3 8 = zi r) ∧ (∀ s, s < N → x.2 8 s = zb (S s)) ∧ (∀ s, s < N → x.2 5 s = z_ms (kp s) r) ∧ (∀ s, s < N → x.2 4 s = zi (W s))
theorem z_Ba_F9 {x y : q_W} (h : z_Ba N r S W kp x) (g : z_F9 base x y) : z_Ba N r S W kp y := by
  obtain ⟨h1, h2, h3, h4, h5⟩ := h
  unfold z_Ba
  rw [g.2.1 3 (by omega) (by omega), g.2.1 8 (by omega) (by omega), g.2.1 5 (by omega) (by omega), g.2.1 4 (by omega) (by omega)]
  exact ⟨h1, h2, h3, h4, h5⟩
def z_Bw (N base : Nat) (f : Nat → Option Nat) (T : Nat) (qu : Nat → Nat) (x : q_W) : Prop := (∀ s, s < N → x.2 9 (base + s) = zo (f s)) ∧ ∀ j, j < T → x.2 10 j = zi (qu j)
def z_Rp (N r base : Nat) (S K : Nat → Bool) (W : Nat → Nat) (h w d : Nat) (x : q_W) (o : Int32 × q_W) : Prop := z_F9 base x o.2 ∧ ∃ f T qu, o.1 = zi T ∧ z_B0 N S K W f T qu h ∧ h < T ∧ qu h = w ∧ f w = some d ∧ z_Bw N base f T qu o.2 ∧ ∀ p, 8 * W w ≤ p → p < 8 * W w + 8 → S p = true → ∃ d', f p = some d' ∧ d' ≤ d + 1
theorem z_reachL {K : Nat → Bool} {h w d : Nat} (hb : base ≤ 1024) : ∀ (n p : Nat) (x : q_W) (f : Nat → Option Nat) (T : Nat) (qu : Nat → Nat), p ≤ 8 * W w + 8 → 8 * W w ≤ p → 8 * W w + 8 < p + n → z_Ba N r S W kp x → z_B0 N S K W f T qu h → h < T → qu h = w → w < N → f w = some d → z_Bw N base f T qu x → (∀ p', 8 * W w ≤ p' → p' < p → S p' = true → ∃ d', f p' = some d' ∧ d' ≤ d + 1) → z_ok (f_La_reachBefore_L17 n x (zi w) (zi base) (zi T) (zi (8 * W w)) (zi p)) (z_Rp N r base S K W h w d x) := by
  intro n
  induction n with
  | zero => intro p x f T qu h1 h2 h3; omega
  | succ n ih =>
    intro p x f T qu h1 h2 h3 hBa hB hh hqw hw hd hBw hp
    obtain ⟨⟨n1, n2, n3⟩, -, hS, -, -⟩ := id hBa
    have hW := n3 w hw
    have hTN : T ≤ N := by rw [hB.2.1]; exact z_cd_le _ N
    simp only [f_La_reachBefore_L17]
    rw [show zi (8 * W w) + 8 = zi (8 * W w + 8) from zi_add _ 8]
    by_cases hpe : p = 8 * W w + 8
    · subst hpe
      exact z_ok.pos (by rw [zi_le (by omega) (by omega)]; omega) (z_ok.some ⟨z_F9_rf, f, T, qu, rfl, hB, hh, hqw, hd, hBw, hp⟩)
    · refine z_ok.neg (by rw [zi_le (by omega) (by omega)]; omega) ?_
      have hpN : p < N := by omega
      rw [z_ld (show p < 256 by omega) (by omega), hS p hpN]
      simp only [Option.bind_some, zb_0, zi_add]
      rw [z_ld (show base + p < 1280 by omega) (by omega), z_ld (show base + w < 1280 by omega) (by omega), hBw.1 p hpN, hBw.1 w hw, hd]
      simp only [Option.bind_some]
      rw [z_sto (show base + p < 1280 by omega) (by omega)]
      simp only [Option.bind_some, zi_succ]
      have hbd : ∀ d', f p = some d' → d' < 2147483648 := fun d' hd' => by have := z_B0_bd hB hpN hd'; omega
      by_cases hSp : S p = false
      · refine z_ok.pos hSp (ih (p + 1) x f T qu (by omega) (by omega) (by omega) hBa hB hh hqw hw hd hBw (fun p' a b c => ?_))
        by_cases hpp : p' = p
        · rw [hpp, hSp] at c; cases c
        · exact hp p' a (by omega) c
      · refine z_ok.neg hSp ?_
        have hSt : S p = true := by cases h0 : S p with
          | true => rfl
          | false => exact absurd h0 hSp
        by_cases hfn : f p = none
        · refine z_ok.neg (fun hc => hc ((zo_m1 hbd).mpr hfn)) ?_
          have hdiv : p / 8 = W (qu h) := by rw [hqw]; omega
          obtain ⟨hTlt, hB'⟩ := z_B0_app hB hh (by rw [hqw]; exact hd) hpN hSt hdiv hfn
          rw [z_sto (show T < 256 by omega) (by omega)]
          simp only [Option.bind_some]
          have hwp : w ≠ p := fun e => by rw [e, hfn] at hd; cases hd
          generalize hy : q_wr (q_wr x 9 (base + p) (zo (some d) + 1)) 10 T (zi p) = y
          have hF : z_F9 base x y := by rw [← hy]; exact z_F9_tr (z_F9_9 (by omega) (by omega)) z_F9_10
          refine z_ok.mono (ih (p + 1) y _ (T + 1) _ (by omega) (by omega) (by omega) (z_Ba_F9 hBa hF) hB' (by omega) (by simp only [show h ≠ T by omega, if_false]; exact hqw) hw (by simp only [hwp, if_false]; exact hd) ⟨fun s hs => ?_, fun j hj => ?_⟩ (fun p' a b c => ?_)) (fun o ho => ⟨z_F9_tr hF ho.1, ho.2⟩)
          · rw [← hy, z_wrp (by omega)]
            by_cases hsp : s = p
            · subst hsp
              rw [z_wr1]
              simp only [if_true, zo, zi_succ]
            · rw [z_wr2 (Or.inr (by omega))]
              simp only [hsp, if_false]
              exact hBw.1 s hs
          · rw [← hy]
            by_cases hjT : j = T
            · subst hjT
              rw [z_wr1]
              simp
            · rw [z_wr2 (Or.inr hjT), z_wrp (by omega)]
              simp only [hjT, if_false]
              exact hBw.2 j (by omega)
          · by_cases hpp : p' = p
            · exact ⟨d + 1, by simp [hpp], by omega⟩
            · obtain ⟨d', e1, e2⟩ := hp p' a (by omega) c
              refine ⟨d', ?_, e2⟩
              simp only [hpp, if_false]
              exact e1
        · refine z_ok.pos (fun hc => hfn ((zo_m1 hbd).mp hc)) (ih (p + 1) x f T qu (by omega) (by omega) (by omega) hBa hB hh hqw hw hd hBw (fun p' a b c => ?_))
          by_cases hpp : p' = p
          · subst hpp
            obtain ⟨d', hd'⟩ := Option.isSome_iff_exists.mp (Option.isSome_iff_ne_none.mpr hfn)
            obtain ⟨j, j1, j2⟩ := hB.2.2.1 p' hpN (by rw [hd']; rfl)
            refine ⟨d', hd', hB.2.2.2.2.1 hh j j1 d d' (by rw [hqw]; exact hd) (by rw [j2]; exact hd')⟩
          · exact hp p' a (by omega) c
theorem z_bfsL {K : Nat → Bool} (hb : base ≤ 1024) : ∀ (n h : Nat) (x : q_W) (f : Nat → Option Nat) (T : Nat) (qu : Nat → Nat), h ≤ T → T ≤ N → N < h + n → z_Ba N r S W kp x → z_B0 N S K W f T qu h → z_Bw N base f T qu x → z_ok (f_La_countSteps_L95 n x (zi base) (zi T) (zi h)) (fun y => z_F9 base x y ∧ ∃ f, z_St N S K W f ∧ ∀ s, s < N → y.2 9 (base + s) = zo (f s)) := by
  intro n
  induction n with
  | zero => intro h x f T qu h1 h2 h3; omega
  | succ n ih =>
    intro h x f T qu h1 h2 h3 hBa hB hBw
    obtain ⟨⟨n1, n2, n3⟩, ⟨h7, -⟩, hS, -, h4⟩ := id hBa
    simp only [f_La_countSteps_L95]
    refine z_ok.ite (fun hc => ?_) (fun hc => ?_)
    · rw [zi_le (by omega) (by omega)] at hc
      exact z_ok.some ⟨z_F9_rf, f, z_B0_end hB hc, hBw.1⟩
    · rw [zi_le (by omega) (by omega)] at hc
      refine z_ok.neg (by rw [h7, zi_le (by omega) (by omega)]; omega) ?_
      have hh : h < T := by omega
      obtain ⟨q1, q2⟩ := hB.1 h hh
      obtain ⟨d, hd⟩ := Option.isSome_iff_exists.mp q2
      rw [z_ld (show h < 256 by omega) (by omega), hBw.2 h hh]
      simp only [Option.bind_some]
      have hW := n3 _ q1
      unfold f_La_reachBefore
      rw [z_ld (show qu h < 256 by omega) (by omega), h4 _ q1]
      simp only [Option.bind_some, q_let]
      rw [z_shl3 _ (by omega)]
      refine z_ok.bind (z_reachL (K := K) (h := h) (d := d) hb q_fu (8 * W (qu h)) x f T qu (by omega) (by omega) (by simp only [q_fu]; omega) hBa hB hh rfl q1 hd hBw (fun p' a b => by omega)) (fun o ho => ?_)
      obtain ⟨hF, f', T', qu', e1, e2, e3, e4, e5, e6, e7⟩ := ho
      rw [e1, zi_succ]
      have hT'N : T' ≤ N := by rw [e2.2.1]; exact z_cd_le _ N
      refine z_ok.mono (ih (h + 1) o.2 f' T' qu' (by omega) hT'N (by omega) (z_Ba_F9 hBa hF) (z_B0_next e2 e3 (fun p hp hSp hg e he => ?_)) e6) (fun y hy => ⟨z_F9_tr hF hy.1, hy.2⟩)
      rw [e4] at hg he
      rw [e5] at he
      have he := Option.some.inj he
      subst he
      exact e7 p (by omega) (by omega) hSp
def z_f0 (S K : Nat → Bool) (s : Nat) : Option Nat := if (S s && K s) = true then some 0 else none
theorem z_initL (hb : base ≤ 1024) (hk : k < r) : ∀ (n i : Nat) (x : q_W) (T : Nat) (qu : Nat → Nat), i ≤ N → N < i + n → z_Ba N r S W kp x → T = z_cd (fun s => (z_f0 S (fun s => kp s k) s).isSome) i → (∀ s, s < i → x.2 9 (base + s) = zo (z_f0 S (fun s => kp s k) s)) → (∀ j, j < T → x.2 10 j = zi (qu j) ∧ qu j < i ∧ (z_f0 S (fun s => kp s k) (qu j)).isSome = true) → (∀ s, s < i → (z_f0 S (fun s => kp s k) s).isSome = true → ∃ j, j < T ∧ qu j = s) → z_ok (f_La_countSteps_L11 n x (zi k) (zi base) (zi T) (zi i)) (fun y => z_F9 base x y ∧ ∃ f, z_St N S (fun s => kp s k) W f ∧ ∀ s, s < N → y.2 9 (base + s) = zo (f s)) := by
  intro n
  induction n with
  | zero => intro i x T qu h1 h2; omega
  | succ n ih =>
    intro i x T qu h1 h2 hBa hT h9 hq1 hq2
    obtain ⟨⟨n1, n2, n3⟩, ⟨h7, -⟩, hS, h5, h4⟩ := id hBa
    have hTi : T ≤ i := by rw [hT]; exact z_cd_le _ i
    simp only [f_La_countSteps_L11]
    by_cases hiN : i = N
    · subst hiN
      refine z_ok.pos (by rw [h7, zi_le (by omega) (by omega)]; omega) ?_
      have hv : ∀ s d, z_f0 S (fun s => kp s k) s = some d → d = 0 := fun s d h => by
        unfold z_f0 at h
        split at h
        · exact (Option.some.inj h).symm
        · cases h
      refine z_bfsL (K := fun s => kp s k) hb q_fu 0 x (z_f0 S (fun s => kp s k)) T qu (by omega) hTi (by simp only [q_fu]; omega) hBa ⟨fun j hj => (hq1 j hj).2, hT, hq2, fun j j' _ _ d d' a b => ?_, fun _ j hj d e a b => ?_, fun s hs => ?_, fun s hs d h => ?_, fun j hj => by omega⟩ ⟨h9, fun j hj => (hq1 j hj).1⟩
      · rw [hv _ d a]; omega
      · rw [hv _ e b]; omega
      · unfold z_f0
        cases S s <;> cases kp s k <;> simp
      · have := hv _ _ h; omega
    · refine z_ok.neg (by rw [h7, zi_le (by omega) (by omega)]; omega) ?_
      have hi : i < 256 := by omega
      have hiN' : i < N := by omega
      rw [z_ld hi (by omega), z_ld hi (by omega), hS i hiN', h5 i hiN']
      simp only [Option.bind_some, zb_0]
      rw [z_hbb (by omega), z_bt_ms (by omega)]
      simp only [Option.bind_some, zb_0]
      have hkr : decide (k < r) = true := decide_eq_true hk
      rw [hkr, Bool.true_and]
      have goF : (S i && kp i k) = false → z_ok (f_La_countSteps_J48 (f_La_countSteps_L11 n) x (zi k) (zi base) (zi T) (zi i)) (fun y => z_F9 base x y ∧ ∃ f, z_St N S (fun s => kp s k) W f ∧ ∀ s, s < N → y.2 9 (base + s) = zo (f s)) := by
        intro hF
        have e0 : z_f0 S (fun s => kp s k) i = none := by unfold z_f0; rw [hF]; rfl
        unfold f_La_countSteps_J48 f_La_countSteps_J49 f_La_countSteps_J69
        rw [if_pos rfl, zi_add, z_sto (show base + i < 1280 by omega) (by omega)]
        simp only [Option.bind_some, if_true, zi_succ]
        have hFr : z_F9 base x (q_wr x 9 (base + i) (-1)) := z_F9_9 (by omega) (by omega)
        refine z_ok.mono (ih (i + 1) (q_wr x 9 (base + i) (-1)) T qu (by omega) (by omega) (z_Ba_F9 hBa hFr) ?_ (fun s hs => ?_) (fun j hj => ?_) (fun s hs hse => ?_)) (fun y hy => ⟨z_F9_tr hFr hy.1, hy.2⟩)
        · simp only [z_cd, e0]; simp; exact hT
        · by_cases hsi : s = i
          · subst hsi; rw [z_wr1, e0]; rfl
          · rw [z_wr2 (Or.inr (by omega))]; exact h9 s (by omega)
        · rw [z_wrp (by omega)]
          obtain ⟨a, b, c⟩ := hq1 j hj
          exact ⟨a, by omega, c⟩
        · by_cases hsi : s = i
          · subst hsi; rw [e0] at hse; cases hse
          · exact hq2 s (by omega) hse
      by_cases hSi : S i = false
      · refine z_ok.pos hSi (goF (by rw [hSi]; rfl))
      · refine z_ok.neg hSi ?_
        by_cases hki : kp i k = false
        · refine z_ok.pos hki (goF (by rw [hki, Bool.and_false]))
        · refine z_ok.neg hki ?_
          have hTt : (S i && kp i k) = true := by
            cases h0 : S i with
            | false => exact absurd h0 hSi
            | true => cases h1 : kp i k with
              | false => exact absurd h1 hki
              | true => rfl
          have e0 : z_f0 S (fun s => kp s k) i = some 0 := by unfold z_f0; rw [if_pos hTt]
          unfold f_La_countSteps_J49 f_La_countSteps_J69
          rw [if_neg z_10, zi_add, z_sto (show base + i < 1280 by omega) (by omega)]
          simp only [Option.bind_some]
          rw [if_neg z_10, z_sto (show T < 256 by omega) (by omega)]
          simp only [Option.bind_some, zi_succ]
          generalize hy : q_wr (q_wr x 9 (base + i) 0) 10 T (zi i) = y
          have hFr : z_F9 base x y := by rw [← hy]; exact z_F9_tr (z_F9_9 (by omega) (by omega)) z_F9_10
          refine z_ok.mono (ih (i + 1) y (T + 1) (fun j => if j = T then i else qu j) (by omega) (by omega) (z_Ba_F9 hBa hFr) ?_ (fun s hs => ?_) (fun j hj => ?_) (fun s hs hse => ?_)) (fun y hy => ⟨z_F9_tr hFr hy.1, hy.2⟩)
          · simp only [z_cd, e0]; simp; exact hT
          · rw [← hy, z_wrp (by omega)]
            by_cases hsi : s = i
            · subst hsi; rw [z_wr1, e0]; rfl
            · rw [z_wr2 (Or.inr (by omega))]; exact h9 s (by omega)
          · by_cases hjT : j = T
            · subst hjT
              simp only [if_true]
              exact ⟨by rw [← hy, z_wr1], by omega, by rw [e0]; rfl⟩
            · simp only [hjT, if_false]
              obtain ⟨a, b, c⟩ := hq1 j (by omega)
              exact ⟨by rw [← hy, z_wr2 (Or.inr hjT), z_wrp (by omega)]; exact a, by omega, c⟩
          · by_cases hsi : s = i
            · exact ⟨T, by omega, by simp [hsi]⟩
            · obtain ⟨j, j1, j2⟩ := hq2 s (by omega) hse
              refine ⟨j, by omega, ?_⟩
              simp only [show j ≠ T by omega, if_false]
              exact j2
theorem z_steps {x : q_W} (hk : k < r) (hBa : z_Ba N r S W kp x) : z_ok (f_La_countSteps x (zi k)) (fun y => z_F9 (256 * k) x y ∧ ∃ f, z_St N S (fun s => kp s k) W f ∧ ∀ s, s < N → y.2 9 (256 * k + s) = zo (f s)) := by
  unfold f_La_countSteps
  rw [show zi k * 256 = zi (k * 256) from zi_mul k 256, Nat.mul_comm k 256]
  have h5 := hBa.1.2.1
  have h6 := hBa.1.1
  exact z_initL (base := 256 * k) (by omega) hk q_fu 0 x 0 (fun _ => 0) (by omega) (by simp only [q_fu]; omega) hBa rfl (fun s hs => by omega) (fun j hj => by omega) (fun s hs => by omega)
end ZB
