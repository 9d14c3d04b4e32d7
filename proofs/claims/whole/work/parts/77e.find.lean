/-! THE CLASS FINDS WHAT LASTS. -/
section ZF
variable {N r c : Nat} {W : Nat → Nat} {kp op : Nat → Nat → Bool}
def z_Cs (N r : Nat) (W : Nat → Nat) (kp op : Nat → Nat → Bool) (S : Nat → Bool) (x : q_W) : Prop := z_Ba N r S W kp x ∧ (∀ s, s < N → x.2 6 s = z_ms (z_pd' op kp s) r) ∧ x.2 3 9 = zi (z_cd S N)
/-- the set's entry is taken away -/
theorem z_away {S : Nat → Bool} {x : q_W} {i : Nat} (h : z_Cs N r W kp op S x) (hi : i < N) (hS : S i = true) : ∃ y, f_La_takeAway x (zi i) = some y ∧ z_Cs N r W kp op (fun s => if s = i then false else S s) y ∧ z_only (fun q => q = 3 ∨ q = 8) x y := by
  obtain ⟨⟨⟨a1, a2, a3⟩, ⟨b1, b2⟩, h8, h5, h4⟩, h6, h9⟩ := h
  unfold f_La_takeAway
  rw [z_sto (show i < 256 by omega) (by omega)]
  simp only [Option.bind_some, q_let]
  rw [z_wrp (by omega), h9]
  have hcd : z_cd S N = z_cd (fun s => if s = i then false else S s) N + 1 := by
    rw [← z_cd_add (b := fun s => if s = i then false else S s) hi (by simp)]
    apply z_cd_congr
    intro s _
    by_cases hsi : s = i
    · subst hsi; simp [hS]
    · simp [hsi]
  rw [hcd, ← zi_succ]
  generalize hy : q_wr (q_wr x 8 i (vp_nar .boolean 0)) 3 9 _ = y
  have ho : z_only (fun q => q = 3 ∨ q = 8) x y := by rw [← hy]; exact z_only_tr (z_only_wr (by omega)) (z_only_wr (by omega))
  refine ⟨y, rfl, ⟨⟨⟨a1, a2, a3⟩, ⟨?_, ?_⟩, fun s hs => ?_, fun s hs => ?_, fun s hs => ?_⟩, fun s hs => ?_, ?_⟩, ho⟩
  · rw [← hy, z_wr2 (Or.inr (by omega)), z_wrp (by omega)]; exact b1
  · rw [← hy, z_wr2 (Or.inr (by omega)), z_wrp (by omega)]; exact b2
  · rw [← hy, z_wrp (by omega)]
    by_cases hsi : s = i
    · subst hsi; rw [z_wr1]; simp; rfl
    · rw [z_wr2 (Or.inr hsi)]; simp only [hsi, if_false]; exact h8 s hs
  · rw [ho.2 5 (by omega)]; exact h5 s hs
  · rw [ho.2 4 (by omega)]; exact h4 s hs
  · rw [ho.2 6 (by omega)]; exact h6 s hs
  · rw [← hy, z_wr1]; simp
theorem z_Cs_congr {S S' : Nat → Bool} {x : q_W} (h : z_Cs N r W kp op S x) (e : ∀ s, s < N → S s = S' s) : z_Cs N r W kp op S' x := by
  obtain ⟨⟨a, b, h8, h5, h4⟩, h6, h9⟩ := h
  exact ⟨⟨a, b, fun s hs => by rw [← e s hs]; exact h8 s hs, h5, h4⟩, h6, by rw [h9, z_cd_congr e]⟩
/-- a sweep over the set: those of Q stay -/
theorem z_dead2 {S : Nat → Bool} {m : Int32} {B : Nat → Bool} (hm : ∀ w, w < 32 → z_bt m w = B w) : ∀ (n i : Nat) (x : q_W), i ≤ N → N < i + n → z_Cs N r W kp op (fun s => S s && (decide (i ≤ s) || B (s / 8))) x → z_ok (f_La_sweepDeadEnds_L40 n x m (zi i)) (fun y => z_only (fun q => q = 3 ∨ q = 8) x y ∧ z_Cs N r W kp op (fun s => S s && B (s / 8)) y) := by
  intro n
  induction n with
  | zero => intro i x h1 h2; omega
  | succ n ih =>
    intro i x h1 h2 hC
    obtain ⟨⟨⟨a1, a2, a3⟩, ⟨b1, b2⟩, h8, h5, h4⟩, h6, h9⟩ := id hC
    simp only [f_La_sweepDeadEnds_L40]
    by_cases hiN : i = N
    · subst hiN
      refine z_ok.pos (by rw [b1, zi_le (by omega) (by omega)]; omega) (z_ok.some ⟨z_only_rf, z_Cs_congr hC (fun s hs => ?_)⟩)
      simp [show ¬ i ≤ s by omega]
    · refine z_ok.neg (by rw [b1, zi_le (by omega) (by omega)]; omega) ?_
      have hi : i < N := by omega
      rw [z_ld (show i < 256 by omega) (by omega), h8 i hi]
      simp only [Option.bind_some, zb_0, Nat.le_refl, decide_true, Bool.true_or, Bool.and_true]
      rw [z_shr3 i (by omega), z_hbb (by omega), hm _ (by omega)]
      simp only [Option.bind_some, zb_0, zi_succ]
      have nxt : ((S i && (decide (i ≤ i) || B (i / 8))) = (S i && B (i / 8))) → z_Cs N r W kp op (fun s => S s && (decide (i + 1 ≤ s) || B (s / 8))) x := fun e => z_Cs_congr hC (fun s hs => by
        by_cases hsi : s = i
        · subst hsi
          have e1 : decide (s + 1 ≤ s) = false := decide_eq_false (by omega)
          simp only [e1, Bool.false_or]
          exact e
        · have : decide (i ≤ s) = decide (i + 1 ≤ s) := by simp; omega
          rw [this])
      cases hS : S i with
      | false => exact z_ok.pos rfl (ih (i + 1) x (by omega) (by omega) (nxt (by rw [hS]; rfl)))
      | true =>
        refine z_ok.neg (by simp) ?_
        cases hB : B (i / 8) with
        | true => exact z_ok.pos (by simp) (ih (i + 1) x (by omega) (by omega) (nxt (by simp [hB])))
        | false =>
          refine z_ok.neg (by simp) ?_
          obtain ⟨y, y1, y2, y3⟩ := z_away hC hi (by simp [hS])
          rw [y1]
          simp only [Option.bind_some]
          refine z_ok.mono (ih (i + 1) y (by omega) (by omega) (z_Cs_congr y2 (fun s hs => ?_))) (fun z hz => ⟨z_only_tr y3 hz.1, hz.2⟩)
          by_cases hsi : s = i
          · subst hsi; simp [hB]
          · have : decide (i ≤ s) = decide (i + 1 ≤ s) := by simp; omega
            simp only [hsi, if_false, this]
theorem z_dead1 {S : Nat → Bool} {x : q_W} (hC : z_Cs N r W kp op S x) : ∀ (n i : Nat) (m : Int32), i ≤ N → N < i + n → (∀ w, w < 32 → z_bt m w = z_ex S W i w) → z_ok (f_La_sweepDeadEnds_L4 n x m (zi i)) (fun y => z_only (fun q => q = 3 ∨ q = 8) x y ∧ z_Cs N r W kp op (fun s => S s && z_ex S W N (s / 8)) y) := by
  intro n
  induction n with
  | zero => intro i m h1 h2; omega
  | succ n ih =>
    intro i m h1 h2 hm
    obtain ⟨⟨⟨a1, a2, a3⟩, ⟨b1, b2⟩, h8, h5, h4⟩, h6, h9⟩ := id hC
    simp only [f_La_sweepDeadEnds_L4]
    by_cases hiN : i = N
    · subst hiN
      refine z_ok.pos (by rw [b1, zi_le (by omega) (by omega)]; omega) ?_
      exact z_dead2 (S := S) (B := z_ex S W i) hm q_fu 0 x (by omega) (by simp only [q_fu]; omega) (z_Cs_congr hC (fun s hs => by simp))
    · refine z_ok.neg (by rw [b1, zi_le (by omega) (by omega)]; omega) ?_
      have hi : i < N := by omega
      have hW := a3 i hi
      rw [z_ld (show i < 256 by omega) (by omega), z_ld (show i < 256 by omega) (by omega), h8 i hi, h4 i hi]
      simp only [Option.bind_some, zb_0, zi_succ, q_let]
      cases hS : S i with
      | false =>
        refine z_ok.pos rfl (ih (i + 1) m (by omega) (by omega) (fun w hw => ?_))
        simp [z_ex, hS, hm w hw]
      | true =>
        refine z_ok.neg (by simp) (ih (i + 1) _ (by omega) (by omega) (fun w hw => ?_))
        rw [z_bt_set (by omega), hm w hw]
        simp only [z_ex, hS, Bool.true_and]
        congr 1
        by_cases hwW : w = W i
        · subst hwW; simp
        · have : (W i == w) = false := by simp; omega
          rw [this]
          simp [hwW]
theorem z_unk {S : Nat → Bool} {k : Nat} {f : Nat → Option Nat} (hk : k < r) (hf : ∀ s, s < N → ∀ d, f s = some d → d < 1000) : ∀ (n i : Nat) (x : q_W), i ≤ N → N < i + n → z_Cs N r W kp op (fun s => S s && (decide (i ≤ s) || !(z_pd' op kp s k && (f s).isNone))) x → (∀ s, s < N → x.2 9 (256 * k + s) = zo (f s)) → z_ok (f_La_sweepUnkept_L2 n x (zi k) (zi i)) (fun y => z_only (fun q => q = 3 ∨ q = 8) x y ∧ z_Cs N r W kp op (fun s => S s && !(z_pd' op kp s k && (f s).isNone)) y) := by
  intro n
  induction n with
  | zero => intro i x h1 h2; omega
  | succ n ih =>
    intro i x h1 h2 hC h9f
    obtain ⟨⟨⟨a1, a2, a3⟩, ⟨b1, b2⟩, h8, h5, h4⟩, h6, h9⟩ := id hC
    simp only [f_La_sweepUnkept_L2]
    by_cases hiN : i = N
    · subst hiN
      refine z_ok.pos (by rw [b1, zi_le (by omega) (by omega)]; omega) (z_ok.some ⟨z_only_rf, z_Cs_congr hC (fun s hs => ?_)⟩)
      simp [show ¬ i ≤ s by omega]
    · refine z_ok.neg (by rw [b1, zi_le (by omega) (by omega)]; omega) ?_
      have hi : i < N := by omega
      rw [z_ld (show i < 256 by omega) (by omega), h8 i hi, z_ld (show i < 256 by omega) (by omega), h6 i hi]
      simp only [Option.bind_some, zb_0, Nat.le_refl, decide_true, Bool.true_or, Bool.and_true]
      rw [z_hbb (by omega), z_bt_ms (by omega), decide_eq_true hk, Bool.true_and]
      unfold f_La_stepsFrom
      rw [show zi k * 256 + zi i = zi (256 * k + i) by rw [show (256 : Int32) = zi 256 from rfl, zi_mul, zi_add, Nat.mul_comm], z_ld (show 256 * k + i < 1280 by omega) (by omega), h9f i hi]
      simp only [Option.bind_some, zb_0, zi_succ]
      have hm1 := zo_m1 (o := f i) (fun d hd => by have := hf i hi d hd; omega)
      have nxt : ((S i && (decide (i ≤ i) || !(z_pd' op kp i k && (f i).isNone))) = (S i && !(z_pd' op kp i k && (f i).isNone))) → z_Cs N r W kp op (fun s => S s && (decide (i + 1 ≤ s) || !(z_pd' op kp s k && (f s).isNone))) x := fun e => z_Cs_congr hC (fun s hs => by
        by_cases hsi : s = i
        · subst hsi
          have e1 : decide (s + 1 ≤ s) = false := decide_eq_false (by omega)
          simp only [e1, Bool.false_or]
          exact e
        · have : decide (i ≤ s) = decide (i + 1 ≤ s) := by simp; omega
          rw [this])
      cases hS : S i with
      | false => exact z_ok.pos rfl (ih (i + 1) x (by omega) (by omega) (nxt (by rw [hS]; rfl)) h9f)
      | true =>
        refine z_ok.neg (by simp) ?_
        cases hp : z_pd' op kp i k with
        | false => exact z_ok.pos rfl (ih (i + 1) x (by omega) (by omega) (nxt (by simp [hp])) h9f)
        | true =>
          refine z_ok.neg (by simp) ?_
          by_cases hfi : f i = none
          · refine z_ok.neg (fun h => h (hm1.mpr hfi)) ?_
            obtain ⟨y, y1, y2, y3⟩ := z_away hC hi (by simp [hS])
            rw [y1]
            simp only [Option.bind_some]
            refine z_ok.mono (ih (i + 1) y (by omega) (by omega) (z_Cs_congr y2 (fun s hs => ?_)) (fun s hs => by rw [y3.2 9 (by omega)]; exact h9f s hs)) (fun z hz => ⟨z_only_tr y3 hz.1, hz.2⟩)
            by_cases hsi : s = i
            · subst hsi; simp [hp, hfi]
            · have : decide (i ≤ s) = decide (i + 1 ≤ s) := by simp; omega
              simp only [hsi, if_false, this]
          · refine z_ok.pos (fun h => hfi (hm1.mp h)) (ih (i + 1) x (by omega) (by omega) (nxt ?_) h9f)
            cases h : f i with
            | none => exact absurd h hfi
            | some d => simp
/-- what the sweeps over the promises below k leave: S0 is what they began with -/
def z_Sw (N r : Nat) (W : Nat → Nat) (kp op : Nat → Nat → Bool) (S0 S : Nat → Bool) (k : Nat) (x : q_W) : Prop := z_Cs N r W kp op S x ∧ z_Up N r W kp op S ∧ (∀ s, s < N → S s = true → S0 s = true) ∧ (z_cd S0 N ≤ z_cd S N → ∀ k', k' < k → ∃ f, z_St N S0 (fun s => kp s k') W f ∧ (∀ s, s < N → S0 s = true → op s k' = true → f s ≠ none) ∧ ∀ s, s < N → x.2 9 (256 * k' + s) = zo (f s))
theorem z_prom {S0 : Nat → Bool} {K9 : q_W → Int32 → Int32 → Option q_W} {E : q_W → Int32 → Int32 → Option q_W} {v3 v4 : Int32} : ∀ (n k : Nat) (x : q_W) (S : Nat → Bool), k ≤ r → r < k + n → z_Sw N r W kp op S0 S k x → ∃ y S', f_La_find_L33 c K9 E n x v3 v4 (zi k) = E y v3 v4 ∧ z_only (fun q => q = 3 ∨ (8 ≤ q ∧ q ≤ 10)) x y ∧ z_Sw N r W kp op S0 S' r y := by
  intro n
  induction n with
  | zero => intro k x S h1 h2; omega
  | succ n ih =>
    intro k x S h1 h2 hw
    obtain ⟨hC, hU, hsub, hif⟩ := id hw
    obtain ⟨⟨⟨a1, a2, a3⟩, ⟨b1, b2⟩, h8, h5, h4⟩, h6, h9⟩ := id hC
    simp only [f_La_find_L33]
    by_cases hkr : k = r
    · subst hkr
      rw [if_pos (by rw [b2, zi_le (by omega) (by omega)]; omega)]
      exact ⟨x, S, rfl, z_only_rf, hw⟩
    · rw [if_neg (by rw [b2, zi_le (by omega) (by omega)]; omega)]
      have hk : k < r := by omega
      obtain ⟨y, y1, yF, f, y2, y3⟩ := z_steps hk hC.1
      rw [y1]
      simp only [Option.bind_some]
      have hCy : z_Cs N r W kp op S y := ⟨z_Ba_F9 hC.1 yF, fun s hs => by rw [yF.2.1 6 (by omega) (by omega)]; exact h6 s hs, by rw [yF.2.1 3 (by omega) (by omega)]; exact h9⟩
      have hbd : ∀ s, s < N → ∀ d, f s = some d → d < 1000 := fun s hs d hd => by
        have := z_bd (f := f) (N := N) (fun s hs d hd => by obtain ⟨-, s', a, -, b⟩ := y2.2.1 s hs d hd; exact ⟨s', a, b⟩) hs hd
        omega
      obtain ⟨z, z1, z2, z3⟩ := z_unk (S := S) hk hbd q_fu 0 y (by omega) (by simp only [q_fu]; omega) (z_Cs_congr hCy (fun s hs => by simp)) y3
      have e0 : f_La_sweepUnkept y (zi k) = some z := z1
      rw [e0]
      simp only [Option.bind_some, zi_succ]
      have hyz : ∀ q, q ≠ 3 → q ≠ 8 → z.2 q = y.2 q := fun q q1 q2 => z2.2 q (by omega)
      have ho : z_only (fun q => q = 3 ∨ (8 ≤ q ∧ q ≤ 10)) x z := ⟨z2.1.trans yF.1, fun q hq => (z2.2 q (by omega)).trans (yF.2.1 q (by omega) (by omega))⟩
      have hS' : ∀ s, s < N → (S s && !(z_pd' op kp s k && (f s).isNone)) = (S s && !(op s k && (f s).isNone)) := fun s hs => z_unk_pd y2 hs
      have hsub2 : ∀ s, s < N → (S s && !(z_pd' op kp s k && (f s).isNone)) = true → S s = true := fun s hs h => by
        rw [Bool.and_eq_true] at h; exact h.1
      have hnx : z_Sw N r W kp op S0 (fun s => S s && !(z_pd' op kp s k && (f s).isNone)) (k + 1) z := by
        refine ⟨z3, z_Up_congr (z_Up_unk hk hU y2) (fun s hs => (hS' s hs).symm), fun s hs h => hsub s hs (hsub2 s hs h), fun hc k' hk' => ?_⟩
        have m1 := z_cd_mono (n := N) (b := fun s => S s && !(z_pd' op kp s k && (f s).isNone)) (b' := S) hsub2
        have m2 := z_cd_mono (n := N) (b := S) (b' := S0) hsub
        have e1 : ∀ s, s < N → S s = S0 s := fun s hs => z_cd_eq hsub (by omega) hs
        have e2 : ∀ s, s < N → (S s && !(z_pd' op kp s k && (f s).isNone)) = S s := fun s hs => z_cd_eq (b := fun s => S s && !(z_pd' op kp s k && (f s).isNone)) (b' := S) hsub2 (by omega) hs
        by_cases hkk : k' = k
        · subst hkk
          refine ⟨f, z_St_congr y2 e1, fun s hs hs0 hos hfs => ?_, fun s hs => by rw [hyz 9 (by omega) (by omega)]; exact y3 s hs⟩
          have h3 := e2 s hs
          rw [hS' s hs, e1 s hs, hs0, hos, hfs] at h3
          simp at h3
        · obtain ⟨g, g1, g2, g3⟩ := hif (by omega) k' (by omega)
          refine ⟨g, g1, g2, fun s hs => ?_⟩
          rw [hyz 9 (by omega) (by omega), yF.2.2 _ (by omega)]
          exact g3 s hs
      obtain ⟨w, S', w1, w2, w3⟩ := ih (k + 1) z _ (by omega) (by omega) hnx
      exact ⟨w, S', w1, z_only_tr ho w2, w3⟩
/-- what lasts, found by the class -/
def z_Fd (N r : Nat) (W : Nat → Nat) (kp op : Nat → Nat → Bool) (x : q_W) : Prop := ∃ (S : Nat → Bool) (F : Nat → Nat → Option Nat), z_Cs N r W kp op S x ∧ z_Gd N r W kp op S ∧ z_Up N r W kp op S ∧ ∀ k, k < r → z_St N S (fun s => kp s k) W (F k) ∧ ∀ s, s < N → x.2 9 (256 * k + s) = zo (F k s)
theorem z_findL : ∀ (n j : Nat) (x : q_W) (S : Nat → Bool), j + z_cd S N ≤ 256 → 258 < n + j → z_Cs N r W kp op S x → z_Up N r W kp op S → z_ok (f_La_find_L9 c n x 1 (zi j)) (fun y => z_only (fun q => q = 3 ∨ (8 ≤ q ∧ q ≤ 10)) x y ∧ z_Fd N r W kp op y) := by
  intro n
  induction n with
  | zero => intro j x S h1 h2; omega
  | succ n ih =>
    intro j x S h1 h2 hC hU
    obtain ⟨⟨⟨a1, a2, a3⟩, ⟨b1, b2⟩, h8, h5, h4⟩, h6, h9⟩ := id hC
    simp only [f_La_find_L9]
    rw [if_neg z_10, if_neg (by rw [show (256 : Int32) = zi 256 from rfl, zi_lt (by omega) (by omega)]; omega)]
    simp only [q_let]
    obtain ⟨y, y1, y2, y3⟩ := z_dead1 hC q_fu 0 0 (by omega) (by simp only [q_fu]; omega) (fun w hw => by rw [z_bt_0]; rfl)
    have e0 : f_La_sweepDeadEnds x = some y := y1
    rw [e0]
    simp only [Option.bind_some]
    have hsub : ∀ s, s < N → (S s && z_ex S W N (s / 8)) = true → S s = true := fun s hs h => by rw [Bool.and_eq_true] at h; exact h.1
    obtain ⟨z, S', z1, z2, z3⟩ := z_prom (c := c) (S0 := fun s => S s && z_ex S W N (s / 8)) (K9 := f_La_find_L9 c n) (E := fun x4 u5 u6 => if u6 ≤ x4.2 3 9 then (f_La_find_L9 c n) x4 0 (u5 + 1) else (f_La_find_L9 c n) x4 1 (u5 + 1)) (v3 := zi j) (v4 := x.2 3 9) q_fu 0 y (fun s => S s && z_ex S W N (s / 8)) (by omega) (by simp only [q_fu]; omega) ⟨y3, z_Up_dead hU, fun _ _ h => h, fun _ k' hk' => by omega⟩
    rw [show (zi 0) = (0 : Int32) from rfl] at z1
    rw [z1]
    have ho : z_only (fun q => q = 3 ∨ (8 ≤ q ∧ q ≤ 10)) x z := z_only_tr (z_only_mono y2 (fun q hq => by omega)) z2
    obtain ⟨zC, zU, zs, zi0⟩ := z3
    have l0 := z_cd_le S N
    have l1 := z_cd_mono (n := N) (b := fun s => S s && z_ex S W N (s / 8)) (b' := S) hsub
    have l2 := z_cd_mono (n := N) (b := S') (b' := fun s => S s && z_ex S W N (s / 8)) zs
    rw [zC.2.2, h9]
    refine z_ok.ite (fun hc => ?_) (fun hc => ?_)
    · rw [zi_le (by omega) (by omega)] at hc
      obtain ⟨m, rfl⟩ : ∃ m, n = m + 1 := ⟨n - 1, by omega⟩
      simp only [f_La_find_L9, if_true]
      have e1 : ∀ s, s < N → S' s = (S s && z_ex S W N (s / 8)) := fun s hs => z_cd_eq zs (by omega) hs
      have e2 : ∀ s, s < N → (S s && z_ex S W N (s / 8)) = S s := fun s hs => z_cd_eq (b := fun s => S s && z_ex S W N (s / 8)) (b' := S) hsub (by omega) hs
      have e3 : ∀ s, s < N → S' s = S s := fun s hs => (e1 s hs).trans (e2 s hs)
      have hall := zi0 (by omega)
      have hch : ∀ k, ∃ f, k < r → z_St N (fun s => S s && z_ex S W N (s / 8)) (fun s => kp s k) W f ∧ (∀ s, s < N → (S s && z_ex S W N (s / 8)) = true → op s k = true → f s ≠ none) ∧ ∀ s, s < N → z.2 9 (256 * k + s) = zo (f s) := fun k => by
        by_cases hk : k < r
        · obtain ⟨f, hf⟩ := hall k hk
          exact ⟨f, fun _ => hf⟩
        · exact ⟨fun _ => none, fun h => absurd h hk⟩
      obtain ⟨F, hF⟩ := Classical.skolem.mp hch
      refine z_ok.some ⟨ho, S, F, z_Cs_congr zC e3, ⟨fun s hs hS => ?_, fun k hk => ⟨F k, z_St_congr (hF k hk).1 e2, fun s hs hS => (hF k hk).2.1 s hs (by rw [e2 s hs]; exact hS)⟩⟩, hU, fun k hk => ⟨z_St_congr (hF k hk).1 e2, (hF k hk).2.2⟩⟩
      have := e2 s hs
      rw [hS, Bool.true_and] at this
      obtain ⟨s', c1, c2, c3⟩ := z_ex_iff.mp this
      exact ⟨s', c1, c2, c3.symm⟩
    · rw [zi_le (by omega) (by omega)] at hc
      rw [zi_succ]
      exact z_ok.mono (ih (j + 1) z S' (by omega) (by omega) zC zU) (fun w hw => ⟨z_only_tr ho hw.1, hw.2⟩)
end ZF
