/-! THE REFERENCE FINDS WHAT LASTS. -/
section ZO
variable {t N r : Nat} {W : Nat → Nat} {kp op : Nat → Nat → Bool}
def z_Ms (t N r : Nat) (W : Nat → Nat) (kp op : Nat → Nat → Bool) (S : Nat → Bool) (x : q_W) : Prop := z_Mb t N r S W kp x ∧ ∀ s, s < N → x.2 48 s = z_ms (op s) r
theorem z_Ms_congr {S S' : Nat → Bool} {x : q_W} (h : z_Ms t N r W kp op S x) (e : ∀ s, s < N → S s = S' s) : z_Ms t N r W kp op S' x := by
  obtain ⟨⟨a, b, h51, h5, h4⟩, h6⟩ := h
  exact ⟨⟨a, b, fun s hs => by rw [← e s hs]; exact h51 s hs, h5, h4⟩, h6⟩
theorem z_Ms_same {S : Nat → Bool} {x y : q_W} (h : z_Ms t N r W kp op S x) (g : ∀ q, q = 32 ∨ q = 51 ∨ q = 49 ∨ q = 46 ∨ q = 48 → y.2 q = x.2 q) : z_Ms t N r W kp op S y := ⟨z_Mb_same h.1 (fun q hq => g q (by omega)), fun s hs => by rw [g 48 (by omega)]; exact h.2 s hs⟩
theorem z_Ms_out {S : Nat → Bool} {x : q_W} {i : Nat} (h : z_Ms t N r W kp op S x) : z_Ms t N r W kp op (fun s => if s = i then false else S s) (q_wr x 51 i (vp_nar .boolean 0)) := by
  obtain ⟨⟨a, b, h51, h5, h4⟩, h6⟩ := h
  refine ⟨⟨a, ?_, fun s hs => ?_, fun s hs => ?_, fun s hs => ?_⟩, fun s hs => ?_⟩
  · rw [z_wrp (by omega)]; exact b
  · by_cases hsi : s = i
    · subst hsi; rw [z_wr1]; simp; rfl
    · rw [z_wr2 (Or.inr hsi)]; simp only [hsi, if_false]; exact h51 s hs
  · rw [z_wrp (by omega)]; exact h5 s hs
  · rw [z_wrp (by omega)]; exact h4 s hs
  · rw [z_wrp (by omega)]; exact h6 s hs
/-- whether something was taken out since S0 -/
def z_Fg (N : Nat) (v : Int32) (S0 S : Nat → Bool) : Prop := (∀ s, s < N → S s = true → S0 s = true) ∧ ((v = 0 ∧ ∀ s, s < N → S s = S0 s) ∨ (v = 1 ∧ z_cd S N < z_cd S0 N))
theorem z_Fg_out {v : Int32} {S0 S : Nat → Bool} {i : Nat} (h : z_Fg N v S0 S) (hi : i < N) (hS : S i = true) : z_Fg N 1 S0 (fun s => if s = i then false else S s) := by
  have hsub : ∀ s, s < N → (if s = i then false else S s) = true → S s = true := fun s hs hh => by
    by_cases hsi : s = i
    · simp [hsi] at hh
    · simpa [hsi] using hh
  refine ⟨fun s hs hh => h.1 s hs (hsub s hs hh), Or.inr ⟨rfl, ?_⟩⟩
  have l1 := z_cd_lt (b := fun s => if s = i then false else S s) (b' := S) hsub hi hS (by simp)
  have l2 := z_cd_mono (n := N) h.1
  omega
theorem z_Fg_congr {v : Int32} {S0 S S' : Nat → Bool} (h : z_Fg N v S0 S) (e : ∀ s, s < N → S s = S' s) : z_Fg N v S0 S' := by
  refine ⟨fun s hs hh => h.1 s hs (by rw [e s hs]; exact hh), ?_⟩
  rcases h.2 with ⟨a, b⟩ | ⟨a, b⟩
  · exact Or.inl ⟨a, fun s hs => (e s hs).symm.trans (b s hs)⟩
  · exact Or.inr ⟨a, by rw [← z_cd_congr e]; exact b⟩
theorem z_out1 {K25 : q_W → Int32 → Option q_W} {K33 : q_W → Int32 → Int32 → Option q_W} {S S0 : Nat → Bool} {k : Nat} {f : Nat → Option Nat} (hk : k < r) (hf : ∀ s, s < N → ∀ d, f s = some d → d < 1000) : ∀ (n i : Nat) (x : q_W) (v1 : Int32), i ≤ N → N < i + n → z_Ms t N r W kp op (fun s => S s && (decide (i ≤ s) || !(op s k && (f s).isNone))) x → z_Fg N v1 S0 (fun s => S s && (decide (i ≤ s) || !(op s k && (f s).isNone))) → (∀ s, s < N → x.2 54 (256 * k + s) = zo (f s)) → ∃ y v1', f_Mo_takeOut_L48 K25 K33 n x v1 (zi k) (zi i) = K33 y v1' (zi (k + 1)) ∧ z_only (· = 51) x y ∧ z_Ms t N r W kp op (fun s => S s && !(op s k && (f s).isNone)) y ∧ z_Fg N v1' S0 (fun s => S s && !(op s k && (f s).isNone)) := by
  intro n
  induction n with
  | zero => intro i x v1 h1 h2; omega
  | succ n ih =>
    intro i x v1 h1 h2 hM hg h54
    have hN := z_Mb_N hM.1
    obtain ⟨⟨⟨a1, a2, a3, a4⟩, b, h51, h5, h4⟩, h6⟩ := id hM
    simp only [f_Mo_takeOut_L48]
    rw [z_Mb_cnt hM.1]
    simp only [Option.bind_some]
    by_cases hiN : i = N
    · subst hiN
      rw [if_pos (by rw [zi_le (by omega) (by omega)]; omega), zi_succ]
      have e : ∀ s, s < i → (S s && (decide (i ≤ s) || !(op s k && (f s).isNone))) = (S s && !(op s k && (f s).isNone)) := fun s hs => by
        rw [decide_eq_false (show ¬ i ≤ s by omega), Bool.false_or]
      exact ⟨x, v1, rfl, z_only_rf, z_Ms_congr hM e, z_Fg_congr hg e⟩
    · have hi : i < N := by omega
      rw [if_neg (by rw [zi_le (by omega) (by omega)]; omega), z_ld (show i < 256 by omega) (by omega), h51 i hi, z_ld (show i < 256 by omega) (by omega), h6 i hi, z_idx, z_ld (show 256 * k + i < 1280 by omega) (by omega), h54 i hi]
      simp only [Option.bind_some, zb_0, Nat.le_refl, decide_true, Bool.true_or, Bool.and_true]
      rw [z_bitb (by omega), z_bt_ms (by omega), decide_eq_true hk, Bool.true_and, z_sto (show i < 256 by omega) (by omega)]
      simp only [Option.bind_some, zb_1, zi_succ]
      have hnn := zo_neg (o := f i) (fun d hd => by have := hf i hi d hd; omega)
      have nxt : ((S i && (decide (i ≤ i) || !(op i k && (f i).isNone))) = (S i && !(op i k && (f i).isNone))) → ∃ y v1', f_Mo_takeOut_L48 K25 K33 n x v1 (zi k) (zi (i + 1)) = K33 y v1' (zi (k + 1)) ∧ z_only (· = 51) x y ∧ z_Ms t N r W kp op (fun s => S s && !(op s k && (f s).isNone)) y ∧ z_Fg N v1' S0 (fun s => S s && !(op s k && (f s).isNone)) := fun e => by
        have e' : ∀ s, s < N → (S s && (decide (i ≤ s) || !(op s k && (f s).isNone))) = (S s && (decide (i + 1 ≤ s) || !(op s k && (f s).isNone))) := fun s hs => by
          by_cases hsi : s = i
          · subst hsi
            have e1 : decide (s + 1 ≤ s) = false := decide_eq_false (by omega)
            simp only [e1, Bool.false_or]
            exact e
          · have : decide (i ≤ s) = decide (i + 1 ≤ s) := by simp; omega
            rw [this]
        exact ih (i + 1) x v1 (by omega) (by omega) (z_Ms_congr hM e') (z_Fg_congr hg e') h54
      cases hS : S i with
      | false =>
        rw [if_pos rfl]
        exact nxt (by rw [hS]; rfl)
      | true =>
        rw [if_neg (by simp)]
        cases ho : op i k with
        | false =>
          rw [if_pos (by simp)]
          exact nxt (by simp [ho])
        | true =>
          rw [if_neg (by simp)]
          by_cases hfi : f i = none
          · rw [if_neg (fun h => hnn.mp h hfi)]
            have e' : ∀ s, s < N → (if s = i then false else (S s && (decide (i ≤ s) || !(op s k && (f s).isNone)))) = (S s && (decide (i + 1 ≤ s) || !(op s k && (f s).isNone))) := fun s hs => by
              by_cases hsi : s = i
              · subst hsi; simp [ho, hfi]
              · have : decide (i ≤ s) = decide (i + 1 ≤ s) := by simp; omega
                simp only [hsi, if_false, this]
            obtain ⟨y, v1', y1, y2, y3⟩ := ih (i + 1) (q_wr x 51 i (vp_nar .boolean 0)) 1 (by omega) (by omega) (z_Ms_congr (z_Ms_out hM) e') (z_Fg_congr (z_Fg_out hg hi (by simp [hS])) e') (fun s hs => by rw [z_wrp (by omega)]; exact h54 s hs)
            exact ⟨y, v1', y1, z_only_tr (z_only_wr rfl) y2, y3⟩
          · rw [if_pos (hnn.mpr hfi)]
            refine nxt ?_
            cases h : f i with
            | none => exact absurd h hfi
            | some d => simp
theorem z_out2 {K25 : q_W → Int32 → Option q_W} {S S0 : Nat → Bool} {B : Nat → Bool} : ∀ (n i : Nat) (x : q_W) (v1 : Int32), i ≤ N → N < i + n → z_Ms t N r W kp op (fun s => S s && (decide (i ≤ s) || B (s / 8))) x → z_Fg N v1 S0 (fun s => S s && (decide (i ≤ s) || B (s / 8))) → (∀ w, w < 32 → x.2 53 w = zb (B w)) → ∃ y v1', f_Mo_takeOut_L149 K25 n x v1 (zi i) = K25 y v1' ∧ z_only (· = 51) x y ∧ z_Ms t N r W kp op (fun s => S s && B (s / 8)) y ∧ z_Fg N v1' S0 (fun s => S s && B (s / 8)) := by
  intro n
  induction n with
  | zero => intro i x v1 h1 h2; omega
  | succ n ih =>
    intro i x v1 h1 h2 hM hg h53
    have hN := z_Mb_N hM.1
    obtain ⟨⟨⟨a1, a2, a3, a4⟩, b, h51, h5, h4⟩, h6⟩ := id hM
    simp only [f_Mo_takeOut_L149]
    rw [z_Mb_cnt hM.1]
    simp only [Option.bind_some]
    by_cases hiN : i = N
    · subst hiN
      rw [if_pos (by rw [zi_le (by omega) (by omega)]; omega)]
      have e : ∀ s, s < i → (S s && (decide (i ≤ s) || B (s / 8))) = (S s && B (s / 8)) := fun s hs => by
        rw [decide_eq_false (show ¬ i ≤ s by omega), Bool.false_or]
      exact ⟨x, v1, rfl, z_only_rf, z_Ms_congr hM e, z_Fg_congr hg e⟩
    · have hi : i < N := by omega
      unfold f_Mo_leadsToOne
      rw [if_neg (by rw [zi_le (by omega) (by omega)]; omega), z_ld (show i < 256 by omega) (by omega), h51 i hi, z_shr3 i (by omega), z_ld (show i / 8 < 32 by omega) (by omega), h53 _ (by omega)]
      simp only [Option.bind_some, zb_nb, zb_0, Nat.le_refl, decide_true, Bool.true_or, Bool.and_true]
      rw [z_sto (show i < 256 by omega) (by omega)]
      simp only [Option.bind_some, zi_succ]
      have nxt : ((S i && (decide (i ≤ i) || B (i / 8))) = (S i && B (i / 8))) → ∃ y v1', f_Mo_takeOut_L149 K25 n x v1 (zi (i + 1)) = K25 y v1' ∧ z_only (· = 51) x y ∧ z_Ms t N r W kp op (fun s => S s && B (s / 8)) y ∧ z_Fg N v1' S0 (fun s => S s && B (s / 8)) := fun e => by
        have e' : ∀ s, s < N → (S s && (decide (i ≤ s) || B (s / 8))) = (S s && (decide (i + 1 ≤ s) || B (s / 8))) := fun s hs => by
          by_cases hsi : s = i
          · subst hsi
            have e1 : decide (s + 1 ≤ s) = false := decide_eq_false (by omega)
            simp only [e1, Bool.false_or]
            exact e
          · have : decide (i ≤ s) = decide (i + 1 ≤ s) := by simp; omega
            rw [this]
        exact ih (i + 1) x v1 (by omega) (by omega) (z_Ms_congr hM e') (z_Fg_congr hg e') h53
      cases hS : S i with
      | false =>
        rw [if_pos rfl]
        exact nxt (by rw [hS]; rfl)
      | true =>
        rw [if_neg (by simp)]
        cases hB : B (i / 8) with
        | true =>
          rw [if_pos (by simp)]
          exact nxt (by simp [hB])
        | false =>
          rw [if_neg (by simp)]
          have e' : ∀ s, s < N → (if s = i then false else (S s && (decide (i ≤ s) || B (s / 8)))) = (S s && (decide (i + 1 ≤ s) || B (s / 8))) := fun s hs => by
            by_cases hsi : s = i
            · subst hsi; simp [hB]
            · have : decide (i ≤ s) = decide (i + 1 ≤ s) := by simp; omega
              simp only [hsi, if_false, this]
          obtain ⟨y, v1', y1, y2, y3⟩ := ih (i + 1) (q_wr x 51 i (vp_nar .boolean 0)) 1 (by omega) (by omega) (z_Ms_congr (z_Ms_out hM) e') (z_Fg_congr (z_Fg_out hg hi (by simp [hS])) e') (fun w hw => by rw [z_wrp (by omega)]; exact h53 w hw)
          exact ⟨y, v1', y1, z_only_tr (z_only_wr rfl) y2, y3⟩
theorem z_cpy {K25 : q_W → Int32 → Option q_W} {E : q_W → Int32 → Option q_W} {S : Nat → Bool} {v1 : Int32} : ∀ (n i : Nat) (x : q_W), i ≤ N → N < i + n → z_Ms t N r W kp op S x → (∀ s, s < i → x.2 52 s = zb (S s)) → ∃ y, f_Mo_takeOut_L117 K25 E n x v1 (zi i) = E y v1 ∧ z_only (· = 52) x y ∧ ∀ s, s < N → y.2 52 s = zb (S s) := by
  intro n
  induction n with
  | zero => intro i x h1 h2; omega
  | succ n ih =>
    intro i x h1 h2 hM h52
    have hN := z_Mb_N hM.1
    simp only [f_Mo_takeOut_L117]
    rw [z_Mb_cnt hM.1]
    simp only [Option.bind_some]
    by_cases hiN : i = N
    · subst hiN
      rw [if_pos (by rw [zi_le (by omega) (by omega)]; omega)]
      exact ⟨x, rfl, z_only_rf, h52⟩
    · rw [if_neg (by rw [zi_le (by omega) (by omega)]; omega), z_ld (show i < 256 by omega) (by omega), hM.1.2.2.1 i (by omega)]
      simp only [Option.bind_some]
      rw [z_sto (show i < 256 by omega) (by omega), zb_nar]
      simp only [Option.bind_some, zi_succ]
      have hw : z_only (· = 52) x (q_wr x 52 i (zb (S i))) := z_only_wr rfl
      obtain ⟨y, y1, y2, y3⟩ := ih (i + 1) _ (by omega) (by omega) (z_Ms_same hM (fun q hq => hw.2 q (by omega))) (fun s hs => by
        by_cases hsi : s = i
        · subst hsi; rw [z_wr1]
        · rw [z_wr2 (Or.inr hsi)]; exact h52 s (by omega))
      exact ⟨y, y1, z_only_tr hw y2, y3⟩
theorem z_outs {K25 : q_W → Int32 → Option q_W} {S0 : Nat → Bool} : ∀ (n k : Nat) (x : q_W) (S : Nat → Bool) (v1 : Int32), k ≤ r → r < k + n → z_Ms t N r W kp op S x → z_Up N r W kp op S → z_Fg N v1 S0 S → (v1 = 0 → ∀ k', k' < k → ∃ f, z_St N S0 (fun s => kp s k') W f ∧ ∀ s, s < N → S0 s = true → op s k' = true → f s ≠ none) → ∃ y S' v1', f_Mo_takeOut_L33 K25 n x v1 (zi k) = K25 y v1' ∧ z_only (fun q => 51 ≤ q ∧ q ≤ 54) x y ∧ z_Ms t N r W kp op S' y ∧ z_Up N r W kp op S' ∧ z_Fg N v1' S0 S' ∧ (v1' = 0 → z_Gd N r W kp op S0) := by
  intro n
  induction n with
  | zero => intro k x S v1 h1 h2; omega
  | succ n ih =>
    intro k x S v1 h1 h2 hM hU hg hif
    have hN := z_Mb_N hM.1
    obtain ⟨⟨⟨a1, a2, a3, a4⟩, ⟨b1, b2⟩, h51, h5, h4⟩, h6⟩ := id hM
    simp only [f_Mo_takeOut_L33]
    by_cases hkr : k = r
    · subst hkr
      rw [if_pos (by rw [b2, zi_le (by omega) (by omega)]; omega)]
      obtain ⟨y, y1, y2, y3⟩ := z_cpy (K25 := K25) (E := fun x5 u6 => (f_Mo_noteSome x5).bind fun x7 => (f_Mo_takeOut_L149 K25 q_fu x7 u6 0)) (v1 := v1) (S := S) q_fu 0 x (by omega) (by simp only [q_fu]; omega) hM (fun s hs => by omega)
      rw [show (zi 0) = (0 : Int32) from rfl] at y1
      rw [y1]
      have hMy := z_Ms_same hM (fun q hq => y2.2 q (by omega))
      obtain ⟨z, z1, z2, z3⟩ := z_note hMy.1 y3
      simp only [z1, Option.bind_some]
      have hMz := z_Ms_same hMy (fun q hq => z2.2 q (by omega))
      have e : ∀ s, s < N → S s = (S s && (decide (0 ≤ s) || z_ex S W N (s / 8))) := fun s hs => by simp
      obtain ⟨w, v1', w1, w2, w3, w4⟩ := z_out2 (K25 := K25) (S := S) (S0 := S0) (B := z_ex S W N) q_fu 0 z v1 (by omega) (by simp only [q_fu]; omega) (z_Ms_congr hMz e) (z_Fg_congr hg e) z3
      rw [show (zi 0) = (0 : Int32) from rfl] at w1
      rw [w1]
      refine ⟨w, _, v1', rfl, z_only_tr (z_only_mono y2 (fun q hq => by omega)) (z_only_tr (z_only_mono z2 (fun q hq => by omega)) (z_only_mono w2 (fun q hq => by omega))), w3, z_Up_dead hU, w4, fun hv => ?_⟩
      have heq : ∀ s, s < N → (S s && z_ex S W N (s / 8)) = S0 s := by
        rcases w4.2 with ⟨-, h⟩ | ⟨h, -⟩
        · exact h
        · rw [hv] at h; cases h
      have hSS : ∀ s, s < N → S s = S0 s := fun s hs => by
        cases h : S0 s with
        | true =>
          have := heq s hs
          rw [h, Bool.and_eq_true] at this
          exact this.1
        | false =>
          cases h' : S s with
          | false => rfl
          | true =>
            have := hg.1 s hs h'
            rw [h] at this
            cases this
      have hv1 : v1 = 0 := by
        rcases hg.2 with ⟨h, -⟩ | ⟨-, h⟩
        · exact h
        · rw [z_cd_congr hSS] at h; omega
      refine ⟨fun s hs h0 => ?_, hif hv1⟩
      have := heq s hs
      rw [h0, Bool.and_eq_true] at this
      obtain ⟨s', c1, c2, c3⟩ := z_ex_iff.mp this.2
      exact ⟨s', c1, by rw [← hSS s' c1]; exact c2, c3.symm⟩
    · have hk : k < r := by omega
      rw [if_neg (by rw [b2, zi_le (by omega) (by omega)]; omega)]
      obtain ⟨y, y1, y2, f, y3, y4⟩ := z_stepsm hk hM.1
      rw [y1]
      simp only [Option.bind_some]
      have hMy := z_Ms_same hM (fun q hq => y2.2.1 q (by omega) (by omega) (by omega))
      have hbd : ∀ s, s < N → ∀ d, f s = some d → d < 1000 := fun s hs d hd => by
        have := z_bd (f := f) (N := N) (fun s hs d hd => by obtain ⟨-, s', a, -, b⟩ := y3.2.1 s hs d hd; exact ⟨s', a, b⟩) hs hd
        omega
      have e : ∀ s, s < N → S s = (S s && (decide (0 ≤ s) || !(op s k && (f s).isNone))) := fun s hs => by simp
      obtain ⟨z, v1', z1, z2, z3, z4⟩ := z_out1 (K25 := K25) (K33 := f_Mo_takeOut_L33 K25 n) (S := S) (S0 := S0) hk hbd q_fu 0 y v1 (by omega) (by simp only [q_fu]; omega) (z_Ms_congr hMy e) (z_Fg_congr hg e) y4
      rw [show (zi 0) = (0 : Int32) from rfl] at z1
      rw [z1]
      have hnx : v1' = 0 → ∀ k', k' < k + 1 → ∃ f, z_St N S0 (fun s => kp s k') W f ∧ ∀ s, s < N → S0 s = true → op s k' = true → f s ≠ none := by
        intro hv k' hk'
        have heq : ∀ s, s < N → (S s && !(op s k && (f s).isNone)) = S0 s := by
          rcases z4.2 with ⟨-, h⟩ | ⟨h, -⟩
          · exact h
          · rw [hv] at h; cases h
        have hSS : ∀ s, s < N → S s = S0 s := fun s hs => by
          cases h : S0 s with
          | true =>
            have := heq s hs
            rw [h, Bool.and_eq_true] at this
            exact this.1
          | false =>
            cases h' : S s with
            | false => rfl
            | true =>
              have := hg.1 s hs h'
              rw [h] at this
              cases this
        have hv1 : v1 = 0 := by
          rcases hg.2 with ⟨h, -⟩ | ⟨-, h⟩
          · exact h
          · rw [z_cd_congr hSS] at h; omega
        by_cases hkk : k' = k
        · subst hkk
          refine ⟨f, z_St_congr y3 hSS, fun s hs h0 ho hfs => ?_⟩
          have := heq s hs
          rw [h0, hSS s hs, h0, ho, hfs] at this
          simp at this
        · exact hif hv1 k' (by omega)
      obtain ⟨w, S', v1'', w1, w2, w3⟩ := ih (k + 1) z _ v1' (by omega) (by omega) z3 (z_Up_unk hk hU y3) z4 hnx
      refine ⟨w, S', v1'', w1, z_only_tr ⟨z2.1.trans y2.1, fun q hq => (z2.2 q (by omega)).trans (y2.2.1 q (by omega) (by omega) (by omega))⟩ w2, w3⟩
theorem z_outL : ∀ (n : Nat) (x : q_W) (S : Nat → Bool), z_cd S N + 2 ≤ n → z_Ms t N r W kp op S x → z_Up N r W kp op S → z_ok (f_Mo_takeOut_L25 n x 1) (fun y => z_only (fun q => 51 ≤ q ∧ q ≤ 54) x y ∧ ∃ S', z_Ms t N r W kp op S' y ∧ z_Gd N r W kp op S' ∧ z_Up N r W kp op S') := by
  intro n
  induction n with
  | zero => intro x S h1; omega
  | succ n ih =>
    intro x S h1 hM hU
    simp only [f_Mo_takeOut_L25]
    rw [if_neg z_10]
    have hr := hM.1.1.2.2.1
    obtain ⟨y, S', v1, y1, y2, y3, y4, y5, y6⟩ := z_outs (K25 := f_Mo_takeOut_L25 n) (S0 := S) q_fu 0 x S 0 (by omega) (by simp only [q_fu]; omega) hM hU ⟨fun _ _ h => h, Or.inl ⟨rfl, fun _ _ => rfl⟩⟩ (fun _ k' hk' => by omega)
    rw [show (zi 0) = (0 : Int32) from rfl] at y1
    rw [y1]
    rcases y5.2 with ⟨v0, he⟩ | ⟨v0, hlt⟩
    · rw [v0]
      obtain ⟨m, rfl⟩ : ∃ m, n = m + 1 := ⟨n - 1, by omega⟩
      simp only [f_Mo_takeOut_L25, if_true]
      exact z_ok.some ⟨y2, S, z_Ms_congr y3 he, y6 v0, hU⟩
    · rw [v0]
      exact z_ok.mono (ih y S' (by omega) y3 y4) (fun z hz => ⟨z_only_tr y2 hz.1, hz.2⟩)
theorem z_outI : ∀ (n i : Nat) (x : q_W), i ≤ N → N < i + n → (t ≤ 5 ∧ N = 8 * 2 ^ t ∧ x.2 32 9 = zi t) → (∀ s, s < i → x.2 51 s = 1) → ∃ y, f_Mo_takeOut_L2 n x (zi i) = f_Mo_takeOut_L25 q_fu y 1 ∧ z_only (· = 51) x y ∧ ∀ s, s < N → y.2 51 s = 1 := by
  intro n
  induction n with
  | zero => intro i x h1 h2; omega
  | succ n ih =>
    intro i x h1 h2 hM h51
    have hp2 := z_p2 t hM.1
    simp only [f_Mo_takeOut_L2]
    have hcn : f_Mo_count x = some (zi N) := by unfold f_Mo_count; rw [hM.2.2, z_st8 t hM.1, hM.2.1]
    rw [hcn]
    simp only [Option.bind_some]
    by_cases hiN : i = N
    · subst hiN
      rw [if_pos (by rw [zi_le (by omega) (by omega)]; omega)]
      exact ⟨x, rfl, z_only_rf, h51⟩
    · rw [if_neg (by rw [zi_le (by omega) (by omega)]; omega), z_sto (show i < 256 by omega) (by omega), show vp_nar .boolean 1 = 1 from rfl]
      simp only [Option.bind_some, zi_succ]
      obtain ⟨y, y1, y2, y3⟩ := ih (i + 1) (q_wr x 51 i 1) (by omega) (by omega) ⟨hM.1, hM.2.1, by rw [z_wrp (by omega)]; exact hM.2.2⟩ (fun s hs => by
        by_cases hsi : s = i
        · subst hsi; rw [z_wr1]
        · rw [z_wr2 (Or.inr hsi)]; exact h51 s (by omega))
      exact ⟨y, y1, z_only_tr (z_only_wr rfl) y2, y3⟩
end ZO
