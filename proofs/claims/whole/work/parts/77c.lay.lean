/-! THE REFERENCE COUNTS STEPS by layers. -/
def z_ex (C : Nat → Bool) (W : Nat → Nat) : Nat → Nat → Bool
  | 0, _ => false
  | n + 1, w => z_ex C W n w || (C n && (W n == w))
theorem z_ex_iff {C : Nat → Bool} {W : Nat → Nat} {n w : Nat} : z_ex C W n w = true ↔ ∃ s, s < n ∧ C s = true ∧ W s = w := by
  induction n with
  | zero => simp [z_ex]
  | succ n ih =>
    simp only [z_ex, Bool.or_eq_true, ih, Bool.and_eq_true, beq_iff_eq]
    constructor
    · rintro (⟨s, a, b, c⟩ | ⟨b, c⟩)
      · exact ⟨s, by omega, b, c⟩
      · exact ⟨n, by omega, b, c⟩
    · rintro ⟨s, a, b, c⟩
      by_cases hs : s = n
      · subst hs; exact Or.inr ⟨b, c⟩
      · exact Or.inl ⟨s, by omega, b, c⟩
section ZL
variable {t N r k : Nat} {S C : Nat → Bool} {kp : Nat → Nat → Bool} {W : Nat → Nat}
/-- what the reference counts upon -/
def z_Mb (t N r : Nat) (S : Nat → Bool) (W : Nat → Nat) (kp : Nat → Nat → Bool) (x : q_W) : Prop := (t ≤ 5 ∧ N = 8 * 2 ^ t ∧ r ≤ 5 ∧ ∀ s, s < N → 8 * W s + 8 ≤ N) ∧ (x.2 32 9 = zi t ∧ x.2 32 11 = zi r) ∧ (∀ s, s < N → x.2 51 s = zb (S s)) ∧ (∀ s, s < N → x.2 49 s = z_ms (kp s) r) ∧ (∀ s, s < N → x.2 46 s = zi (W s))
theorem z_Mb_N {x : q_W} (h : z_Mb t N r S W kp x) : N ≤ 256 := by
  obtain ⟨⟨h1, h2, -⟩, -⟩ := h
  have := z_p2 t h1
  omega
theorem z_Mb_cnt {x : q_W} (h : z_Mb t N r S W kp x) : f_Mo_count x = some (zi N) := by
  unfold f_Mo_count
  rw [h.2.1.1, z_st8 t h.1.1, h.1.2.1]
theorem z_Mb_same {x y : q_W} (h : z_Mb t N r S W kp x) (g : ∀ q, q = 32 ∨ q = 51 ∨ q = 49 ∨ q = 46 → y.2 q = x.2 q) : z_Mb t N r S W kp y := by
  obtain ⟨h1, h2, h3, h4, h5⟩ := h
  unfold z_Mb
  rw [g 32 (by omega), g 51 (by omega), g 49 (by omega), g 46 (by omega)]
  exact ⟨h1, h2, h3, h4, h5⟩
theorem z_noteB : ∀ (n i : Nat) (x : q_W), i ≤ N → N < i + n → z_Mb t N r S W kp x → (∀ s, s < N → x.2 52 s = zb (C s)) → (∀ w, w < 32 → x.2 53 w = zb (z_ex C W i w)) → z_ok (f_Mo_noteSome_L23 n x (zi i)) (fun y => z_only (· = 53) x y ∧ ∀ w, w < 32 → y.2 53 w = zb (z_ex C W N w)) := by
  intro n
  induction n with
  | zero => intro i x h1 h2; omega
  | succ n ih =>
    intro i x h1 h2 hM hC he
    have hN := z_Mb_N hM
    simp only [f_Mo_noteSome_L23]
    rw [z_Mb_cnt hM]
    simp only [Option.bind_some]
    by_cases hiN : i = N
    · subst hiN
      exact z_ok.pos (by rw [zi_le (by omega) (by omega)]; omega) (z_ok.some ⟨z_only_rf, he⟩)
    · refine z_ok.neg (by rw [zi_le (by omega) (by omega)]; omega) ?_
      have hi : i < N := by omega
      have hW := hM.1.2.2.2 i hi
      rw [z_ld (show i < 256 by omega) (by omega), z_ld (show i < 256 by omega) (by omega), hM.2.2.2.2 i hi, hC i hi]
      simp only [Option.bind_some]
      rw [z_ld (show W i < 32 by omega) (by omega), he _ (by omega)]
      simp only [Option.bind_some, zb_0]
      have go : ∀ b : Bool, b = z_ex C W (i + 1) (W i) → z_ok (f_Mo_noteSome_L23 n (q_wr x 53 (W i) (zb b)) (zi (i + 1))) (fun y => z_only (· = 53) x y ∧ ∀ w, w < 32 → y.2 53 w = zb (z_ex C W N w)) := by
        intro b hb
        have hw : z_only (· = 53) x (q_wr x 53 (W i) (zb b)) := z_only_wr rfl
        refine z_ok.mono (ih (i + 1) _ (by omega) (by omega) (z_Mb_same hM (fun q hq => hw.2 q (by omega))) (fun s hs => by rw [hw.2 52 (by omega)]; exact hC s hs) (fun w hw32 => ?_)) (fun y hy => ⟨z_only_tr hw hy.1, hy.2⟩)
        by_cases hwW : w = W i
        · subst hwW; rw [z_wr1, hb]
        · rw [z_wr2 (Or.inr hwW), he w hw32]
          simp only [z_ex]
          have : (W i == w) = false := by simp; omega
          rw [this, Bool.and_false, Bool.or_false]
      unfold f_Mo_noteSome_J64
      rw [z_sto (show W i < 32 by omega) (by omega), z_sto (show W i < 32 by omega) (by omega)]
      simp only [Option.bind_some, zi_succ]
      cases h1 : z_ex C W i (W i) with
      | true =>
        refine z_ok.pos (by simp) (go true ?_)
        simp [z_ex, h1]
      | false =>
        refine z_ok.neg (by simp) ?_
        cases h2 : C i with
        | false =>
          refine z_ok.pos rfl (go false ?_)
          simp [z_ex, h1, h2]
        | true =>
          refine z_ok.neg (by simp) (go true ?_)
          simp [z_ex, h2]
theorem z_noteA : ∀ (n i : Nat) (x : q_W), i ≤ 32 → 32 < i + n → (∀ w, w < i → x.2 53 w = 0) → ∃ y, f_Mo_noteSome_L2 n x (zi i) = f_Mo_noteSome_L23 q_fu y 0 ∧ z_only (· = 53) x y ∧ ∀ w, w < 32 → y.2 53 w = 0 := by
  intro n
  induction n with
  | zero => intro i x h1 h2; omega
  | succ n ih =>
    intro i x h1 h2 h0
    simp only [f_Mo_noteSome_L2]
    by_cases hi : i = 32
    · subst hi
      rw [if_pos (by decide)]
      exact ⟨x, rfl, z_only_rf, h0⟩
    · rw [if_neg (by rw [show (32 : Int32) = zi 32 from rfl, zi_le (by omega) (by omega)]; omega), z_sto (show i < 32 by omega) (by omega)]
      simp only [Option.bind_some, zi_succ]
      obtain ⟨y, y1, y2, y3⟩ := ih (i + 1) (q_wr x 53 i (vp_nar .boolean 0)) (by omega) (by omega) (fun w hw => by
        by_cases hwi : w = i
        · subst hwi; rw [z_wr1]; rfl
        · rw [z_wr2 (Or.inr hwi)]; exact h0 w (by omega))
      exact ⟨y, y1, z_only_tr (z_only_wr rfl) y2, y3⟩
theorem z_note {x : q_W} (hM : z_Mb t N r S W kp x) (hC : ∀ s, s < N → x.2 52 s = zb (C s)) : z_ok (f_Mo_noteSome x) (fun y => z_only (· = 53) x y ∧ ∀ w, w < 32 → y.2 53 w = zb (z_ex C W N w)) := by
  have hN := z_Mb_N hM
  unfold f_Mo_noteSome
  obtain ⟨y, y1, y2, y3⟩ := z_noteA q_fu 0 x (by omega) (by simp only [q_fu]; omega) (fun w hw => by omega)
  rw [show (0 : Int32) = zi 0 from rfl, y1]
  refine z_ok.mono (z_noteB (C := C) q_fu 0 y (by omega) (by simp only [q_fu]; omega) (z_Mb_same hM (fun q hq => y2.2 q (by omega))) (fun s hs => by rw [y2.2 52 (by omega)]; exact hC s hs) (fun w hw => by rw [y3 w hw]; rfl)) (fun z hz => ⟨z_only_tr y2 hz.1, hz.2⟩)
def z_Fl (base : Nat) (x y : q_W) : Prop := y.1 = x.1 ∧ (∀ q, q ≠ 52 → q ≠ 53 → q ≠ 54 → y.2 q = x.2 q) ∧ ∀ i, i < base ∨ base + 256 ≤ i → y.2 54 i = x.2 54 i
theorem z_Fl_rf {base : Nat} {x : q_W} : z_Fl base x x := ⟨rfl, fun _ _ _ _ => rfl, fun _ _ => rfl⟩
theorem z_Fl_tr {base : Nat} {x y z : q_W} (h : z_Fl base x y) (g : z_Fl base y z) : z_Fl base x z := ⟨g.1.trans h.1, fun q a b c => (g.2.1 q a b c).trans (h.2.1 q a b c), fun i hi => (g.2.2 i hi).trans (h.2.2 i hi)⟩
theorem z_Fl_wr {base i : Nat} {x : q_W} {w : Int32} (h1 : base ≤ i) (h2 : i < base + 256) : z_Fl base x (q_wr x 54 i w) := ⟨rfl, fun q _ _ c => z_wrp c, fun j hj => z_wr2 (Or.inr (by omega))⟩
theorem z_Fl_only {base : Nat} {P : Nat → Prop} {x y : q_W} (h : z_only P x y) (hP : ∀ q, P q → q = 52 ∨ q = 53) : z_Fl base x y := ⟨h.1, fun q a b _ => h.2 q (fun hp => by rcases hP q hp with h | h <;> omega), fun i _ => by rw [h.2 54 (fun hp => by rcases hP 54 hp with h | h <;> omega)]⟩
theorem z_Mb_Fl {base : Nat} {x y : q_W} (h : z_Mb t N r S W kp x) (g : z_Fl base x y) : z_Mb t N r S W kp y := z_Mb_same h (fun q hq => g.2.1 q (by omega) (by omega) (by omega))
theorem z_idx (k i : Nat) : (256 : Int32) * zi k + zi i = zi (256 * k + i) := by
  rw [show (256 : Int32) = zi 256 from rfl, zi_mul, zi_add]
theorem z_comes {K60 : q_W → Int32 → Int32 → Int32 → Option q_W} {E : q_W → Int32 → Int32 → Int32 → Option q_W} {f : Nat → Option Nat} {d : Nat} {v2 : Int32} (hk : k ≤ 4) (hd : d < 1000) (hf : ∀ s, s < N → ∀ e, f s = some e → e < 1000) : ∀ (n i : Nat) (x : q_W), i ≤ N → N < i + n → z_Mb t N r S W kp x → (∀ s, s < N → x.2 54 (256 * k + s) = zo (f s)) → (∀ s, s < i → x.2 52 s = zb (f s == some d)) → ∃ y, f_Mo_countSteps_L69 K60 E n x (zi k) v2 (zi d) (zi i) = E y (zi k) v2 (zi d) ∧ z_only (· = 52) x y ∧ ∀ s, s < N → y.2 52 s = zb (f s == some d) := by
  intro n
  induction n with
  | zero => intro i x h1 h2; omega
  | succ n ih =>
    intro i x h1 h2 hM h54 h52
    have hN := z_Mb_N hM
    simp only [f_Mo_countSteps_L69]
    rw [z_Mb_cnt hM]
    simp only [Option.bind_some]
    by_cases hiN : i = N
    · subst hiN
      rw [if_pos (by rw [zi_le (by omega) (by omega)]; omega)]
      exact ⟨x, rfl, z_only_rf, h52⟩
    · rw [if_neg (by rw [zi_le (by omega) (by omega)]; omega), z_idx, z_ld (show 256 * k + i < 1280 by omega) (by omega), h54 i (by omega)]
      simp only [Option.bind_some]
      rw [z_sto (show i < 256 by omega) (by omega), z_sto (show i < 256 by omega) (by omega)]
      simp only [Option.bind_some, zi_succ]
      have go : ∀ b : Bool, b = (f i == some d) → ∃ y, f_Mo_countSteps_L69 K60 E n (q_wr x 52 i (zb b)) (zi k) v2 (zi d) (zi (i + 1)) = E y (zi k) v2 (zi d) ∧ z_only (· = 52) x y ∧ ∀ s, s < N → y.2 52 s = zb (f s == some d) := by
        intro b hb
        have hw : z_only (· = 52) x (q_wr x 52 i (zb b)) := z_only_wr rfl
        obtain ⟨y, y1, y2, y3⟩ := ih (i + 1) _ (by omega) (by omega) (z_Mb_same hM (fun q hq => hw.2 q (by omega))) (fun s hs => by rw [hw.2 54 (by omega)]; exact h54 s hs) (fun s hs => by
          by_cases hsi : s = i
          · subst hsi; rw [z_wr1, hb]
          · rw [z_wr2 (Or.inr hsi)]; exact h52 s (by omega))
        exact ⟨y, y1, z_only_tr hw y2, y3⟩
      have heq := zo_eq (o := f i) (d := d) (fun e he => by have := hf i (by omega) e he; omega) (by omega)
      by_cases hc : f i = some d
      · rw [if_neg (fun h => h (heq.mpr hc))]
        exact go true (by simp [hc])
      · rw [if_pos (fun h => hc (heq.mp h))]
        exact go false (by simp [hc])
def z_nx' (S : Nat → Bool) (f : Nat → Option Nat) (B : Nat → Bool) (d s : Nat) : Option Nat := if f s = none ∧ S s = true ∧ B (s / 8) = true then some (d + 1) else f s
theorem z_layer {K60 : q_W → Int32 → Int32 → Int32 → Option q_W} {f : Nat → Option Nat} {B : Nat → Bool} {d : Nat} (hk : k ≤ 4) (hd : d < 1000) (hf : ∀ s, s < N → ∀ e, f s = some e → e < 1000) : ∀ (n i : Nat) (x : q_W) (v2' : Int32), i ≤ N → N < i + n → z_Mb t N r S W kp x → (∀ w, w < 32 → x.2 53 w = zb (B w)) → (∀ s, s < N → x.2 54 (256 * k + s) = zo (if s < i then z_nx' S f B d s else f s)) → ((v2' = 0 ∧ ∀ s, s < i → z_nx' S f B d s = f s) ∨ (v2' = 1 ∧ ∃ s, s < i ∧ z_nx' S f B d s = some (d + 1))) → ∃ y v2, f_Mo_countSteps_L120 K60 n x (zi k) v2' (zi d) (zi i) = K60 y (zi k) v2 (zi (d + 1)) ∧ z_Fl (256 * k) x y ∧ (∀ s, s < N → y.2 54 (256 * k + s) = zo (z_nx' S f B d s)) ∧ ((v2 = 0 ∧ ∀ s, s < N → z_nx' S f B d s = f s) ∨ (v2 = 1 ∧ ∃ s, s < N ∧ z_nx' S f B d s = some (d + 1))) := by
  intro n
  induction n with
  | zero => intro i x v2' h1 h2; omega
  | succ n ih =>
    intro i x v2' h1 h2 hM hB h54 hv
    have hN := z_Mb_N hM
    simp only [f_Mo_countSteps_L120]
    rw [z_Mb_cnt hM]
    simp only [Option.bind_some]
    by_cases hiN : i = N
    · subst hiN
      rw [if_pos (by rw [zi_le (by omega) (by omega)]; omega), zi_succ]
      exact ⟨x, v2', rfl, z_Fl_rf, fun s hs => by rw [h54 s hs, if_pos hs], hv⟩
    · have hi : i < N := by omega
      rw [if_neg (by rw [zi_le (by omega) (by omega)]; omega), z_idx, z_ld (show i < 256 by omega) (by omega), hM.2.2.1 i hi, z_ld (show 256 * k + i < 1280 by omega) (by omega), h54 i hi]
      simp only [Option.bind_some, zb_0, zi_succ]
      rw [if_neg (show ¬ i < i by omega)]
      unfold f_Mo_leadsToOne
      rw [z_shr3 i (by omega), z_ld (show i / 8 < 32 by omega) (by omega), hB _ (by omega)]
      simp only [Option.bind_some, zb_nb, zb_0]
      have go : z_nx' S f B d i = f i → ∃ y v2, f_Mo_countSteps_L120 K60 n x (zi k) v2' (zi d) (zi (i + 1)) = K60 y (zi k) v2 (zi (d + 1)) ∧ z_Fl (256 * k) x y ∧ (∀ s, s < N → y.2 54 (256 * k + s) = zo (z_nx' S f B d s)) ∧ ((v2 = 0 ∧ ∀ s, s < N → z_nx' S f B d s = f s) ∨ (v2 = 1 ∧ ∃ s, s < N ∧ z_nx' S f B d s = some (d + 1))) := by
        intro e
        refine ih (i + 1) x v2' (by omega) (by omega) hM hB (fun s hs => ?_) ?_
        · rw [h54 s hs]
          by_cases hsi : s = i
          · subst hsi; rw [if_neg (by omega), if_pos (by omega), e]
          · by_cases hlt : s < i
            · rw [if_pos hlt, if_pos (by omega)]
            · rw [if_neg hlt, if_neg (by omega)]
        · rcases hv with ⟨a, b⟩ | ⟨a, s, b, c⟩
          · refine Or.inl ⟨a, fun s hs => ?_⟩
            by_cases hsi : s = i
            · subst hsi; exact e
            · exact b s (by omega)
          · exact Or.inr ⟨a, s, by omega, c⟩
      by_cases hS : S i = false
      · rw [if_pos hS]
        refine go ?_
        unfold z_nx'
        rw [if_neg (fun h => by rw [hS] at h; exact absurd h.2.1 (by simp))]
      · rw [if_neg hS]
        have hnn := zo_neg (o := f i) (fun e he => by have := hf i hi e he; omega)
        by_cases hfi : f i = none
        · rw [if_neg (fun h => (hnn.mp h) hfi)]
          by_cases hb : B (i / 8) = false
          · rw [if_pos hb]
            refine go ?_
            unfold z_nx'
            rw [if_neg (fun h => by rw [hb] at h; exact absurd h.2.2 (by simp))]
          · rw [if_neg hb, z_sto (show 256 * k + i < 1280 by omega) (by omega)]
            simp only [Option.bind_some]
            have e : z_nx' S f B d i = some (d + 1) := by
              unfold z_nx'
              rw [if_pos ⟨hfi, by cases h : S i with
                | true => rfl
                | false => exact absurd h hS, by cases h : B (i / 8) with
                | true => rfl
                | false => exact absurd h hb⟩]
            have hw : z_Fl (256 * k) x (q_wr x 54 (256 * k + i) (zi (d + 1))) := z_Fl_wr (by omega) (by omega)
            obtain ⟨y, v2, y1, y2, y3⟩ := ih (i + 1) (q_wr x 54 (256 * k + i) (zi (d + 1))) 1 (by omega) (by omega) (z_Mb_Fl hM hw) (fun w hw' => by rw [z_wrp (by omega)]; exact hB w hw') (fun s hs => by
              by_cases hsi : s = i
              · subst hsi; rw [z_wr1, if_pos (by omega), e]; rfl
              · rw [z_wr2 (Or.inr (by omega)), h54 s hs]
                by_cases hlt : s < i
                · rw [if_pos hlt, if_pos (by omega)]
                · rw [if_neg hlt, if_neg (by omega)]) (Or.inr ⟨rfl, i, by omega, e⟩)
            exact ⟨y, v2, y1, z_Fl_tr hw y2, y3⟩
        · rw [if_pos (hnn.mpr hfi)]
          refine go ?_
          unfold z_nx'
          rw [if_neg (fun h => hfi h.1)]
/-- the layers, one by one -/
theorem z_layers {K : Nat → Bool} (hk : k ≤ 4) : ∀ (n d : Nat) (x : q_W) (f : Nat → Option Nat), d < N + 1 → N + 3 ≤ n + d → z_Mb t N r S W kp x → z_Ly N S K W f d → (∀ s, s < N → x.2 54 (256 * k + s) = zo (f s)) → z_ok (f_Mo_countSteps_L60 n x (zi k) 1 (zi d)) (fun y => z_Fl (256 * k) x y ∧ ∃ f, z_St N S K W f ∧ ∀ s, s < N → y.2 54 (256 * k + s) = zo (f s)) := by
  intro n
  induction n with
  | zero => intro d x f h1 h2; omega
  | succ n ih =>
    intro d x f h1 h2 hM hL h54
    have hN := z_Mb_N hM
    have hbd : ∀ s, s < N → ∀ e, f s = some e → e < 1000 := fun s hs e he => by have := z_Ly_bd hL hs he; omega
    simp only [f_Mo_countSteps_L60]
    rw [if_neg z_10]
    obtain ⟨y, y1, y2, y3⟩ := z_comes (K60 := f_Mo_countSteps_L60 n) (E := fun x10 u11 u12 u13 => (f_Mo_noteSome x10).bind fun x14 => (f_Mo_countSteps_L120 (f_Mo_countSteps_L60 n) q_fu x14 u11 u12 u13 0)) (v2 := 0) (d := d) hk (by omega) hbd q_fu 0 x (by omega) (by simp only [q_fu]; omega) hM h54 (fun s hs => by omega)
    rw [show (zi 0) = (0 : Int32) from rfl] at y1
    rw [y1]
    have hMy := z_Mb_same hM (fun q hq => y2.2 q (by omega))
    refine z_ok.bind (z_note (C := fun s => f s == some d) hMy y3) (fun z hz => ?_)
    obtain ⟨z1, z2⟩ := hz
    have hFz : z_Fl (256 * k) x z := z_Fl_tr (z_Fl_only y2 (fun q hq => Or.inl hq)) (z_Fl_only z1 (fun q hq => Or.inr hq))
    have hMz := z_Mb_Fl hM hFz
    obtain ⟨w, v2, w1, w2, w3, w4⟩ := z_layer (K60 := f_Mo_countSteps_L60 n) (f := f) (B := z_ex (fun s => f s == some d) W N) (d := d) hk (by omega) hbd q_fu 0 z 0 (by omega) (by simp only [q_fu]; omega) hMz z2 (fun s hs => by rw [if_neg (by omega), z1.2 54 (by omega), y2.2 54 (by omega)]; exact h54 s hs) (Or.inl ⟨rfl, fun s hs => by omega⟩)
    rw [show (zi 0) = (0 : Int32) from rfl] at w1
    rw [w1]
    have hFw := z_Fl_tr hFz w2
    have hB : ∀ s, s < N → ((f s = none ∧ S s = true ∧ z_ex (fun s => f s == some d) W N (s / 8) = true) ↔ (f s = none ∧ S s = true ∧ ∃ s', s' < N ∧ s / 8 = W s' ∧ f s' = some d)) := by
      intro s hs
      rw [z_ex_iff]
      constructor
      · rintro ⟨a, b, s', c, e, g⟩
        exact ⟨a, b, s', c, g.symm, by simpa using e⟩
      · rintro ⟨a, b, s', c, e, g⟩
        exact ⟨a, b, s', c, by simpa using g, e.symm⟩
    rcases w4 with ⟨v0, hn⟩ | ⟨v1, s, hs, he⟩
    · rw [v0]
      obtain ⟨m, rfl⟩ : ∃ m, n = m + 1 := ⟨n - 1, by omega⟩
      simp only [f_Mo_countSteps_L60, if_true]
      refine z_ok.some ⟨hFw, f, z_Ly_end hL (fun s hs hf hc => ?_), fun s hs => by rw [w3 s hs, hn s hs]⟩
      have := hn s hs
      unfold z_nx' at this
      rw [if_pos ((hB s hs).mpr ⟨hf, hc⟩), hf] at this
      cases this
    · rw [v1]
      have hL' : z_Ly N S K W (z_nx' S f (z_ex (fun s => f s == some d) W N) d) (d + 1) := by
        refine z_Ly_step hL (fun s hs e he => ?_) (fun s hs hf hc => ?_) (fun s hs hf hc => ?_)
        · unfold z_nx'
          rw [if_neg (fun h => by rw [h.1] at he; cases he)]
          exact he
        · unfold z_nx'
          rw [if_pos ((hB s hs).mpr ⟨hf, hc⟩)]
        · unfold z_nx'
          rw [if_neg (fun h => hc ((hB s hs).mp h).2)]
          exact hf
      have hdN := z_Ly_bd hL' hs he
      refine z_ok.mono (ih (d + 1) w _ (by omega) (by omega) (z_Mb_Fl hM hFw) hL' w3) (fun y hy => ⟨z_Fl_tr hFw hy.1, hy.2⟩)
theorem z_init2 (hk : k < r) : ∀ (n i : Nat) (x : q_W), i ≤ N → N < i + n → z_Mb t N r S W kp x → (∀ s, s < i → x.2 54 (256 * k + s) = zo (z_f0 S (fun s => kp s k) s)) → ∃ y, f_Mo_countSteps_L2 n x (zi k) (zi i) = f_Mo_countSteps_L60 q_fu y (zi k) 1 0 ∧ z_Fl (256 * k) x y ∧ ∀ s, s < N → y.2 54 (256 * k + s) = zo (z_f0 S (fun s => kp s k) s) := by
  intro n
  induction n with
  | zero => intro i x h1 h2; omega
  | succ n ih =>
    intro i x h1 h2 hM h54
    have hN := z_Mb_N hM
    have hr := hM.1.2.2.1
    simp only [f_Mo_countSteps_L2]
    rw [z_Mb_cnt hM]
    simp only [Option.bind_some]
    by_cases hiN : i = N
    · subst hiN
      rw [if_pos (by rw [zi_le (by omega) (by omega)]; omega)]
      exact ⟨x, rfl, z_Fl_rf, h54⟩
    · have hi : i < N := by omega
      rw [if_neg (by rw [zi_le (by omega) (by omega)]; omega), z_idx, z_ld (show i < 256 by omega) (by omega), hM.2.2.1 i hi, z_ld (show i < 256 by omega) (by omega), hM.2.2.2.1 i hi]
      simp only [Option.bind_some, zb_0]
      rw [z_bitb (by omega), z_bt_ms (by omega), decide_eq_true hk, Bool.true_and]
      simp only [zb_1]
      rw [z_sto (show 256 * k + i < 1280 by omega) (by omega), z_sto (show 256 * k + i < 1280 by omega) (by omega)]
      simp only [Option.bind_some, zi_succ]
      have go : ∀ o : Option Nat, o = z_f0 S (fun s => kp s k) i → ∃ y, f_Mo_countSteps_L2 n (q_wr x 54 (256 * k + i) (zo o)) (zi k) (zi (i + 1)) = f_Mo_countSteps_L60 q_fu y (zi k) 1 0 ∧ z_Fl (256 * k) x y ∧ ∀ s, s < N → y.2 54 (256 * k + s) = zo (z_f0 S (fun s => kp s k) s) := by
        intro o ho
        have hw : z_Fl (256 * k) x (q_wr x 54 (256 * k + i) (zo o)) := z_Fl_wr (by omega) (by omega)
        obtain ⟨y, y1, y2, y3⟩ := ih (i + 1) _ (by omega) (by omega) (z_Mb_Fl hM hw) (fun s hs => by
          by_cases hsi : s = i
          · subst hsi; rw [z_wr1, ho]
          · rw [z_wr2 (Or.inr (by omega))]; exact h54 s (by omega))
        exact ⟨y, y1, z_Fl_tr hw y2, y3⟩
      cases hS : S i with
      | false =>
        rw [if_pos rfl]
        exact go none (by simp [z_f0, hS])
      | true =>
        rw [if_neg (by simp)]
        cases hK : kp i k with
        | false =>
          rw [if_pos (by simp)]
          exact go none (by simp [z_f0, hK])
        | true =>
          rw [if_neg (by simp)]
          exact go (some 0) (by simp [z_f0, hS, hK])
theorem z_stepsm {x : q_W} (hk : k < r) (hM : z_Mb t N r S W kp x) : z_ok (f_Mo_countSteps x (zi k)) (fun y => z_Fl (256 * k) x y ∧ ∃ f, z_St N S (fun s => kp s k) W f ∧ ∀ s, s < N → y.2 54 (256 * k + s) = zo (f s)) := by
  have hN := z_Mb_N hM
  have hr := hM.1.2.2.1
  unfold f_Mo_countSteps
  obtain ⟨y, y1, y2, y3⟩ := z_init2 hk q_fu 0 x (by omega) (by simp only [q_fu]; omega) hM (fun s hs => by omega)
  rw [show (zi 0) = (0 : Int32) from rfl] at y1
  rw [y1]
  have hv : ∀ s d, z_f0 S (fun s => kp s k) s = some d → d = 0 := fun s d h => by
    unfold z_f0 at h
    split at h
    · exact (Option.some.inj h).symm
    · cases h
  refine z_ok.mono (z_layers (K := fun s => kp s k) (by omega) q_fu 0 y (z_f0 S (fun s => kp s k)) (by omega) (by simp only [q_fu]; omega) (z_Mb_Fl hM y2) ⟨fun s hs => ?_, fun s hs d h => ?_, fun s hs e he => ?_, fun s hs s' hs' _ _ e _ he => by omega⟩ y3) (fun z hz => ⟨z_Fl_tr y2 hz.1, hz.2⟩)
  · unfold z_f0
    cases S s <;> cases kp s k <;> simp
  · have := hv _ _ h; omega
  · have := hv _ _ he; omega
end ZL
