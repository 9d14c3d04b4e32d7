/-! HOW BOTH STAND between two calls. -/
theorem z_cmp (a : Int64) : lg_cmp a a = 0 := by
  unfold lg_cmp
  rw [if_neg (by simp), if_pos rfl]
/-- the line, both -/
def z_RL (x : q_W) : Prop := ∃ (n : Nat) (ch : Nat → Nat), (n ≤ 18 ∧ x.2 1 1 = zi n ∧ x.2 32 2 = zi n) ∧ ∀ i, i < n → x.2 2 i = zi (ch i) ∧ x.2 33 i = zi (ch i) ∧ 33 ≤ ch i ∧ ch i ≤ 126
/-- the word, both -/
def z_RW (x : q_W) : Prop := ∃ (n st lp : Nat) (le : Nat → Nat), z_Wd n st lp le x ∧ z_Wm n st lp le x ∧ ∀ i, n ≤ i → i < 16 → le i = 0
section ZR
variable {c s t : Nat} {pr : List Nat} {W : Nat → Nat} {kp op : Nat → Nat → Bool} {wh S : Nat → Bool} {F : Nat → Nat → Option Nat} {x y : q_W}
/-- the formula, both, and what the reference has found of it -/
def z_RM (c s t : Nat) (pr : List Nat) (W : Nat → Nat) (kp op : Nat → Nat → Bool) (wh S : Nat → Bool) (F : Nat → Nat → Option Nat) (x : q_W) : Prop := (z_ZF c s t pr x ∧ z_Ev c s t pr W kp op wh x) ∧ z_Lm' (8 * 2 ^ t) pr.length W kp op wh x ∧ (z_Ms t (8 * 2 ^ t) pr.length W kp op S x ∧ z_Gd (8 * 2 ^ t) pr.length W kp op S ∧ z_Up (8 * 2 ^ t) pr.length W kp op S) ∧ (∀ k, k < pr.length → z_St (8 * 2 ^ t) S (fun s => kp s k) W (F k)) ∧ z_Wo (8 * 2 ^ t) (z_wlk (8 * 2 ^ t) pr.length W kp op wh S F) (x.2 32 32) (x.2 32 33) (x.2 55)
/-- what the class has found of it -/
def z_RS (t : Nat) (pr : List Nat) (W : Nat → Nat) (kp op : Nat → Nat → Bool) (wh S : Nat → Bool) (F : Nat → Nat → Option Nat) (x : q_W) : Prop := z_Cs (8 * 2 ^ t) pr.length W kp op S x ∧ z_Wo (8 * 2 ^ t) (z_wlk (8 * 2 ^ t) pr.length W kp op wh S F) (x.2 11 2) (x.2 11 3) (x.2 12)
def z_RF (c : Nat) (x : q_W) : Prop := (x.2 0 6 = 0 ∧ x.2 32 3 = 0) ∨ (x.2 0 6 = 1 ∧ x.2 32 3 = 1 ∧ ∃ s t pr W kp op wh S F, z_RM c s t pr W kp op wh S F x ∧ (x.2 0 7 = 0 ∨ (x.2 0 7 = 1 ∧ z_RS t pr W kp op wh S F x)))
def z_Rel (c d : Nat) (x : q_W) : Prop := q_cd c d ∧ z_RL x ∧ z_RF c x ∧ z_RW x
/-- the formula's places: the class's at c, the reference's -/
def z_sm1 (c : Nat) (x y : q_W) : Prop := (∀ q, (c ≤ q ∧ q ≤ c + 6) ∨ (34 ≤ q ∧ q ≤ 39) ∨ (46 ≤ q ∧ q ≤ 49) ∨ q = 51 ∨ q = 55 → y.2 q = x.2 q) ∧ ∀ k, k = 3 ∨ k = 4 ∨ k = 9 ∨ k = 11 ∨ k = 32 ∨ k = 33 → y.2 32 k = x.2 32 k
theorem z_RM_same (h : z_RM c s t pr W kp op wh S F x) (g : z_sm1 c x y) : z_RM c s t pr W kp op wh S F y := by
  obtain ⟨⟨h1, h2⟩, h3, ⟨h4, h5, h6⟩, h7, h8⟩ := h
  obtain ⟨g1, g2⟩ := g
  refine ⟨⟨z_ZF_same h1 ?_ (fun q a b => g1 q (by omega)) (fun q a b => g1 q (by omega)) ⟨g2 4 (by omega), g2 9 (by omega), g2 11 (by omega)⟩, z_Ev_same h2 (fun q a b => g1 q (by omega)) (fun q a b => g1 q (by omega))⟩, ?_, ⟨z_Ms_same' h4 (fun q hq => g1 q (by omega)) ⟨g2 9 (by omega), g2 11 (by omega)⟩, h5, h6⟩, h7, ?_⟩
  · rw [g1 c (by omega)]; exact ⟨rfl, rfl, rfl⟩
  · unfold z_Lm'
    rw [g1 46 (by omega), g1 47 (by omega), g1 48 (by omega), g1 49 (by omega)]
    exact h3
  · rw [g2 32 (by omega), g2 33 (by omega), g1 55 (by omega)]
    exact h8
theorem z_RS_same (h : z_RS t pr W kp op wh S F x) (g : ∀ q, 3 ≤ q ∧ q ≤ 12 → y.2 q = x.2 q) : z_RS t pr W kp op wh S F y := by
  obtain ⟨⟨⟨a, b, h8, h5, h4⟩, h6, h9⟩, h2⟩ := h
  refine ⟨⟨⟨a, ?_, ?_, ?_, ?_⟩, ?_, ?_⟩, ?_⟩
  · rw [g 3 (by omega)]; exact b
  · rw [g 8 (by omega)]; exact h8
  · rw [g 5 (by omega)]; exact h5
  · rw [g 4 (by omega)]; exact h4
  · rw [g 6 (by omega)]; exact h6
  · rw [g 3 (by omega)]; exact h9
  · rw [g 11 (by omega), g 12 (by omega)]; exact h2
theorem z_RF_same (h : z_RF c x) (g : z_sm1 c x y) (g0 : y.2 0 6 = x.2 0 6 ∧ y.2 0 7 = x.2 0 7) (g3 : ∀ q, 3 ≤ q ∧ q ≤ 12 → y.2 q = x.2 q) : z_RF c y := by
  rcases h with ⟨h1, h2⟩ | ⟨h1, h2, s, t, pr, W, kp, op, wh, S, F, h3, h4⟩
  · exact Or.inl ⟨by rw [g0.1]; exact h1, by rw [g.2 3 (by omega)]; exact h2⟩
  · refine Or.inr ⟨by rw [g0.1]; exact h1, by rw [g.2 3 (by omega)]; exact h2, s, t, pr, W, kp, op, wh, S, F, z_RM_same h3 g, ?_⟩
    rcases h4 with h4 | ⟨h4, h5⟩
    · exact Or.inl (by rw [g0.2]; exact h4)
    · exact Or.inr ⟨by rw [g0.2]; exact h4, z_RS_same h5 g3⟩
theorem z_RL_same (h : z_RL x) (h1 : y.2 1 1 = x.2 1 1) (h2 : y.2 2 = x.2 2) (h3 : y.2 33 = x.2 33) (h4 : y.2 32 2 = x.2 32 2) : z_RL y := by
  unfold z_RL
  rw [h1, h2, h3, h4]
  exact h
theorem z_RW_same (h : z_RW x) (h1 : y.2 14 1 = x.2 14 1 ∧ y.2 14 2 = x.2 14 2) (h2 : y.2 15 = x.2 15) (h3 : y.2 57 = x.2 57) (h4 : y.2 32 36 = x.2 32 36 ∧ y.2 32 37 = x.2 32 37) : z_RW y := by
  unfold z_RW z_Wd z_Wm
  rw [h1.1, h1.2, h2, h3, h4.1, h4.2]
  exact h
/-- only what was thrown is written anew -/
theorem z_Rel_thr {d : Nat} {v : Int32} (h : z_Rel c d x) : z_Rel c d (q_wr x 32 0 v) := by
  obtain ⟨h0, h1, h2, h3⟩ := h
  have e : ∀ q, q ≠ 32 → (q_wr x 32 0 v).2 q = x.2 q := fun q hq => z_wrp hq
  have e2 : ∀ k, k ≠ 0 → (q_wr x 32 0 v).2 32 k = x.2 32 k := fun k hk => z_wr2 (Or.inr hk)
  have hc : c = 16 ∨ c = 24 := by rcases h0 with h | h <;> omega
  refine ⟨h0, z_RL_same h1 (by rw [e 1 (by omega)]) (e 2 (by omega)) (e 33 (by omega)) (e2 2 (by omega)), z_RF_same h2 ⟨fun q hq => e q (by omega), fun k hk => e2 k (by omega)⟩ (by rw [e 0 (by omega)]; exact ⟨rfl, rfl⟩) (fun q hq => e q (by omega)), z_RW_same h3 (by rw [e 14 (by omega)]; exact ⟨rfl, rfl⟩) (e 15 (by omega)) (e 57 (by omega)) ⟨e2 36 (by omega), e2 37 (by omega)⟩⟩
theorem z_Rel_ans {d : Nat} {a : Int64} (h : z_Rel c d x) : z_Rel c d (a, x.2) := h
/-- the class settles what it has put off -/
theorem z_settled {d : Nat} (hc : c = 16 ∨ c = 24) (h6 : x.2 0 6 = 1) (hM : z_RM c s t pr W kp op wh S F x) (hS : x.2 0 7 = 0 ∨ (x.2 0 7 = 1 ∧ z_RS t pr W kp op wh S F x)) : z_ok (f_D_settle c d x) (fun y => z_only (fun q => q = 0 ∨ (3 ≤ q ∧ q ≤ 13)) x y ∧ y.2 0 6 = 1 ∧ y.2 0 7 = 1 ∧ z_RS t pr W kp op wh S F y) := by
  unfold f_D_settle
  rcases hS with h7 | ⟨h7, hS⟩
  · rw [h7]
    refine z_ok.neg (fun h => h rfl) ?_
    obtain ⟨⟨hZ, hE⟩, hL, ⟨hMs, hG, hU⟩, hF, hW⟩ := id hM
    have hp2 := z_p2 t hZ.1.2.2.1
    obtain ⟨a, a1, a2, ⟨a3, a4, a5⟩, a6, a7⟩ := z_las hc hZ hE
    have hCs : z_Cs (8 * 2 ^ t) pr.length W kp op (fun _ => true) a := by
      refine ⟨⟨⟨by omega, by have := hZ.1; omega, hMs.1.1.2.2.2⟩, ⟨a3, a4⟩, fun s hs => a7 s hs, fun s hs => (a6 s hs).2.1, fun s hs => (a6 s hs).1⟩, fun s hs => (a6 s hs).2.2.1, ?_⟩
      rw [a5]
      have : ∀ n, z_cd (fun _ => true) n = n := fun n => by
        induction n with
        | zero => rfl
        | succ n ih => simp [z_cd, ih]
      rw [this]
    have hcd := z_cd_le (fun _ => true) (8 * 2 ^ t)
    obtain ⟨b, b1, b2, S', F', b3, b4, b5, b6⟩ := z_findL (c := c) q_fu 0 a (fun _ => true) (by omega) (by simp only [q_fu]; omega) hCs (fun G _ s _ _ => rfl)
    have e1 : f_La_find c x = some b := by
      unfold f_La_find
      rw [a1]
      exact b1
    rw [e1]
    simp only [Option.bind_some]
    have hSS : ∀ s, s < 8 * 2 ^ t → S' s = S s := fun s hs => z_Gd_eq b4 b5 hG hU hs
    have hFF : ∀ k, k < pr.length → ∀ s, s < 8 * 2 ^ t → F' k s = F k s := fun k hk s hs => z_St_eq (z_St_congr (b6 k hk).1 hSS) (hF k hk) hs
    have hXb : z_Wx (8 * 2 ^ t) pr.length W kp op wh S' F' b := ⟨b3, fun s hs => by rw [b2.2 7 (by omega)]; exact (a6 s hs).2.2.2, b6, b4⟩
    obtain ⟨e, e2, e3, e4⟩ := z_goc hXb
    rw [e2]
    simp only [Option.bind_some, q_let]
    have oe : z_only (fun q => q = 0 ∨ (3 ≤ q ∧ q ≤ 13)) x e := z_only_tr (z_only_mono a2 (fun q hq => by omega)) (z_only_tr (z_only_mono b2 (fun q hq => by omega)) (z_only_mono e3 (fun q hq => by omega)))
    have hx0 : ∀ q, q < 3 → e.2 q = x.2 q := fun q hq => (e3.2 q (by omega)).trans ((b2.2 q (by omega)).trans (a2.2 q (by omega)))
    refine z_ok.some ⟨z_only_tr oe (z_only_wr (by omega)), ?_, z_wr1, ?_⟩
    · rw [z_wr2 (Or.inr (by omega)), hx0 0 (by omega)]; exact h6
    · refine z_RS_same (x := e) ⟨z_Cs_congr (z_Wx_same hXb (fun q h1 h2 => e3.2 q (by omega))).1 hSS, ?_⟩ (fun q hq => z_wrp (by omega))
      rw [← z_wlk_congr hSS hFF]
      exact e4
  · rw [h7]
    exact z_ok.pos z_10 (z_ok.some ⟨z_only_rf, h6, h7, hS⟩)
end ZR
