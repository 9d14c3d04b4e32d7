/-! THE TWO FORMULAS READ: the class's. -/
def z_pl (g : Nat → Bool) (i : Nat) : List Nat := (List.range i).filter g
theorem z_pl_succ (g : Nat → Bool) (i : Nat) : z_pl g (i + 1) = z_pl g i ++ (if g i then [i] else []) := by
  unfold z_pl
  rw [List.range_succ, List.filter_append]
  congr 1
  by_cases h : g i = true
  · simp [h]
  · simp [h]
theorem z_pl_len (g : Nat → Bool) (i : Nat) : (z_pl g i).length ≤ i := by
  have := List.length_filter_le g (List.range i)
  rw [List.length_range] at this
  exact this
theorem z_pl_mem {g : Nat → Bool} {i k : Nat} (h : k < (z_pl g i).length) : (z_pl g i).getD k 0 < i ∧ g ((z_pl g i).getD k 0) = true := by
  have e : (z_pl g i).getD k 0 = (z_pl g i)[k] := by simp [List.getD, h]
  have := List.getElem_mem h
  rw [← e] at this
  unfold z_pl at this
  rw [List.mem_filter, List.mem_range] at this
  exact this
/-- which temporal parts the class lists as promised -/
def z_g (f : Nat) (x : q_W) (i : Nat) : Bool := decide (¬ x.2 (f + 1) (x.2 (f + 5) i).toNatClampNeg = 88)
def z_Lp (f : Nat) (x y : q_W) : Prop := y.1 = x.1 ∧ (∀ q, q ≠ f → q ≠ f + 6 → y.2 q = x.2 q) ∧ (∀ k, k ≠ 9 → y.2 f k = x.2 f k)
theorem z_list_L {f t : Nat} {g : Nat → Bool} (ht : t ≤ 5) : ∀ (k i : Nat) (x : q_W), i ≤ t → t < i + k → x.2 f 8 = zi t → (∀ i, i < t → ∃ j, x.2 (f + 5) i = zi j ∧ j < 18) → (∀ i, g i = z_g f x i) → x.2 f 9 = zi (z_pl g i).length → (∀ k, k < (z_pl g i).length → x.2 (f + 6) k = x.2 (f + 5) ((z_pl g i).getD k 0)) → z_ok (f_Fo_listPromises_L7 f k x (zi i)) (fun y => z_Lp f x y ∧ y.2 f 9 = zi (z_pl g t).length ∧ ∀ k, k < (z_pl g t).length → y.2 (f + 6) k = y.2 (f + 5) ((z_pl g t).getD k 0)) := by
  intro k
  induction k with
  | zero => intro i x h1 h2; omega
  | succ k ih =>
    intro i x h1 h2 h8 hj hg h9 hl
    simp only [f_Fo_listPromises_L7]
    by_cases hit : i = t
    · subst hit
      refine z_ok.pos (by rw [h8, zi_le (by omega) (by omega)]; omega) (z_ok.some ⟨⟨rfl, fun _ _ _ => rfl, fun _ _ => rfl⟩, h9, hl⟩)
    · refine z_ok.neg (by rw [h8, zi_le (by omega) (by omega)]; omega) (z_ok.neg (by rw [show (5 : Int32) = zi 5 from rfl, zi_le (by omega) (by omega)]; omega) ?_)
      obtain ⟨j, hj1, hj2⟩ := hj i (by omega)
      rw [z_ld (show i < 5 by omega) (by omega), hj1]
      simp only [Option.bind_some]
      rw [z_ld hj2 (by omega)]
      simp only [Option.bind_some]
      have hgi : g i = decide (¬ x.2 (f + 1) j = 88) := by rw [hg i, z_g, hj1, zi_nat (by omega)]
      have hlen := z_pl_len g i
      refine z_ok.ite (fun hc => ?_) (fun hc => ?_)
      · have hgf : g i = false := by rw [hgi]; simp [hc]
        have e : z_pl g (i + 1) = z_pl g i := by rw [z_pl_succ, hgf]; simp
        rw [zi_succ]
        exact ih (i + 1) x (by omega) (by omega) h8 hj hg (by rw [e]; exact h9) (by rw [e]; exact hl)
      · have hgt : g i = true := by rw [hgi]; simp [hc]
        have e : z_pl g (i + 1) = z_pl g i ++ [i] := by rw [z_pl_succ, hgt]; simp
        rw [h9, z_sto (show (z_pl g i).length < 5 by omega) (by omega)]
        simp only [Option.bind_some, q_let, zi_succ]
        have e9 : (q_wr x (f + 6) (z_pl g i).length (zi j)).2 f 9 = zi (z_pl g i).length := (z_wr2 (Or.inl (by omega))).trans h9
        rw [e9, zi_succ]
        generalize hy : q_wr (q_wr x (f + 6) (z_pl g i).length (zi j)) f 9 (zi ((z_pl g i).length + 1)) = y
        have y1 : ∀ q, q ≠ f → q ≠ f + 6 → y.2 q = x.2 q := fun q q1 q2 => by rw [← hy, z_wrp q1, z_wrp q2]
        have y2 : ∀ k, k ≠ 9 → y.2 f k = x.2 f k := fun k hk => by rw [← hy, z_wr2 (Or.inr hk), z_wrp (by omega)]
        have y0 : y.1 = x.1 := by rw [← hy]; rfl
        refine z_ok.mono (ih (i + 1) y (by omega) (by omega) ((y2 8 (by omega)).trans h8) (fun i hi => by rw [y1 _ (by omega) (by omega)]; exact hj i hi) (fun i => by rw [hg i, z_g, z_g, y1 _ (by omega) (by omega), y1 _ (by omega) (by omega)]) ?_ ?_) ?_
        · rw [e, ← hy, z_wr1]; simp
        · intro k hk
          rw [e] at hk ⊢
          rw [y1 (f + 5) (by omega) (by omega), ← hy, z_wrp (by omega)]
          rw [List.length_append] at hk
          simp only [List.length_cons, List.length_nil] at hk
          by_cases hkk : k = (z_pl g i).length
          · subst hkk
            rw [z_wr1]
            simp [List.getD, hj1]
          · rw [z_wr2 (Or.inr hkk), hl k (by omega)]
            simp [List.getD, List.getElem?_append_left (show k < (z_pl g i).length by omega)]
        · rintro r ⟨⟨r0, r1, r2⟩, r3, r4⟩
          exact ⟨⟨r0.trans y0, fun q q1 q2 => (r1 q q1 q2).trans (y1 q q1 q2), fun k hk => (r2 k hk).trans (y2 k hk)⟩, r3, r4⟩
theorem z_list {f t : Nat} {x : q_W} (ht : t ≤ 5) (h8 : x.2 f 8 = zi t) (hj : ∀ i, i < t → ∃ j, x.2 (f + 5) i = zi j ∧ j < 18) : z_ok (f_Fo_listPromises f x) (fun y => z_Lp f x y ∧ y.2 f 9 = zi (z_pl (z_g f x) t).length ∧ ∀ k, k < (z_pl (z_g f x) t).length → y.2 (f + 6) k = y.2 (f + 5) ((z_pl (z_g f x) t).getD k 0)) := by
  unfold f_Fo_listPromises
  refine z_ok.let ?_
  generalize hy : q_wr x f 9 0 = y
  have y1 : ∀ q, q ≠ f → y.2 q = x.2 q := fun q q1 => by rw [← hy, z_wrp q1]
  have y2 : ∀ k, k ≠ 9 → y.2 f k = x.2 f k := fun k hk => by rw [← hy, z_wr2 (Or.inr hk)]
  refine z_ok.mono (z_list_L (g := z_g f x) ht q_fu 0 y (by omega) (by simp only [q_fu]; omega) ((y2 8 (by omega)).trans h8) (fun i hi => by rw [y1 _ (by omega)]; exact hj i hi) (fun i => by rw [z_g, z_g, y1 _ (by omega), y1 _ (by omega)]) (by rw [← hy, z_wr1]; rfl) (fun k hk => by simp [z_pl] at hk)) ?_
  rintro r ⟨⟨r0, r1, r2⟩, r3, r4⟩
  exact ⟨⟨r0.trans (by rw [← hy]; rfl), fun q q1 q2 => (r1 q q1 q2).trans (y1 q q1), fun k hk => (r2 k hk).trans (y2 k hk)⟩, r3, r4⟩
section ZF
variable {D : Type} (A : z_A D) (n : Nat) (ch : Nat → Nat)
def z_Acc (d : z_LD D) : Prop := z_tb (z_tk n ch) n ≤ 5 ∧ z_pd (z_lg A) (z_tk n ch) (z_tb (z_tk n ch)) 70 0 0 0 0 = some (some d, n)
/-- the class's formula at f, read: s parts, t of them temporal -/
def z_CA (f s t : Nat) (v : Nat → z_LD D) (y : q_W) : Prop := 1 ≤ s ∧ s ≤ 18 ∧ y.2 f 7 = zi s ∧ y.2 f 8 = zi t ∧ (∀ i, i < s → z_nd (z_lg A) f v y i) ∧ (∀ i, i < t → ∃ e, (v (s - 1)).2 i = some e ∧ z_tp f v y s i e)
def z_Fi (f : Nat) (x y : q_W) : Prop := y.1 = x.1 ∧ (∀ q, q ≠ 1 → (q < f ∨ f + 6 < q) → y.2 q = x.2 q) ∧ (∀ k, k ≠ 2 → y.2 1 k = x.2 1 k)
def z_In (f : Nat) (x : q_W) (r : Int32 × q_W) : Prop := z_Fi f x r.2 ∧ ((r.1 = 1 ∧ ∃ v, z_Acc A n ch (v (z_nc (z_tk n ch) n - 1)) ∧ z_CA A f (z_nc (z_tk n ch) n) (z_tb (z_tk n ch) n) v r.2 ∧ r.2.2 f 9 = zi (z_pl (z_g f r.2) (z_tb (z_tk n ch) n)).length ∧ ∀ k, k < (z_pl (z_g f r.2) (z_tb (z_tk n ch) n)).length → r.2.2 (f + 6) k = r.2.2 (f + 5) ((z_pl (z_g f r.2) (z_tb (z_tk n ch) n)).getD k 0)) ∨ (r.1 = 0 ∧ ∀ d, ¬ z_Acc A n ch d))
variable {A n ch}
theorem z_into {f : Nat} {x : q_W} (hf : 3 ≤ f) (hL : z_Ln n ch x) : z_ok (f_Li_readInto f x) (z_In A n ch f x) := by
  have hn := hL.1
  unfold f_Li_readInto f_Fo_clear
  simp only [q_let, Option.bind_some]
  generalize hx0 : q_wr (q_wr (q_wr (q_wr x f 7 0) f 8 0) f 9 0) 1 2 0 = x0
  have x01 : ∀ q, q ≠ 1 → q ≠ f → x0.2 q = x.2 q := fun q q1 q2 => by rw [← hx0, z_wrp q1, z_wrp q2, z_wrp q2, z_wrp q2]
  have x02 : ∀ k, k ≠ 2 → x0.2 1 k = x.2 1 k := fun k hk => by rw [← hx0, z_wr2 (Or.inr hk), z_wrp (by omega), z_wrp (by omega), z_wrp (by omega)]
  have x00 : x0.1 = x.1 := by rw [← hx0]; rfl
  have hL0 : z_Ln n ch x0 := ⟨hn, (x02 1 (by omega)).trans hL.2.1, by rw [x01 2 (by omega) (by omega)]; exact hL.2.2⟩
  have h12 : x0.2 1 2 = zi 0 := by rw [← hx0, z_wr1]; rfl
  have hf7 : x0.2 f 7 = zi 0 := by rw [← hx0, z_wr2 (Or.inl (by omega)), z_wr2 (Or.inr (by omega)), z_wr2 (Or.inr (by omega)), z_wr1]; rfl
  have hf8 : x0.2 f 8 = zi 0 := by rw [← hx0, z_wr2 (Or.inl (by omega)), z_wr2 (Or.inr (by omega)), z_wr1]; rfl
  have hF0 : z_Fi f x x0 := ⟨x00, fun q q1 q2 => x01 q q1 (by omega), x02⟩
  rw [hL0.2.1, z_tbf hL0 (by omega)]
  simp only [Option.bind_some]
  have htn := z_tb_le (z_tk n ch) n
  refine z_ok.ite (fun h5 => ?_) (fun h5 => ?_)
  · have h5 : z_tb (z_tk n ch) n ≤ 5 := (zi_le (m := 5) (by omega) (by omega)).mp h5
    have hrd := z_read (A := A) (f := f) hf h5 70 0 0 0 0 0 0 (fun _ => (A.1 0, fun _ => none)) x0
    simp only [if_true] at hrd
    have hP : z_Pr A n ch f 0 0 0 (fun _ => (A.1 0, fun _ => none)) x0 := ⟨hL0, h12, hf7, hf8, by omega, fun i hi => by omega⟩
    have hrd := hrd (by omega) (by omega) (by omega) (by omega) (by simp only [z_me]; simp; omega) hP
    have e00 : f_read f 70 0 0 0 x0 = f_read f 70 0 (zi 0) (zi 0) x0 := rfl
    rw [e00]
    refine z_ok.bind hrd (fun r hr => ?_)
    obtain ⟨⟨r0, r1, r2⟩, p', hat, hp', hr⟩ := hr
    have hFr : z_Fi f x r.2 := ⟨r0.trans x00, fun q q1 q2 => (r1 q q1 (by omega)).trans (x01 q q1 (by omega)), fun k hk => (r2 k hk).trans (x02 k hk)⟩
    rcases hr with ⟨hm1, hpd⟩ | ⟨root, s', t', v', hroot, hpd, hsu⟩
    · refine z_ok.pos hm1 (z_ok.some ⟨hFr, Or.inr ⟨rfl, fun d hd => ?_⟩⟩)
      have := hd.2
      rw [hpd] at this
      cases this
    · obtain ⟨⟨a1, a2, a3, a4, a5, a6⟩, ⟨b1, b2⟩, c1, c2, c3, c4, c5, c6⟩ := hsu
      have hs' : s' = z_nc (z_tk n ch) p' := by simp only [z_nc] at a5; omega
      have ht' : t' = z_tb (z_tk n ch) p' := by simp only [z_tb] at a6; omega
      have hncn := z_nc_le (z_tk n ch) p'
      refine z_ok.neg (by rw [hroot]; exact zi_m1 (by omega)) ?_
      have h11 : r.2.2 1 1 = zi n := (r2 1 (by omega)).trans hL0.2.1
      refine z_ok.ite (fun he => ?_) (fun he => ?_)
      · rw [hat, h11] at he
        have he := (zi_eq (by omega) (by omega)).mp he
        subst he
        have hroot' : s' - 1 = root := by omega
        refine z_ok.bind (z_list (f := f) (t := t') (by omega) b2 (fun i hi => ?_)) (fun y hy => ?_)
        · obtain ⟨e, e1, j, sg, lf, rt, g1, g2, -⟩ := c5 i (by simp [z_tb]) (by omega)
          exact ⟨j, g1, by omega⟩
        · obtain ⟨⟨y0, y1, y2⟩, y3, y4⟩ := hy
          have hg : z_g f y = z_g f r.2 := by funext i; simp only [z_g]; rw [y1 _ (by omega) (by omega), y1 _ (by omega) (by omega)]
          refine z_ok.some ⟨⟨y0.trans hFr.1, fun q q1 q2 => (y1 q (by omega) (by omega)).trans (hFr.2.1 q q1 q2), fun k hk => by rw [y1 1 (by omega) (by omega)]; exact hFr.2.2 k hk⟩, Or.inl ⟨rfl, v', ?_, ?_, ?_⟩⟩
          · rw [← hs', hroot']
            exact ⟨h5, hpd⟩
          · rw [← hs', ← ht']
            have s4 : ∀ j, y.2 (f + 1) j = r.2.2 (f + 1) j ∧ y.2 (f + 2) j = r.2.2 (f + 2) j ∧ y.2 (f + 3) j = r.2.2 (f + 3) j ∧ y.2 (f + 4) j = r.2.2 (f + 4) j := fun j => ⟨by rw [y1 _ (by omega) (by omega)], by rw [y1 _ (by omega) (by omega)], by rw [y1 _ (by omega) (by omega)], by rw [y1 _ (by omega) (by omega)]⟩
            refine ⟨by omega, by omega, (y2 7 (by omega)).trans b1, (y2 8 (by omega)).trans b2, fun i hi => z_nd_same (c3 i hi) (s4 i) (fun _ _ => rfl), fun i hi => ?_⟩
            obtain ⟨e, e1, e2⟩ := c5 i (by simp [z_tb]) (by omega)
            rw [hroot']
            exact ⟨e, e1, z_tp_same e2 (Nat.le_refl _) (by rw [y1 _ (by omega) (by omega)]) (fun j _ => s4 j) (fun _ _ => rfl)⟩
          · rw [hg, ← ht']
            exact ⟨y3, y4⟩
      · refine z_ok.some ⟨hFr, Or.inr ⟨rfl, fun d hd => he ?_⟩⟩
        have := hd.2
        rw [hpd] at this
        cases this
        rw [hat, h11]
  · refine z_ok.some ⟨hF0, Or.inr ⟨rfl, fun d hd => h5 ?_⟩⟩
    exact (zi_le (m := 5) (by omega) (by omega)).mpr hd.1
end ZF
