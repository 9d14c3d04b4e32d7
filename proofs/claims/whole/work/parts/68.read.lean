/-! THE CLASS'S READING BY DESCENT IS z_pd: by induction over the calls that stand at once. -/
section ZR
variable {D : Type} {A : z_A D} {n : Nat} {ch : Nat → Nat} {f : Nat}
/-- what a call of the reading may count upon -/
def z_Pr (A : z_A D) (n : Nat) (ch : Nat → Nat) (f p s t : Nat) (v : Nat → z_LD D) (x : q_W) : Prop := z_Ln n ch x ∧ x.2 1 2 = zi p ∧ x.2 f 7 = zi s ∧ x.2 f 8 = zi t ∧ s ≤ p ∧ ∀ i, i < s → z_nd (z_lg A) f v x i
theorem z_Pr_at {p s t p' : Nat} {v : Nat → z_LD D} {x : q_W} (hf : 3 ≤ f) (h : z_Pr A n ch f p s t v x) (hp : p ≤ p') : z_Pr A n ch f p' s t v (q_wr x 1 2 (zi p')) := by
  obtain ⟨h1, h2, h3, h4, h5, h6⟩ := h
  refine ⟨z_Fr_ln z_Fr_at hf h1, z_wr1, (z_wr2 (Or.inl (by omega))).trans h3, (z_wr2 (Or.inl (by omega))).trans h4, by omega, fun i hi => ?_⟩
  refine z_nd_same (h6 i hi) ⟨?_, ?_, ?_, ?_⟩ (fun _ _ => rfl) <;> rw [z_wrp (by omega)]
theorem z_Su_pr {p s t p' s' t' root : Nat} {v v' : Nat → z_LD D} {x y : q_W} (hf : 3 ≤ f) (h : z_Pr A n ch f p s t v x) (hfr : z_Fr f x y) (hat : y.2 1 2 = zi p') (hsu : z_Su A (z_tk n ch) n f p s t v x p' s' t' v' y root) : z_Pr A n ch f p' s' t' v' y := by
  obtain ⟨h1, h2, h3, h4, h5, h6⟩ := h
  obtain ⟨⟨a1, a2, a3, a4, a5, a6⟩, ⟨b1, b2⟩, c1, c2, c3, -⟩ := hsu
  have n1 := z_nc_d (tok := z_tk n ch) (show p ≤ p' by omega)
  exact ⟨z_Fr_ln hfr hf h1, hat, b1, b2, by omega, c3⟩
set_option maxHeartbeats 4000000 in
theorem z_read (hf : 3 ≤ f) (h5 : z_tb (z_tk n ch) n ≤ 5) : ∀ (k tag L b p s t : Nat) (v : Nat → z_LD D) (x : q_W), tag ≤ 2 → L ≤ 4 → b ≤ 4 → p ≤ n → z_me n tag L b p < k → z_Pr A n ch f p s t v x → z_ok (f_read f k tag (if tag = 0 then zi L else zi b) (if tag = 0 then zi b else 0) x) (z_Rd A n ch f k tag L b p s t v x) := by
  intro k
  induction k with
  | zero => intro tag L b p s t v x _ _ _ _ h; omega
  | succ k ih =>
    intro tag L b p s t v x hT hL4 hb4 hpn hm hPr
    have hn18 := hPr.1.1
    match tag, hT, hm with
    | 0, _, hm =>
      simp only [f_read, if_true]
      unfold f_Li_readLevel
      by_cases h4 : 4 ≤ L
      · obtain rfl : L = 4 := by omega
        refine z_ok.neg (by rw [show (4 : Int32) = zi 4 from rfl, zi_lt (by omega) (by omega)]; omega) ?_
        refine z_ok.bind (ih 1 0 b p s t v x (by omega) (by omega) hb4 hpn (by simp only [z_me] at hm ⊢; simp at hm ⊢; omega) hPr) (fun r hr => z_ok.some ?_)
        obtain ⟨r1, p', r2, r3, r4⟩ := hr
        refine ⟨r1, p', r2, r3, ?_⟩
        rcases r4 with ⟨r4, r5⟩ | ⟨root, s', t', v', r4, r5, r6⟩
        · exact Or.inl ⟨r4, by simpa [z_pd] using r5⟩
        · exact Or.inr ⟨root, s', t', v', r4, by simpa [z_pd] using r5, r6⟩
      · have hL' : L < 4 := by omega
        refine z_ok.pos (by rw [show (4 : Int32) = zi 4 from rfl, zi_lt (by omega) (by omega)]; exact hL') ?_
        rw [zi_succ]
        refine z_ok.bind (ih 0 (L + 1) b p s t v x (by omega) (by omega) hb4 hpn (by simp only [z_me] at hm ⊢; simp at hm ⊢; omega) hPr) (fun r hr => ?_)
        obtain ⟨r1, p', r2, r3, r4⟩ := hr
        have hLn' := z_Fr_ln r1 hf hPr.1
        refine z_ok.to (by rw [r2]; exact z_sign hLn' (by omega)) ?_
        rcases r4 with ⟨r4, r5⟩ | ⟨root, s', t', v', r4, r5, r6⟩
        · refine z_ok.pos r4 (z_ok.some ⟨r1, p', r2, r3, Or.inl ⟨r4, ?_⟩⟩)
          simp only [z_pd, h4, if_false, r5, Option.bind_some]
        · have hp' := r6.1.2.1
          have hpp := r6.1.1
          have hroot := r6.1.2.2.1
          have hs' : s' ≤ p' := (z_Su_pr hf hPr r1 r2 r6).2.2.2.2.1
          refine z_ok.neg (by rw [r4]; exact zi_m1 (by omega)) ?_
          have htk := z_tk_le hPr.1 p'
          obtain ⟨w, w1, w2⟩ := z_join (x := r.2) (c := z_tk n ch p') (L := L) (by omega) hL'
          refine z_ok.to w1 ?_
          by_cases hj : z_jn (z_tk n ch p') = L
          · refine z_ok.pos (w2.mpr hj) ?_
            have hqn := z_tk_lt (z_jn_T (c := z_tk n ch p') (by omega)).2.2.2
            refine z_ok.to (by rw [r2]; exact z_tbf hLn' (by omega)) (z_ok.let ?_)
            rw [r2, zi_succ]
            have hPr2 : z_Pr A n ch f (p' + 1) s' t' v' (q_wr r.2 1 2 (zi (p' + 1))) := z_Pr_at hf (z_Su_pr hf hPr r1 r2 r6) (by omega)
            refine z_ok.bind (ih 0 L b (p' + 1) s' t' v' _ (by omega) (by omega) hb4 (by omega) (by simp only [z_me] at hm ⊢; simp at hm ⊢; omega) hPr2) (fun r' hr' => ?_)
            obtain ⟨q1, p'', q2, q3, q4⟩ := hr'
            rcases q4 with ⟨q4, q5⟩ | ⟨root', s'', t'', v'', q4, q5, q6⟩
            · refine z_ok.neg (fun h => h q4) (z_ok.some ⟨z_Fr_tr r1 (z_Fr_tr z_Fr_at q1), p'', q2, q3, Or.inl ⟨rfl, ?_⟩⟩)
              simp only [z_pd, h4, if_false, r5, Option.bind_some, hj, if_true, q5]
            · refine z_ok.pos ?_ ?_
              · rw [q4]
                have := (z_Su_pr hf hPr2 q1 q2 q6).2.2.2.2.1
                have := q6.1.2.2.1
                exact zi_m1 (by omega)
              · rw [r4, q4]
                exact z_Rd_join hf hPr.1 h5 hPr.2.2.2.2.1 hL' hj r1 r5 r6 q1 q2 q5 q6
          · refine z_ok.neg (fun h => hj (w2.mp h)) (z_ok.some ⟨r1, p', r2, r3, Or.inr ⟨root, s', t', v', r4, ?_, r6⟩⟩)
            simp only [z_pd, h4, if_false, r5, Option.bind_some, hj]
    | 1, _, hm =>
      simp only [f_read, show ¬ (1 = 0) by decide, if_false]
      rw [z_simple _ hPr.1 hPr.2.1 (by omega)]
      by_cases hle : z_leaf (z_tk n ch p) = true
      · refine z_ok.pos hle ?_
        unfold f_Li_readSimple_J120
        exact z_Rd_leaf hf hPr.1 hPr.2.1 hPr.2.2.1 hPr.2.2.2.1 hPr.2.2.2.2.1 hPr.2.2.2.2.2 hle
      · refine z_ok.neg hle ?_
        have hPr1 : z_Pr A n ch f (p + 1) s t v (q_wr x 1 2 (zi (p + 1))) := z_Pr_at hf hPr (by omega)
        by_cases hpr : z_pre (z_tk n ch p) = true
        · refine z_ok.pos hpr ?_
          unfold f_Li_readSimple_J130
          have hlt := z_tk_lt (z_pr_T hpr).2.2.2
          refine z_ok.bind (ih 1 0 b (p + 1) s t v _ (by omega) (by omega) hb4 (by omega) (by simp only [z_me] at hm ⊢; simp at hm ⊢; omega) hPr1) (fun r hr => ?_)
          obtain ⟨r1, p', r2, r3, r4⟩ := hr
          rcases r4 with ⟨r4, r5⟩ | ⟨root, s', t', v', r4, r5, r6⟩
          · refine z_ok.neg (fun h => h r4) (z_ok.some ⟨z_Fr_tr z_Fr_at r1, p', r2, r3, Or.inl ⟨rfl, ?_⟩⟩)
            simp only [z_pd, hle, hpr, if_true, r5, Option.bind_some]
            simp
          · refine z_ok.pos ?_ ?_
            · rw [r4]
              have := (z_Su_pr hf hPr1 r1 r2 r6).2.2.2.2.1
              have := r6.1.2.2.1
              have := r6.1.2.1
              exact zi_m1 (by omega)
            · rw [r4]
              exact z_Rd_pre hf hPr.1 h5 hPr.2.2.2.2.1 hpr hle r1 r2 r5 r6
        · refine z_ok.neg hpr ?_
          by_cases h40 : z_tk n ch p = 40
          · refine z_ok.pos h40 ?_
            have hlt := z_tk_lt (p := p) (n := n) (ch := ch) (by omega)
            by_cases hb : 4 ≤ b
            · refine z_ok.neg (by rw [show (4 : Int32) = zi 4 from rfl, zi_lt (by omega) (by omega)]; omega) (z_ok.some ⟨z_Fr_at, p + 1, z_wr1, by omega, Or.inl ⟨rfl, ?_⟩⟩)
              simp only [z_pd, hle, hpr, h40, if_true, if_pos hb]
              simp [z_leaf, z_pre]
            · refine z_ok.pos (by rw [show (4 : Int32) = zi 4 from rfl, zi_lt (by omega) (by omega)]; omega) ?_
              rw [zi_succ]
              refine z_ok.bind (ih 2 0 (b + 1) (p + 1) s t v _ (by omega) (by omega) (by omega) (by omega) (by simp only [z_me] at hm ⊢; simp at hm ⊢; omega) hPr1) (fun r hr => z_ok.some ?_)
              obtain ⟨r1, p', r2, r3, r4⟩ := hr
              have hz : z_pd (z_lg A) (z_tk n ch) (z_tb (z_tk n ch)) (k + 1) 1 L b p = z_pd (z_lg A) (z_tk n ch) (z_tb (z_tk n ch)) k 2 0 (b + 1) (p + 1) := by
                simp only [z_pd, hle, hpr, h40, if_true, if_neg hb]
                simp [z_leaf, z_pre]
              refine ⟨z_Fr_tr z_Fr_at r1, p', r2, r3, ?_⟩
              rcases r4 with ⟨r4, r5⟩ | ⟨root, s', t', v', r4, r5, r6⟩
              · exact Or.inl ⟨r4, hz.trans r5⟩
              · exact Or.inr ⟨root, s', t', v', r4, hz.trans r5, z_Su_l (z_Su_w r6 hf (fun q hq => (z_wrp (by omega)).symm) (fun q _ => rfl)) h40⟩
          · refine z_ok.neg h40 (z_ok.some ⟨z_Fr_at, p + 1, z_wr1, by omega, Or.inl ⟨rfl, ?_⟩⟩)
            simp only [z_pd, hle, hpr, h40, if_false]
            simp
    | 2, _, hm =>
      simp only [f_read, show ¬ (2 = 0) by decide, if_false]
      unfold f_Li_readBracket
      refine z_ok.bind (ih 0 0 b p s t v x (by omega) (by omega) hb4 hpn (by simp only [z_me] at hm ⊢; simp at hm ⊢; omega) hPr) (fun r hr => ?_)
      obtain ⟨r1, p', r2, r3, r4⟩ := hr
      have hLn' := z_Fr_ln r1 hf hPr.1
      have htk := z_tk_le hPr.1 p'
      refine z_ok.to (by rw [r2]; exact z_sign hLn' (by omega)) ?_
      by_cases h41 : z_tk n ch p' = 41
      · have hlt := z_tk_lt (p := p') (n := n) (ch := ch) (by omega)
        refine z_ok.pos (by rw [h41]; rfl) (z_ok.let (z_ok.some ?_))
        rw [r2, zi_succ]
        refine ⟨z_Fr_tr r1 z_Fr_at, p' + 1, z_wr1, by omega, ?_⟩
        rcases r4 with ⟨r4, r5⟩ | ⟨root, s', t', v', r4, r5, r6⟩
        · refine Or.inl ⟨r4, ?_⟩
          simp only [z_pd, r5, Option.bind_some, h41, if_true]
        · refine Or.inr ⟨root, s', t', v', r4, ?_, z_Su_w (z_Su_r r6 h41 hlt) hf (fun q _ => rfl) (fun q hq => z_wrp (by omega))⟩
          simp only [z_pd, r5, Option.bind_some, h41, if_true]
      · refine z_ok.neg (fun h => h41 ((zi_eq (by omega) (by omega)).mp (show zi (z_tk n ch p') = zi 41 from h))) (z_ok.some ⟨r1, p', r2, r3, Or.inl ⟨rfl, ?_⟩⟩)
        rcases r4 with ⟨r4, r5⟩ | ⟨root, s', t', v', r4, r5, r6⟩
        · simp only [z_pd, r5, Option.bind_some, h41, if_false]
        · simp only [z_pd, r5, Option.bind_some, h41, if_false]
end ZR
