/-! THE REFERENCE'S READING: settle is z_se. -/
section ZM
variable {D : Type} {A : z_A D}
theorem z_taken {x : q_W} {l w : Nat} (h : x.2 32 20 = zi (l + 1)) (hl : l < 18) (hw : x.2 44 l = zi w) : f_Mo_taken x = some (zi w, q_wr x 32 20 (zi l)) := by
  unfold f_Mo_taken
  simp only [q_let, h, zi_pred (show 0 < l + 1 by omega), Nat.add_sub_cancel, z_wr1]
  rw [z_ld hl (by omega), z_wr2 (Or.inl (by omega)), hw]
  rfl
theorem z_pre_jn {c : Nat} (h : z_pre c = true) : ¬ z_jn c < 4 := by
  simp only [z_pre, Bool.or_eq_true, beq_iff_eq] at h
  rcases h with ((rfl | rfl) | rfl) | rfl <;> decide
def z_Sp (A : z_A D) (t m tt : Nat) (O : List (Nat × Nat)) (V : List (z_LD D)) (x y : q_W) : Prop := z_Fm x y ∧ ∃ v' m', z_Mo A y v' m' tt (z_se (z_lg A) t O V).1 (z_se (z_lg A) t O V).2 ∧ m' + (z_se (z_lg A) t O V).1.length = m + O.length ∧ m' + z_nbr (z_se (z_lg A) t O V).1 = m + z_nbr O ∧ (z_se (z_lg A) t O V).2.length = z_nbn (z_se (z_lg A) t O V).1 + 1
set_option maxHeartbeats 4000000 in
theorem z_settle {t tt : Nat} (ht : 1 ≤ t) (ht5 : t ≤ 5) : ∀ (k : Nat) (O : List (Nat × Nat)) (V : List (z_LD D)) (x : q_W) (v : Nat → z_LD D) (m : Nat), O.length < k → z_Mo A x v m tt O V → V.length = z_nbn O + 1 → m + O.length ≤ 18 → V.length ≤ 18 → z_ok (f_Mo_settle_L0 k x (zi t)) (z_Sp A t m tt O V x) := by
  intro k
  induction k with
  | zero => intro O V x v m h; omega
  | succ k ih =>
    intro O V x v m hk hM hVl hm hV18
    simp only [f_Mo_settle_L0]
    obtain ⟨⟨h13, h18, h20, h22⟩, hOp, hV, hnd, hun, hlg, htop⟩ := id hM
    match O, hk, hM, hVl, hm, hOp, h22, hun with
    | [], _, hM, hVl, hm, _, h22, _ =>
      refine z_ok.pos (by rw [h22]; decide) (z_ok.some ⟨z_Fm_rf, v, m, hM, rfl, rfl, hVl⟩)
    | (c, i) :: O, hk, hM, hVl, hm, hOp, h22, hun =>
      obtain ⟨⟨o1, o2, o3⟩, o4⟩ := hOp
      simp only [List.length_cons] at hk hm h22
      have hkd := z_kd_lt c
      have hti := z_ti_le c
      obtain ⟨b1, b2⟩ := z_bits (z_kd c) hkd i o3
      refine z_ok.neg (by rw [h22, show (0 : Int32) = zi 0 from rfl, zi_le (by omega) (by omega)]; omega) ?_
      rw [h22, zi_pred (by omega), Nat.add_sub_cancel, z_ld (show O.length < 18 by omega) (by omega), o1]
      simp only [Option.bind_some, b1]
      obtain ⟨t1, t2, t3⟩ := z_tight (x := x) o2
      rw [t1]
      simp only [Option.bind_some]
      by_cases hlt : z_ti c < t
      · refine z_ok.pos (by rw [zi_lt (by omega) (by omega)]; exact hlt) (z_ok.some ⟨z_Fm_rf, v, m, ?_⟩)
        rw [z_se_lt (z_lg A) hlt]
        exact ⟨hM, rfl, rfl, hVl⟩
      · refine z_ok.neg (by rw [zi_lt (by omega) (by omega)]; exact hlt) (z_ok.let ?_)
        have hop : z_op c = true := by
          rcases o2 with h | rfl
          · exact h
          · exact absurd (Nat.lt_of_lt_of_le (show z_ti 40 < 1 by decide) ht) hlt
        rw [z_wr1, z_ld (show O.length < 18 by omega) (by omega), z_wr2 (Or.inl (by omega)), o1]
        simp only [Option.bind_some, b1, q_let]
        unfold z_Sp
        rw [z_se_ge (z_lg A) (Nat.le_of_not_lt hlt)]
        match V, hV, hVl, hV18, h20 with
        | [], _, hVl, _, _ => simp at hVl
        | u :: V', ⟨⟨w, w1, w2, w3⟩, hV⟩, hVl, hV18, h20 =>
          simp only [List.length_cons] at hVl hV18 h20
          have hw20 : (q_wr x 32 22 (zi O.length)).2 32 20 = zi (V'.length + 1) := (z_wr2 (Or.inr (by omega))).trans h20
          have hw44 : (q_wr x 32 22 (zi O.length)).2 44 V'.length = zi w := (z_wr2 (Or.inl (by omega))).trans w1
          rw [z_taken hw20 (by omega) hw44]
          simp only [Option.bind_some]
          by_cases h9 : 9 ≤ z_kd c
          · refine z_ok.pos (by rw [show (9 : Int32) = zi 9 from rfl, zi_le (by omega) (by omega)]; exact h9) ?_
            have hpre := t2.mp h9
            have hjn : z_jn c < 4 := by simpa [z_op, hpre] using hop
            simp only [z_nbn, hjn, if_true] at hVl
            match V', hV, hVl, hV18, hw20, hw44, w1 with
            | [], _, hVl, _, _, _, _ => simp at hVl
            | u2 :: V'', ⟨⟨w', w1', w2', w3'⟩, hV⟩, hVl, hV18, hw20, hw44, w1 =>
              simp only [List.length_cons] at hVl hV18 hw20 hw44 w1
              have e20 : (q_wr (q_wr x 32 22 (zi O.length)) 32 20 (zi (V''.length + 1))).2 32 20 = zi (V''.length + 1) := z_wr1
              have e44 : (q_wr (q_wr x 32 22 (zi O.length)) 32 20 (zi (V''.length + 1))).2 44 V''.length = zi w' := (z_wr2 (Or.inl (by omega))).trans ((z_wr2 (Or.inl (by omega))).trans w1')
              simp only [List.length_cons]
              rw [z_taken e20 (by omega) e44]
              simp only [Option.bind_some, f_Mo_settle_J70]
              generalize hy : q_wr (q_wr (q_wr x 32 22 (zi O.length)) 32 20 (zi (V''.length + 1))) 32 20 (zi V''.length) = y
              have y1 : ∀ q, q ≠ 32 → y.2 q = x.2 q := fun q hq => by rw [← hy, z_wrp hq, z_wrp hq, z_wrp hq]
              have y2 : ∀ k, k ≠ 20 → k ≠ 22 → y.2 32 k = x.2 32 k := fun k k1 k2 => by rw [← hy, z_wr2 (Or.inr k1), z_wr2 (Or.inr k1), z_wr2 (Or.inr k2)]
              have y3 : y.2 32 22 = zi O.length := by rw [← hy, z_wr2 (Or.inr (by omega)), z_wr2 (Or.inr (by omega)), z_wr1]
              have y4 : y.2 32 20 = zi V''.length := by rw [← hy, z_wr1]
              rw [y3, z_ld (show O.length < 18 by omega) (by omega), y1 45 (by omega), o1]
              simp only [Option.bind_some, b2]
              obtain ⟨z, hz, hPt⟩ := z_part (kd := z_kd c) (nu := i) (a := zi w') (b := zi w) ((y2 13 (by omega) (by omega)).trans h13) y4 (by omega) (by omega)
              rw [hz]
              simp only [Option.bind_some]
              have hM' := z_Mo_part (A := A) (O := O) (O0 := (c, i) :: O) (V1 := V'') (v := v) (d := (z_lg A).2.2 c i (v w') (v w)) ((y2 18 (by omega) (by omega)).trans h18) y3 (z_Op_same o4 (fun j _ => by rw [y1 45 (by omega)])) (z_Vl_same hV (fun j _ => by rw [y1 44 (by omega)]) (Nat.le_refl _) (fun _ _ => rfl)) (fun j hj => z_nm_same (hnd j hj) ⟨by rw [y1 _ (by omega)], by rw [y1 _ (by omega)], by rw [y1 _ (by omega)], by rw [y1 _ (by omega)]⟩ (fun _ _ => rfl)) (by unfold z_un; rw [y1 _ (by omega), y1 _ (by omega)]; exact hun) (fun j hj q e he => z_te_same (hlg j hj q e he) (Nat.le_refl _) (fun j _ => ⟨by rw [y1 _ (by omega)], by rw [y1 _ (by omega)], by rw [y1 _ (by omega)], by rw [y1 _ (by omega)]⟩) (fun _ _ => rfl)) o3 (Or.inl ⟨hop, rfl⟩) (Or.inr ⟨w', w, rfl, rfl, w2', w2, Or.inr ⟨hjn, rfl⟩⟩) hPt
              have happ : z_app (z_lg A) c i (u :: u2 :: V'') = (z_lg A).2.2 c i (v w') (v w) :: V'' := by simp [z_app, hpre, w3, w3']
              rw [happ]
              refine z_ok.mono (ih O _ z _ (m + 1) (by omega) hM' (by simp only [List.length_cons]; omega) (by omega) (by simp only [List.length_cons]; omega)) (fun r hr => ?_)
              obtain ⟨s1, v', m', s2, s3, s4, s5⟩ := hr
              obtain ⟨P1, P2, P3, -⟩ := hPt
              have hfm : z_Fm x z := ⟨P1.trans (by rw [← hy]; rfl), fun q hq => (P2 q (by omega)).trans (y1 q (by omega)), fun k k1 k2 k3 k4 => (P3 k k1 k3).trans (y2 k k3 k4)⟩
              refine ⟨z_Fm_tr hfm s1, v', m', s2, by first | omega | (simp only [List.length_cons]; omega), ?_, s5⟩
              have hc40 : c ≠ 40 := by rintro rfl; cases hop
              simp only [z_nbr, hc40, if_false]
              omega
          · refine z_ok.neg (by rw [show (9 : Int32) = zi 9 from rfl, zi_le (by omega) (by omega)]; exact h9) ?_
            have hpre : z_pre c = true := by
              cases h : z_pre c with
              | true => rfl
              | false => exact absurd (t2.mpr h) h9
            have hjn := z_pre_jn hpre
            simp only [z_nbn, hjn, if_false] at hVl
            simp only [f_Mo_settle_J70]
            generalize hy : q_wr (q_wr x 32 22 (zi O.length)) 32 20 (zi V'.length) = y
            have y1 : ∀ q, q ≠ 32 → y.2 q = x.2 q := fun q hq => by rw [← hy, z_wrp hq, z_wrp hq]
            have y2 : ∀ k, k ≠ 20 → k ≠ 22 → y.2 32 k = x.2 32 k := fun k k1 k2 => by rw [← hy, z_wr2 (Or.inr k1), z_wr2 (Or.inr k2)]
            have y3 : y.2 32 22 = zi O.length := by rw [← hy, z_wr2 (Or.inr (by omega)), z_wr1]
            have y4 : y.2 32 20 = zi V'.length := by rw [← hy, z_wr1]
            rw [y3, z_ld (show O.length < 18 by omega) (by omega), y1 45 (by omega), o1]
            simp only [Option.bind_some, b2]
            obtain ⟨z, hz, hPt⟩ := z_part (kd := z_kd c) (nu := i) (a := zi w) (b := zi w) ((y2 13 (by omega) (by omega)).trans h13) y4 (by omega) (by omega)
            rw [hz]
            simp only [Option.bind_some]
            have hM' := z_Mo_part (A := A) (O := O) (O0 := (c, i) :: O) (V1 := V') (v := v) (d := (z_lg A).2.1 c i (v w)) ((y2 18 (by omega) (by omega)).trans h18) y3 (z_Op_same o4 (fun j _ => by rw [y1 45 (by omega)])) (z_Vl_same hV (fun j _ => by rw [y1 44 (by omega)]) (Nat.le_refl _) (fun _ _ => rfl)) (fun j hj => z_nm_same (hnd j hj) ⟨by rw [y1 _ (by omega)], by rw [y1 _ (by omega)], by rw [y1 _ (by omega)], by rw [y1 _ (by omega)]⟩ (fun _ _ => rfl)) (by unfold z_un; rw [y1 _ (by omega), y1 _ (by omega)]; exact hun) (fun j hj q e he => z_te_same (hlg j hj q e he) (Nat.le_refl _) (fun j _ => ⟨by rw [y1 _ (by omega)], by rw [y1 _ (by omega)], by rw [y1 _ (by omega)], by rw [y1 _ (by omega)]⟩) (fun _ _ => rfl)) o3 (Or.inl ⟨hop, rfl⟩) (Or.inr ⟨w, w, rfl, rfl, w2, w2, Or.inl ⟨hpre, rfl, rfl⟩⟩) hPt
            have happ : z_app (z_lg A) c i (u :: V') = (z_lg A).2.1 c i (v w) :: V' := by simp [z_app, hpre, w3]
            rw [happ]
            refine z_ok.mono (ih O _ z _ (m + 1) (by omega) hM' (by simp only [List.length_cons]; omega) (by omega) (by simp only [List.length_cons]; omega)) (fun r hr => ?_)
            obtain ⟨s1, v', m', s2, s3, s4, s5⟩ := hr
            obtain ⟨P1, P2, P3, -⟩ := hPt
            have hfm : z_Fm x z := ⟨P1.trans (by rw [← hy]; rfl), fun q hq => (P2 q (by omega)).trans (y1 q (by omega)), fun k k1 k2 k3 k4 => (P3 k k1 k3).trans (y2 k k3 k4)⟩
            refine ⟨z_Fm_tr hfm s1, v', m', s2, by first | omega | (simp only [List.length_cons]; omega), ?_, s5⟩
            have hc40 : c ≠ 40 := by rintro rfl; cases hop
            simp only [z_nbr, hc40, if_false]
            omega
end ZM
