/-! THE CLASS'S READING BY DESCENT IS z_pd: the joined parts, and the whole. -/
theorem z_nc_d {tok : Nat → Nat} {p q : Nat} (h : p ≤ q) : z_nc tok p ≤ z_nc tok q ∧ z_nc tok q ≤ z_nc tok p + (q - p) := by
  obtain ⟨m, rfl⟩ := Nat.le.dest h
  clear h
  induction m with
  | zero => simp
  | succ m ih =>
    rw [← Nat.add_assoc]
    simp only [z_nc]
    split <;> omega
section ZR
variable {D : Type} {A : z_A D} {n : Nat} {ch : Nat → Nat} {f : Nat}
theorem z_Rd_join {p s t b L k q s1 t1 a p' s2 t2 u : Nat} {v v1 v2 : Nat → z_LD D} {x y1 y2 : q_W} (hf : 3 ≤ f) (hL : z_Ln n ch x) (h5 : z_tb (z_tk n ch) n ≤ 5) (hsp : s ≤ p) (hL4 : L < 4) (hj : z_jn (z_tk n ch q) = L)
    (hfr1 : z_Fr f x y1) (hpd1 : z_pd (z_lg A) (z_tk n ch) (z_tb (z_tk n ch)) k 0 (L + 1) b p = some (some (v1 a), q)) (hsu1 : z_Su A (z_tk n ch) n f p s t v x q s1 t1 v1 y1 a)
    (hfr2 : z_Fr f (q_wr y1 1 2 (zi (q + 1))) y2) (hat : y2.2 1 2 = zi p') (hpd2 : z_pd (z_lg A) (z_tk n ch) (z_tb (z_tk n ch)) k 0 L b (q + 1) = some (some (v2 u), p')) (hsu2 : z_Su A (z_tk n ch) n f (q + 1) s1 t1 v1 (q_wr y1 1 2 (zi (q + 1))) p' s2 t2 v2 y2 u) :
    z_ok ((f_Fo_add f y2 (zi (z_tk n ch q)) (zi a) (zi u) (zi (z_tb (z_tk n ch) q))).bind fun r => some (r.1, r.2)) (z_Rd A n ch f (k + 1) 0 L b p s t v x) := by
  obtain ⟨g2, g3, g4, g5⟩ := z_jn_T (c := z_tk n ch q) (by omega)
  have hqn := z_tk_lt g5
  have hn18 := hL.1
  have htb := z_tb_le (z_tk n ch) q
  obtain ⟨⟨a1, a2, a3, a4, a5, a6⟩, ⟨b1, b2⟩, c1, c2, c3, c4, c5, c6⟩ := id hsu1
  obtain ⟨⟨a1', a2', a3', a4', a5', a6'⟩, ⟨b1', b2'⟩, c1', c2', c3', c4', c5', c6'⟩ := id hsu2
  have hnc : z_nc (z_tk n ch) (q + 1) = z_nc (z_tk n ch) q + 1 := by simp only [z_nc, g3, g4, or_self, if_false]
  have n1 := z_nc_d (tok := z_tk n ch) (show p ≤ q by omega)
  have n2 := z_nc_d (tok := z_tk n ch) (show q + 1 ≤ p' by omega)
  have htl : z_T (z_tk n ch q) = true → z_tb (z_tk n ch) q < 5 := fun h => by
    have e : z_tb (z_tk n ch) (q + 1) = z_tb (z_tk n ch) q + 1 := by simp [z_tb, h]
    have := z_tb_mono (tok := z_tk n ch) (show q + 1 ≤ n by omega)
    omega
  obtain ⟨z, hz, had⟩ := z_add (a := a) (b := u) (nu := z_tb (z_tk n ch) q) b1' b2' (by omega) g2 (by omega) htl
  have m1 := z_tb_mono (tok := z_tk n ch) (show p ≤ q by omega)
  have m2 := z_tb_mono (tok := z_tk n ch) (show q + 1 ≤ p' by omega)
  have m3 := z_tb_mono (tok := z_tk n ch) (show q ≤ q + 1 by omega)
  have hx4 : ∀ j, 3 ≤ j → (q_wr y1 1 2 (zi (q + 1))).2 j = y1.2 j := fun j hj => z_wrp (by omega)
  have c2'' : ∀ i, i < s1 → z_s4 f y1 y2 i := fun i hi => by
    have := c2' i hi
    unfold z_s4 at this ⊢
    rw [hx4 _ (by omega), hx4 _ (by omega), hx4 _ (by omega), hx4 _ (by omega)] at this
    exact this
  have c4'' : ∀ i, ¬ (z_tb (z_tk n ch) (q + 1) ≤ i ∧ i < z_tb (z_tk n ch) p') → y2.2 (f + 5) i = y1.2 (f + 5) i := fun i hi => by
    rw [c4' i hi, hx4 _ (by omega)]
  have hva : v2 a = v1 a := c1' a (by omega)
  refine z_ok.to hz (z_ok.some ⟨z_Fr_tr hfr1 (z_Fr_tr z_Fr_at (z_Fr_tr hfr2 (z_Ad_fr had hf))), p', ?_, by omega, Or.inr ⟨s2, s2 + 1, t2 + (if z_T (z_tk n ch q) then 1 else 0), _, rfl, ?_, z_Su_add (v1 := v2) (d := (z_lg A).2.2 (z_tk n ch q) (z_tb (z_tk n ch) q) (v2 a) (v2 u)) (y := y2) (by omega) a2' (by omega) (by omega) ?_ (fun i hi => ?_) (fun i hi => ?_) c3' (by omega) g2 (Or.inr (Or.inr ⟨by omega, by omega, by omega, rfl⟩)) (fun i hi => ?_) (fun h => ?_) (fun i i1 i2 i3 => ?_) (fun i hi => ?_) had⟩⟩)
  · show z.2 1 2 = _
    rw [had.2.1 1 (by omega), hat]
  · have hL4' : ¬ 4 ≤ L := by omega
    simp only [z_pd, hL4', if_false, hpd1, Option.bind_some, hj, if_true, hpd2, hva]
  · simp only [z_tb] at a6' m2 m3 ⊢; omega
  · rw [c1' i (by omega)]; exact c1 i hi
  · have h1 := c2'' i (by omega)
    have h2 := c2 i hi
    unfold z_s4 at h1 h2 ⊢
    exact ⟨h1.1.trans h2.1, h1.2.1.trans h2.2.1, h1.2.2.1.trans h2.2.2.1, h1.2.2.2.trans h2.2.2.2⟩
  · rw [c4'' i (fun h => hi ⟨by omega, h.2⟩), c4 i (fun h => hi ⟨h.1, by omega⟩)]
  · have e : z_tb (z_tk n ch) (q + 1) = z_tb (z_tk n ch) q + 1 := by simp [z_tb, h]
    refine ⟨by omega, by omega, ?_, by omega, by omega⟩
    simp [z_lg, h]
  · by_cases hi : i < z_tb (z_tk n ch) q
    · obtain ⟨e, e1, e2⟩ := c5 i i1 hi
      refine ⟨e, ?_, z_tp_same e2 a4' (c4'' i (by omega)) (fun j hj => c2'' j hj) c1'⟩
      simp only [z_lg, if_neg i3]
      rw [hva, e1]
      rfl
    · have hi1 : z_tb (z_tk n ch) (q + 1) ≤ i := by
        simp only [z_tb]
        split
        · rename_i h
          have : i ≠ z_tb (z_tk n ch) q := fun e => i3 ⟨h, e⟩
          omega
        · omega
      obtain ⟨e, e1, e2⟩ := c5' i hi1 i2
      refine ⟨e, ?_, e2⟩
      simp only [z_lg, if_neg i3]
      rw [hva, c6 i (by omega), e1]
      rfl
  · have hi3 : ¬ (z_T (z_tk n ch q) = true ∧ i = z_tb (z_tk n ch) q) := fun h => by
      have e : z_tb (z_tk n ch) (q + 1) = z_tb (z_tk n ch) q + 1 := by simp [z_tb, h.1]
      exact hi ⟨by omega, by omega⟩
    simp only [z_lg, if_neg hi3]
    rw [hva, c6 i (fun h => hi ⟨h.1, by omega⟩), c6' i (fun h => hi ⟨by omega, h.2⟩)]
    rfl
theorem z_simple (REC : Nat → Int32 → Int32 → q_W → Option (Int32 × q_W)) {x : q_W} {a2 : Int32} {p : Nat} (hL : z_Ln n ch x) (hat : x.2 1 2 = zi p) (hp : p < 1000) : f_Li_readSimple REC f x a2 = (if z_leaf (z_tk n ch p) = true then f_Li_readSimple_J120 REC f (q_wr x 1 2 (zi (p + 1))) (zi (z_tk n ch p)) (zi (z_tb (z_tk n ch) p)) else if z_pre (z_tk n ch p) = true then f_Li_readSimple_J130 REC f (q_wr x 1 2 (zi (p + 1))) a2 (zi (z_tk n ch p)) (zi (z_tb (z_tk n ch) p)) else if z_tk n ch p = 40 then (if a2 < 4 then (REC 2 (a2 + 1) 0 (q_wr x 1 2 (zi (p + 1)))).bind fun q6 => some (q6.1, q6.2) else some (-1, q_wr x 1 2 (zi (p + 1)))) else some (-1, q_wr x 1 2 (zi (p + 1)))) := by
  unfold f_Li_readSimple
  have hc := z_tk_le hL p
  rw [hat, z_sign hL (by omega), z_tbf hL hp]
  simp only [Option.bind_some, q_let, zi_succ]
  generalize z_tk n ch p = c at hc ⊢
  have hne : ∀ m : Nat, m < 200 → c ≠ m → ¬ zi c = zi m := fun m hm h e => h ((zi_eq (by omega) (by omega)).mp e)
  by_cases h33 : c = 33
  · subst h33; rfl
  rw [if_neg (show ¬ zi c = (33 : Int32) from hne 33 (by omega) h33)]
  by_cases h40 : c = 40
  · subst h40; rfl
  rw [if_neg (show ¬ zi c = (40 : Int32) from hne 40 (by omega) h40)]
  by_cases h48 : c = 48
  · subst h48; rfl
  rw [if_neg (show ¬ zi c = (48 : Int32) from hne 48 (by omega) h48)]
  by_cases h49 : c = 49
  · subst h49; rfl
  rw [if_neg (show ¬ zi c = (49 : Int32) from hne 49 (by omega) h49)]
  by_cases h70 : c = 70
  · subst h70; rfl
  rw [if_neg (show ¬ zi c = (70 : Int32) from hne 70 (by omega) h70)]
  by_cases h71 : c = 71
  · subst h71; rfl
  rw [if_neg (show ¬ zi c = (71 : Int32) from hne 71 (by omega) h71)]
  by_cases h88 : c = 88
  · subst h88; rfl
  rw [if_neg (show ¬ zi c = (88 : Int32) from hne 88 (by omega) h88)]
  by_cases h97 : c = 97
  · subst h97; rfl
  rw [if_neg (show ¬ zi c = (97 : Int32) from hne 97 (by omega) h97)]
  by_cases h98 : c = 98
  · subst h98; rfl
  rw [if_neg (show ¬ zi c = (98 : Int32) from hne 98 (by omega) h98)]
  by_cases h99 : c = 99
  · subst h99; rfl
  rw [if_neg (show ¬ zi c = (99 : Int32) from hne 99 (by omega) h99)]
  simp [z_leaf, z_pre, h33, h40, h48, h49, h70, h71, h88, h97, h98, h99]
end ZR
