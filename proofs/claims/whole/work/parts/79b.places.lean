/-! WHERE ON THE WORD A PART IS SO: the class. -/
theorem z_bt_shr1 {a : Int32} {i : Nat} (ha : z_bt a 31 = false) : z_bt (a >>> (1 &&& 31)) i = z_bt a (i + 1) := by
  by_cases h : i + 1 < 32
  · exact z_bt_shr (j := 1) (by omega) h
  · rw [z_bt_hi (show 32 ≤ i + 1 by omega)]
    by_cases h2 : 32 ≤ i
    · exact z_bt_hi h2
    · have hi : i = 31 := by omega
      subst hi
      unfold z_bt at ha ⊢
      rw [show (1 : Int32) &&& 31 = zi 1 from rfl, Int32.toBitVec_shiftRight, z_sm 1 (by omega)]
      show (a.toBitVec.sshiftRight (BitVec.ofNat 32 1).toNat).getLsbD 31 = _
      rw [show (BitVec.ofNat 32 1).toNat = 1 from rfl, BitVec.getLsbD_sshiftRight]
      simp
      rw [BitVec.msb_eq_getLsbD_last]
      exact ha
theorem z_all : ∀ n, n ≤ 16 → (1 <<< (zi n &&& 31) : Int32) - 1 = z_ms (fun _ => true) n := by decide +kernel
theorem z_ms_not {n : Nat} {b : Nat → Bool} (hn : n ≤ 16) : (z_ms (fun _ => true) n &&& (z_ms b n ^^^ (-1))) = z_ms (fun k => !b k) n := by
  apply z_bt_ext
  intro i hi
  rw [z_bt_and, z_bt_not hi, z_bt_ms (by omega), z_bt_ms (by omega), z_bt_ms (by omega)]
  cases decide (i < n) <;> simp
theorem z_ms_and {n : Nat} {a b : Nat → Bool} (hn : n ≤ 16) : (z_ms a n &&& z_ms b n) = z_ms (fun k => a k && b k) n := by
  apply z_bt_ext
  intro i hi
  rw [z_bt_and, z_bt_ms (by omega), z_bt_ms (by omega), z_bt_ms (by omega)]
  cases decide (i < n) <;> simp
theorem z_ms_or {n : Nat} {a b : Nat → Bool} (hn : n ≤ 16) : (z_ms a n ||| z_ms b n) = z_ms (fun k => a k || b k) n := by
  apply z_bt_ext
  intro i hi
  rw [z_bt_or, z_bt_ms (by omega), z_bt_ms (by omega), z_bt_ms (by omega)]
  cases decide (i < n) <;> simp
theorem z_ms_F {n : Nat} (hn : n ≤ 16) : z_ms (fun _ => false) n = 0 := by
  apply z_bt_ext
  intro i hi
  rw [z_bt_ms (by omega), z_bt_0, Bool.and_false]
section ZP
variable {n st lp c : Nat} {le : Nat → Nat} {x : q_W}
/-- the word, as the class holds it -/
def z_Wd (n st lp : Nat) (le : Nat → Nat) (x : q_W) : Prop := (st ≤ 8 ∧ 1 ≤ lp ∧ lp ≤ 8 ∧ n = st + lp) ∧ (x.2 14 1 = zi st ∧ x.2 14 2 = zi lp) ∧ ∀ i, i < 16 → x.2 15 i = zi (le i) ∧ le i < 8
theorem z_wsz (h : z_Wd n st lp le x) : f_Gw_size x = some (zi n) := by
  unfold f_Gw_size
  rw [h.2.1.1, h.2.1.2, zi_add, h.1.2.2.2]
theorem z_bef {b : Nat → Bool} (h : z_Wd n st lp le x) : f_Gw_placesBefore x (z_ms b n) = some (z_ms (fun k => b (z_nxp n st k)) n) := by
  obtain ⟨⟨w1, w2, w3, w4⟩, ⟨w5, w6⟩, w7⟩ := id h
  have h31 : z_bt (z_ms b n) 31 = false := by
    rw [z_bt_ms (by omega), decide_eq_false (show ¬ 31 < n by omega)]; rfl
  unfold f_Gw_placesBefore
  rw [w5, z_hbb (by omega), z_bt_ms (by omega), decide_eq_true (show st < n by omega), Bool.true_and, z_wsz h]
  simp only [Option.bind_some, zb_0, q_let]
  rw [zi_pred (by omega)]
  cases hb : b st with
  | false =>
    rw [if_pos rfl]
    congr 1
    apply z_bt_ext
    intro i hi
    rw [z_bt_or, z_bt_0, Bool.or_false, z_bt_shr1 h31, z_bt_ms (by omega), z_bt_ms (by omega)]
    unfold z_nxp
    by_cases h1 : i + 1 < n
    · rw [decide_eq_true h1, decide_eq_true (show i < n by omega), if_neg (by omega)]
    · rw [decide_eq_false h1]
      by_cases h2 : i < n
      · rw [if_pos (by omega), hb]; simp
      · rw [decide_eq_false h2]; simp
  | true =>
    rw [if_neg (by simp)]
    congr 1
    apply z_bt_ext
    intro i hi
    rw [z_bt_or, z_bt_one (by omega), z_bt_shr1 h31, z_bt_ms (by omega), z_bt_ms (by omega)]
    unfold z_nxp
    by_cases h1 : i + 1 < n
    · rw [decide_eq_true h1, decide_eq_true (show i < n by omega), if_neg (by omega), decide_eq_false (show ¬ i = n - 1 by omega)]
      simp
    · rw [decide_eq_false h1]
      by_cases h2 : i < n
      · rw [if_pos (by omega), hb, decide_eq_true h2, decide_eq_true (show i = n - 1 by omega)]; simp
      · rw [decide_eq_false h2, decide_eq_false (show ¬ i = n - 1 by omega)]; simp
theorem z_untL {a b : Nat → Bool} (h : z_Wd n st lp le x) : ∀ m j, j ≤ n → n < j + m → f_Gw_placesUntil_L5 m x (z_ms a n) (z_ms b n) (z_ms (z_Uf (z_nxp n st) a b j) n) (zi j) = some (z_ms (z_Uf (z_nxp n st) a b n) n) := by
  intro m
  induction m with
  | zero => intro j h1 h2; omega
  | succ m ih =>
    intro j h1 h2
    obtain ⟨⟨w1, w2, w3, w4⟩, ⟨w5, w6⟩, w7⟩ := id h
    simp only [f_Gw_placesUntil_L5]
    rw [z_wsz h]
    simp only [Option.bind_some]
    by_cases hjn : j = n
    · subst hjn
      rw [if_pos (by rw [zi_le (by omega) (by omega)]; omega)]
    · rw [if_neg (by rw [zi_le (by omega) (by omega)]; omega), z_bef h]
      simp only [Option.bind_some, q_let, zi_succ]
      rw [z_ms_and (by omega), z_ms_or (by omega)]
      exact ih (j + 1) (by omega) (by omega)
theorem z_unt {a b : Nat → Bool} (h : z_Wd n st lp le x) : f_Gw_placesUntil x (z_ms a n) (z_ms b n) = some (z_ms (z_Uf (z_nxp n st) a b n) n) := by
  have hn := h.1
  exact z_untL h q_fu 0 (by omega) (by simp only [q_fu]; omega)
theorem z_withL {b : Nat} (h : z_Wd n st lp le x) (hb : b < 3) : ∀ m j, j ≤ n → n < j + m → f_Gw_placesWith_L4 m x (zi b) (z_ms (fun k => z_bt (zi (le k)) b) j) (zi j) = some (z_ms (fun k => z_bt (zi (le k)) b) n) := by
  intro m
  induction m with
  | zero => intro j h1 h2; omega
  | succ m ih =>
    intro j h1 h2
    obtain ⟨⟨w1, w2, w3, w4⟩, ⟨w5, w6⟩, w7⟩ := id h
    simp only [f_Gw_placesWith_L4]
    rw [z_wsz h]
    simp only [Option.bind_some]
    by_cases hjn : j = n
    · subst hjn
      rw [if_pos (by rw [zi_le (by omega) (by omega)]; omega)]
    · rw [if_neg (by rw [zi_le (by omega) (by omega)]; omega), z_ld (show j < 16 by omega) (by omega), (w7 j (by omega)).1]
      simp only [Option.bind_some]
      rw [z_hbb (by omega)]
      simp only [Option.bind_some, zb_0, zi_succ, q_let]
      have := ih (j + 1) (by omega) (by omega)
      have e : z_ms (fun k => z_bt (zi (le k)) b) (j + 1) = if z_bt (zi (le j)) b then z_ms (fun k => z_bt (zi (le k)) b) j ||| (1 <<< (zi j &&& 31)) else z_ms (fun k => z_bt (zi (le k)) b) j := rfl
      rw [e] at this
      cases hz : z_bt (zi (le j)) b with
      | true => simpa [hz] using this
      | false => simpa [hz] using this
theorem z_with {b : Nat} (h : z_Wd n st lp le x) (hb : b < 3) : f_Gw_placesWith x (zi b) = some (z_ms (fun k => z_bt (zi (le k)) b) n) := by
  have hn := h.1
  exact z_withL h hb q_fu 0 (by omega) (by simp only [q_fu]; omega)
theorem z_partP {v : Nat → Nat → Bool} {i : Nat} (h : z_Wd n st lp le x) (hi : i < 18) (hnd : z_nd (z_AW n st le) c v x i) (hv : ∀ j, j < i → x.2 (c + 7) j = z_ms (v j) n) : f_Fo_partPlaces c x (zi i) = some (z_ms (v i) n) := by
  obtain ⟨sg, lf, rt, nu, h1, h2, h3, h4, h5, h6, h7⟩ := hnd
  obtain ⟨⟨w1, w2, w3, w4⟩, ⟨w5, w6⟩, w7⟩ := id h
  have hn : n ≤ 16 := by omega
  have hlr : lf < 18 ∧ rt < 18 := by rcases h7 with h | h | h <;> omega
  have hall : f_Gw_allPlaces x = some (z_ms (fun _ => true) n) := by
    unfold f_Gw_allPlaces
    rw [z_wsz h]
    simp only [Option.bind_some]
    rw [z_all n hn]
  unfold f_Fo_partPlaces
  rw [hall, z_ld hi (by omega), h2, z_ld hi (by omega), h3, z_ld hi (by omega), h1]
  simp only [Option.bind_some]
  rw [z_ld hlr.1 (by omega), z_ld hlr.2 (by omega)]
  simp only [Option.bind_some]
  rcases h7 with ⟨a, b, d, e⟩ | ⟨a, b, d, e⟩ | ⟨a, b, d, e⟩
  · rw [e]
    rcases z_leaf_c a with rfl | rfl | rfl | rfl | rfl
    · show some (0 : Int32) = some (z_ms (fun _ => false) n)
      rw [z_ms_F hn]
    · rfl
    · show (f_Gw_placesWith x (zi 0)).bind (fun w => some w) = _
      rw [z_with h (by omega)]
      rfl
    · show (f_Gw_placesWith x (zi 1)).bind (fun w => some w) = _
      rw [z_with h (by omega)]
      rfl
    · show (f_Gw_placesWith x (zi 2)).bind (fun w => some w) = _
      rw [z_with h (by omega)]
      rfl
  · rw [e, hv rt d, b, hv rt d]
    rcases z_pre_c a with rfl | rfl | rfl | rfl
    · show some (z_ms (fun _ => true) n &&& (z_ms (v rt) n ^^^ (-1))) = _
      rw [z_ms_not hn]
      rfl
    · show (f_Gw_placesBefore x (z_ms (v rt) n)).bind (fun w => some w) = _
      rw [z_bef h]
      rfl
    · show (f_Gw_placesUntil x (z_ms (fun _ => true) n) (z_ms (v rt) n)).bind (fun w => some w) = _
      rw [z_unt h]
      rfl
    · show (f_Gw_placesUntil x (z_ms (fun _ => true) n) (z_ms (fun _ => true) n &&& (z_ms (v rt) n ^^^ (-1)))).bind (fun w => some (z_ms (fun _ => true) n &&& (w ^^^ (-1)))) = _
      rw [z_ms_not hn, z_unt h]
      simp only [Option.bind_some]
      rw [z_ms_not hn]
      rfl
  · rw [e, hv rt d, hv lf b]
    rcases z_jn_cc a with rfl | rfl | rfl | rfl | rfl
    · show some ((z_ms (fun _ => true) n &&& (z_ms (v lf) n ^^^ (-1))) ||| z_ms (v rt) n) = _
      rw [z_ms_not hn, z_ms_or hn]
      rfl
    · show some (z_ms (v lf) n ||| z_ms (v rt) n) = _
      rw [z_ms_or hn]
      rfl
    · show some (z_ms (v lf) n &&& z_ms (v rt) n) = _
      rw [z_ms_and hn]
      rfl
    · show (f_Gw_placesUntil x (z_ms (v lf) n) (z_ms (v rt) n)).bind (fun w => some w) = _
      rw [z_unt h]
      rfl
    · show (f_Gw_placesUntil x (z_ms (fun _ => true) n &&& (z_ms (v lf) n ^^^ (-1))) (z_ms (fun _ => true) n &&& (z_ms (v rt) n ^^^ (-1)))).bind (fun w => some (z_ms (fun _ => true) n &&& (w ^^^ (-1)))) = _
      rw [z_ms_not hn, z_ms_not hn, z_unt h]
      simp only [Option.bind_some]
      rw [z_ms_not hn]
      rfl
theorem z_onL {E : q_W → Option (Int32 × q_W)} {s : Nat} {v : Nat → Nat → Bool} (hc : c = 16 ∨ c = 24) (hs : s ≤ 18) : ∀ (m i : Nat) (x : q_W), i ≤ s → s < i + m → z_Wd n st lp le x → x.2 c 7 = zi s → (∀ j, j < s → z_nd (z_AW n st le) c v x j) → (∀ j, j < i → x.2 (c + 7) j = z_ms (v j) n) → ∃ y, f_Fo_placesOn_L2 c E m x (zi i) = E y ∧ z_only (· = c + 7) x y ∧ ∀ j, j < s → y.2 (c + 7) j = z_ms (v j) n := by
  intro m
  induction m with
  | zero => intro i x h1 h2; omega
  | succ m ih =>
    intro i x h1 h2 hW h7 hnd hv
    simp only [f_Fo_placesOn_L2]
    by_cases his : i = s
    · subst his
      rw [if_pos (by rw [h7, zi_le (by omega) (by omega)]; omega)]
      exact ⟨x, rfl, z_only_rf, hv⟩
    · rw [if_neg (by rw [h7, zi_le (by omega) (by omega)]; omega), z_partP hW (by omega) (hnd i (by omega)) hv]
      simp only [Option.bind_some]
      rw [z_sto (show i < 18 by omega) (by omega)]
      simp only [Option.bind_some, zi_succ]
      have hw : z_only (· = c + 7) x (q_wr x (c + 7) i (z_ms (v i) n)) := z_only_wr rfl
      obtain ⟨y, y1, y2, y3⟩ := ih (i + 1) (q_wr x (c + 7) i (z_ms (v i) n)) (by omega) (by omega) (by unfold z_Wd; rw [hw.2 14 (by omega), hw.2 15 (by omega)]; exact hW) (by rw [hw.2 c (by omega)]; exact h7) (fun j hj => z_nd_same (hnd j hj) ⟨by rw [hw.2 _ (by omega)], by rw [hw.2 _ (by omega)], by rw [hw.2 _ (by omega)], by rw [hw.2 _ (by omega)]⟩ (fun _ _ => rfl)) (fun j hj => by
        by_cases hji : j = i
        · subst hji; rw [z_wr1]
        · rw [z_wr2 (Or.inr hji)]; exact hv j (by omega))
      exact ⟨y, y1, z_only_tr hw y2, y3⟩
theorem z_on {s : Nat} {v : Nat → Nat → Bool} (hc : c = 16 ∨ c = 24) (hs1 : 1 ≤ s) (hs : s ≤ 18) (hW : z_Wd n st lp le x) (h7 : x.2 c 7 = zi s) (hnd : ∀ j, j < s → z_nd (z_AW n st le) c v x j) : ∃ y, f_Fo_placesOn c x = some (z_ms (v (s - 1)) n, y) ∧ z_only (· = c + 7) x y := by
  unfold f_Fo_placesOn
  obtain ⟨y, y1, y2, y3⟩ := z_onL (E := fun x1 => if ¬ x1.2 c 7 = 0 then (q_ld x1 (c + 7) 18 ((x1.2 c 7) - 1)).bind fun w2 => some (w2, x1) else some (0, x1)) hc hs q_fu 0 x (by omega) (by simp only [q_fu]; omega) hW h7 hnd (fun j hj => by omega)
  rw [show (zi 0) = (0 : Int32) from rfl] at y1
  rw [y1, y2.2 c (by omega), h7]
  rw [if_pos (fun h => by have := (zi_eq (m := 0) (by omega) (by omega)).mp h; omega), zi_pred (by omega), z_ld (show s - 1 < 18 by omega) (by omega), y3 _ (by omega)]
  exact ⟨y, rfl, y2⟩
/-- the place that a number stands for -/
def z_ix (n st lp a : Nat) : Nat := if a < n then a else st + (a - st) % lp
theorem z_ix_lt {a : Nat} (h1 : 1 ≤ lp) (hn : n = st + lp) : z_ix n st lp a < n := by
  unfold z_ix
  have := Nat.mod_lt (a - st) (show lp > 0 by omega)
  split <;> omega
theorem z_ixc {a : Nat} (h : z_Wd n st lp le x) (ha : a < 2147483648) : f_Gw_indexOf x (zi a) = some (zi (z_ix n st lp a)) := by
  obtain ⟨⟨w1, w2, w3, w4⟩, ⟨w5, w6⟩, w7⟩ := id h
  unfold f_Gw_indexOf z_ix
  rw [z_wsz h]
  simp only [Option.bind_some]
  by_cases hc : a < n
  · rw [if_pos (by rw [zi_lt (by omega) (by omega)]; exact hc), if_pos hc]
  · rw [if_neg (by rw [zi_lt (by omega) (by omega)]; exact hc), if_neg hc, w6, w5]
    rw [if_pos (by rw [show (1 : Int32) = zi 1 from rfl, zi_le (by omega) (by omega)]; omega), if_neg (fun hh => by have := (zi_eq (m := 0) (by omega) (by omega)).mp hh; omega), zi_sub (by omega), zi_mod (by omega) (by omega), zi_add]
theorem z_ixm {a : Nat} {y : q_W} (h1 : st ≤ 8) (h2 : 1 ≤ lp) (h3 : lp ≤ 8) (hn : n = st + lp) (h36 : y.2 32 36 = zi st) (h37 : y.2 32 37 = zi lp) (ha : a < 2147483648) : f_Mo_placeOf y (zi a) = some (zi (z_ix n st lp a)) := by
  unfold f_Mo_placeOf z_ix
  rw [h36, h37]
  by_cases hc : st ≤ a
  · rw [if_pos (by rw [zi_le (by omega) (by omega)]; exact hc), if_neg (fun hh => by have := (zi_eq (m := 0) (by omega) (by omega)).mp hh; omega), zi_sub hc, zi_mod (by omega) (by omega), zi_add]
    by_cases hl : a < n
    · rw [if_pos hl, Nat.mod_eq_of_lt (by omega), show st + (a - st) = a by omega]
    · rw [if_neg hl]
  · rw [if_neg (by rw [zi_le (by omega) (by omega)]; exact hc), if_pos (by omega)]
end ZP
