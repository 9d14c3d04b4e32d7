/-! WHERE ON THE WORD A PART IS SO: the reference. -/
section ZP
variable {n st lp : Nat} {le : Nat → Nat} {v : Nat → Nat → Bool} {x : q_W}
/-- the word, as the reference holds it -/
def z_Wm (n st lp : Nat) (le : Nat → Nat) (x : q_W) : Prop := (st ≤ 8 ∧ 1 ≤ lp ∧ lp ≤ 8 ∧ n = st + lp) ∧ (x.2 32 36 = zi st ∧ x.2 32 37 = zi lp) ∧ ∀ i, i < 16 → x.2 57 i = zi (le i) ∧ le i < 8
/-- a part's value at place k, from what is known of it at the next one -/
def z_G (n st : Nat) (le : Nat → Nat) (v : Nat → Nat → Bool) (sg lf rt k : Nat) (e : Bool) : Bool := if z_leaf sg = true then z_vl sg (zi (le k)) else if z_pre sg = true then (if sg = 88 then v rt (z_nxp n st k) else z_v1 sg e (v rt k)) else z_v2 sg e (v lf k) (v rt k)
def z_sh' (A : z_A (Nat → Bool)) (v : Nat → Nat → Bool) (x : q_W) (i sg nu lf rt : Nat) : Prop := x.2 34 i = zi (z_kd sg) ∧ ((z_leaf sg = true ∧ x.2 35 i = -1 ∧ x.2 36 i = -1 ∧ v i = A.1 sg) ∨ (x.2 35 i = zi lf ∧ x.2 36 i = zi rt ∧ lf < i ∧ rt < i ∧ ((z_pre sg = true ∧ lf = rt ∧ v i = A.2.1 sg nu (v rt)) ∨ (z_jn sg < 4 ∧ v i = A.2.2 sg nu (v lf) (v rt)))))
theorem z_sh_of {A : z_A (Nat → Bool)} {i : Nat} (h : z_nm A 34 v x i) : ∃ sg nu lf rt, z_sh' A v x i sg nu lf rt := by
  obtain ⟨sg, nu, h1, h2, h3, h4⟩ := h
  rcases h4 with h | ⟨lf, rt, a, b, c, d, e⟩
  · exact ⟨sg, nu, 0, 0, h1, Or.inl h⟩
  · exact ⟨sg, nu, lf, rt, h1, Or.inr ⟨a, b, c, d, e⟩⟩
theorem z_Gx {i sg nu lf rt : Nat} (h : z_sh' (z_AW n st le) v x i sg nu lf rt) : ∃ (g : Bool) (a b : Nat → Bool), (g = true ↔ z_kd sg = 8 ∨ z_kd sg = 10) ∧ (∀ k, v i k = (g ^^ z_Uf (z_nxp n st) a b n k)) ∧ ∀ k e, z_G n st le v sg lf rt k e = (g ^^ (b k || (a k && (g ^^ e)))) := by
  rcases h.2 with ⟨h1, -, -, h2⟩ | ⟨-, -, -, -, ⟨h1, -, h2⟩ | ⟨h1, h2⟩⟩
  · refine ⟨false, fun _ => false, fun k => z_vl sg (zi (le k)), ?_, fun k => ?_, fun k e => ?_⟩
    · rcases z_leaf_c h1 with rfl | rfl | rfl | rfl | rfl <;> decide
    · rw [h2, z_Uf_F]; simp [z_AW]
    · simp [z_G, h1]
  · rcases z_pre_c h1 with rfl | rfl | rfl | rfl
    · refine ⟨false, fun _ => false, fun k => !v rt k, by decide, fun k => ?_, fun k e => ?_⟩
      · rw [h2, z_Uf_F]; simp [z_AW]
      · simp [z_G, z_leaf, z_pre, z_v1]
    · refine ⟨false, fun _ => false, fun k => v rt (z_nxp n st k), by decide, fun k => ?_, fun k e => ?_⟩
      · rw [h2, z_Uf_F]; simp [z_AW]
      · simp [z_G, z_leaf, z_pre]
    · refine ⟨false, fun _ => true, v rt, by decide, fun k => ?_, fun k e => ?_⟩
      · rw [h2]; simp [z_AW]
      · simp [z_G, z_leaf, z_pre, z_v1]
    · refine ⟨true, fun _ => true, fun k => !v rt k, by decide, fun k => ?_, fun k e => ?_⟩
      · rw [h2]; simp [z_AW]
      · simp only [z_G, z_leaf, z_pre, z_v1]
        cases v rt k <;> cases e <;> rfl
  · rcases z_jn_cc h1 with rfl | rfl | rfl | rfl | rfl
    · refine ⟨false, fun _ => false, fun k => !v lf k || v rt k, by decide, fun k => ?_, fun k e => ?_⟩
      · rw [h2, z_Uf_F]; simp [z_AW]
      · simp [z_G, z_leaf, z_pre, z_v2]
    · refine ⟨false, fun _ => false, fun k => v lf k || v rt k, by decide, fun k => ?_, fun k e => ?_⟩
      · rw [h2, z_Uf_F]; simp [z_AW]
      · simp [z_G, z_leaf, z_pre, z_v2]
    · refine ⟨false, fun _ => false, fun k => v lf k && v rt k, by decide, fun k => ?_, fun k e => ?_⟩
      · rw [h2, z_Uf_F]; simp [z_AW]
      · simp [z_G, z_leaf, z_pre, z_v2]
    · refine ⟨false, v lf, v rt, by decide, fun k => ?_, fun k e => ?_⟩
      · rw [h2]; simp [z_AW]
      · simp [z_G, z_leaf, z_pre, z_v2]
    · refine ⟨true, fun k => !v lf k, fun k => !v rt k, by decide, fun k => ?_, fun k e => ?_⟩
      · rw [h2]; simp [z_AW]
      · simp only [z_G, z_leaf, z_pre, z_v2]
        cases v lf k <;> cases v rt k <;> cases e <;> rfl
theorem z_i16 (i k : Nat) : (16 : Int32) * zi i + zi k = zi (16 * i + k) := by
  rw [show (16 : Int32) = zi 16 from rfl, zi_mul, zi_add]
/-- one place of one part -/
theorem z_sp1 {K63 : q_W → Int32 → Int32 → Int32 → Option q_W} {K72 : q_W → Int32 → Int32 → Int32 → Int32 → Option q_W} {i sg nu lf rt k : Nat} {cur : Nat → Bool} {v2 v3 : Int32} (hi : i < 18) (hW : z_Wm n st lp le x) (hk : k < n) (hsh : z_sh' (z_AW n st le) v x i sg nu lf rt) (hc : ∀ k, k < n → x.2 58 (16 * i + k) = zb (cur k)) (hv : ∀ j, j < i → ∀ k, k < n → x.2 58 (16 * j + k) = zb (v j k)) : ∃ y, f_Mo_spread_J97 K63 K72 x (zi i) v2 v3 (zi k) (zi (z_nxp n st k)) = K72 (q_wr y 58 (16 * i + k) (zb (z_G n st le v sg lf rt k (cur (z_nxp n st k))))) (zi i) v2 v3 (zi (k + 1)) ∧ z_only (· = 50) x y := by
  obtain ⟨⟨w1, w2, w3, w4⟩, ⟨w5, w6⟩, w7⟩ := id hW
  obtain ⟨h34, hsh⟩ := hsh
  have hnk := z_nxp_lt (n := n) (st := st) (by omega) hk
  have hkd := z_kd_lt sg
  have fin : ∀ (y : q_W) (e : Bool), z_only (· = 50) x y → f_Mo_valueOf y (zi i) (zb e) (zi (le k)) = some (zb (z_G n st le v sg lf rt k (cur (z_nxp n st k)))) → f_Mo_spread_J207 K63 K72 y (zi i) v2 v3 (zi k) (zb e) = K72 (q_wr y 58 (16 * i + k) (zb (z_G n st le v sg lf rt k (cur (z_nxp n st k))))) (zi i) v2 v3 (zi (k + 1)) := by
    intro y e hy hval
    unfold f_Mo_spread_J207
    rw [z_ld (show k < 16 by omega) (by omega), hy.2 57 (by omega), (w7 k (by omega)).1]
    simp only [Option.bind_some]
    rw [hval]
    simp only [Option.bind_some]
    rw [z_i16, z_sto (show 16 * i + k < 288 by omega) (by omega), zb_nar]
    simp only [Option.bind_some, zi_succ]
  unfold f_Mo_spread_J97
  rw [z_ld hi (by omega)]
  simp only [Option.bind_some]
  rcases hsh with ⟨s1, s2, s3, s4⟩ | ⟨s1, s2, s3, s4, s5⟩
  · rw [s2, if_pos (by decide)]
    unfold f_Mo_spread_J164
    rw [z_ld hi (by omega), h34]
    simp only [Option.bind_some]
    have h6 : ¬ zi (z_kd sg) = 6 := by rcases z_leaf_c s1 with rfl | rfl | rfl | rfl | rfl <;> decide
    rw [if_pos h6, z_i16, z_ld (show 16 * i + z_nxp n st k < 288 by omega) (by omega), hc _ hnk]
    simp only [Option.bind_some]
    refine ⟨x, fin x (cur (z_nxp n st k)) z_only_rf ?_, z_only_rf⟩
    rw [z_val0 hi s2 s3]
    exact z_valJ hi h34 (Or.inl ⟨s1, by simp [z_G, s1]⟩)
  · have hlf : ¬ z_leaf sg = true := by
      rcases s5 with ⟨h, -⟩ | ⟨h, -⟩
      · rcases z_pre_c h with rfl | rfl | rfl | rfl <;> decide
      · rcases z_jn_cc h with rfl | rfl | rfl | rfl | rfl <;> decide
    rw [s1, if_neg (zi_neg (by omega))]
    rw [z_i16, z_ld (show 16 * lf + k < 288 by omega) (by omega), hv lf s3 k hk]
    simp only [Option.bind_some]
    rw [z_sto (show lf < 18 by omega) (by omega), zb_nar]
    simp only [Option.bind_some]
    generalize ha : q_wr x 50 lf (zb (v lf k)) = a
    have oa : z_only (· = 50) x a := by rw [← ha]; exact z_only_wr rfl
    rw [z_ld hi (by omega), oa.2 36 (by omega), s2]
    simp only [Option.bind_some]
    rw [z_i16, z_ld (show 16 * rt + k < 288 by omega) (by omega), oa.2 58 (by omega), hv rt s4 k hk]
    simp only [Option.bind_some]
    rw [z_sto (show rt < 18 by omega) (by omega), zb_nar]
    simp only [Option.bind_some]
    generalize hb : q_wr a 50 rt (zb (v rt k)) = b
    have ob : z_only (· = 50) x b := z_only_tr oa (by rw [← hb]; exact z_only_wr rfl)
    have b50r : b.2 50 rt = zb (v rt k) := by rw [← hb, z_wr1]
    have b50l : b.2 50 lf = zb (v lf k) := by
      by_cases hlr : lf = rt
      · subst hlr; exact b50r
      · rw [← hb, z_wr2 (Or.inr hlr), ← ha, z_wr1]
    unfold f_Mo_spread_J164
    rw [z_ld hi (by omega), ob.2 34 (by omega), h34]
    simp only [Option.bind_some]
    have b34 : b.2 34 i = zi (z_kd sg) := by rw [ob.2 34 (by omega)]; exact h34
    have hval : ∀ e : Bool, f_Mo_valueOf b (zi i) (zb e) (zi (le k)) = f_Mo_valueOf_J58 b (zi i) (zb e) (zi (le k)) (zb (v lf k)) (zb (v rt k)) := fun e => z_val2 hi (by rw [ob.2 35 (by omega)]; exact s1) (by rw [ob.2 36 (by omega)]; exact s2) (by omega) (by omega) b50l b50r
    by_cases hx : sg = 88
    · subst hx
      rw [if_neg (by decide), z_ld hi (by omega), ob.2 36 (by omega), s2]
      simp only [Option.bind_some]
      rw [z_i16, z_ld (show 16 * rt + z_nxp n st k < 288 by omega) (by omega), ob.2 58 (by omega), hv rt s4 _ hnk]
      simp only [Option.bind_some]
      refine ⟨b, fin b (v rt (z_nxp n st k)) ob ?_, ob⟩
      rw [hval]
      exact z_valJ hi b34 (Or.inr (Or.inl ⟨by decide, by simp [z_G, z_leaf, z_pre, z_v1]⟩))
    · have h6 : ¬ zi (z_kd sg) = 6 := by
        rcases s5 with ⟨h, -⟩ | ⟨h, -⟩
        · rcases z_pre_c h with rfl | rfl | rfl | rfl
          · decide
          · exact absurd rfl hx
          · decide
          · decide
        · rcases z_jn_cc h with rfl | rfl | rfl | rfl | rfl <;> decide
      rw [if_pos h6, z_i16, z_ld (show 16 * i + z_nxp n st k < 288 by omega) (by omega), ob.2 58 (by omega), hc _ hnk]
      simp only [Option.bind_some]
      refine ⟨b, fin b (cur (z_nxp n st k)) ob ?_, ob⟩
      rw [hval]
      rcases s5 with ⟨h, -⟩ | ⟨h, -⟩
      · exact z_valJ hi b34 (Or.inr (Or.inl ⟨h, by simp [z_G, hlf, h, hx]⟩))
      · refine z_valJ hi b34 (Or.inr (Or.inr ⟨h, ?_⟩))
        have hp : ¬ z_pre sg = true := fun hp => z_pre_jn hp h
        simp [z_G, hlf, hp]
/-- nothing but the values at hand and part i's own row is touched -/
def z_Fs (i : Nat) (x y : q_W) : Prop := y.1 = x.1 ∧ (∀ q, q ≠ 50 → q ≠ 58 → y.2 q = x.2 q) ∧ ∀ j, (j < 16 * i ∨ 16 * i + 16 ≤ j) → y.2 58 j = x.2 58 j
theorem z_Fs_rf {i : Nat} : z_Fs i x x := ⟨rfl, fun _ _ _ => rfl, fun _ _ => rfl⟩
theorem z_Fs_tr {i : Nat} {x y z : q_W} (h : z_Fs i x y) (g : z_Fs i y z) : z_Fs i x z := ⟨g.1.trans h.1, fun q a b => (g.2.1 q a b).trans (h.2.1 q a b), fun j hj => (g.2.2 j hj).trans (h.2.2 j hj)⟩
theorem z_Fs_50 {i : Nat} {x y : q_W} (h : z_only (· = 50) x y) : z_Fs i x y := ⟨h.1, fun q a _ => h.2 q a, fun j _ => by rw [h.2 58 (by omega)]⟩
theorem z_Fs_58 {i k : Nat} {x : q_W} {w : Int32} (hk : k < 16) : z_Fs i x (q_wr x 58 (16 * i + k) w) := ⟨rfl, fun q _ b => z_wrp b, fun j hj => z_wr2 (Or.inr (by omega))⟩
/-- what a spread counts upon: word, part, and the parts below it -/
def z_Sq (n st lp : Nat) (le : Nat → Nat) (v : Nat → Nat → Bool) (i sg nu lf rt : Nat) (x : q_W) : Prop := z_Wm n st lp le x ∧ z_sh' (z_AW n st le) v x i sg nu lf rt ∧ ∀ j, j < i → ∀ k, k < n → x.2 58 (16 * j + k) = zb (v j k)
theorem z_Sq_Fs {i sg nu lf rt : Nat} {y : q_W} (h : z_Sq n st lp le v i sg nu lf rt x) (g : z_Fs i x y) : z_Sq n st lp le v i sg nu lf rt y := by
  obtain ⟨h1, h2, h3⟩ := h
  refine ⟨?_, ?_, fun j hj k hk => ?_⟩
  · unfold z_Wm; rw [g.2.1 32 (by omega) (by omega), g.2.1 57 (by omega) (by omega)]; exact h1
  · unfold z_sh'; rw [g.2.1 34 (by omega) (by omega), g.2.1 35 (by omega) (by omega), g.2.1 36 (by omega) (by omega)]; exact h2
  · have := h1.1
    rw [g.2.2 _ (by omega)]
    exact h3 j hj k hk
theorem z_rnd {K63 : q_W → Int32 → Int32 → Int32 → Option q_W} {i sg nu lf rt rd : Nat} {g : Bool} {a b : Nat → Bool} (hi : i < 18) (hG : ∀ k e, z_G n st le v sg lf rt k e = (g ^^ (b k || (a k && (g ^^ e))))) : ∀ (m k : Nat) (x : q_W) (c : Nat → Bool), k ≤ n → n < k + m → z_Sq n st lp le v i sg nu lf rt x → (∀ k, k < n → x.2 58 (16 * i + k) = zb (g ^^ c k)) → z_Rn (z_nxp n st) a b n rd c → (∀ k', k' < k → z_Uf (z_nxp n st) a b rd k' = true → c k' = true) → ∃ y c', f_Mo_spread_L72 K63 m x (zi i) (zi n) (zi rd) (zi k) = K63 y (zi i) (zi n) (zi (rd + 1)) ∧ z_Fs i x y ∧ (∀ k, k < n → y.2 58 (16 * i + k) = zb (g ^^ c' k)) ∧ z_Rn (z_nxp n st) a b n (rd + 1) c' := by
  intro m
  induction m with
  | zero => intro k x c h1 h2; omega
  | succ m ih =>
    intro k x c h1 h2 hS hc hR hlo
    obtain ⟨hW, hsh, hv⟩ := id hS
    obtain ⟨⟨w1, w2, w3, w4⟩, ⟨w5, w6⟩, w7⟩ := id hW
    simp only [f_Mo_spread_L72]
    by_cases hkn : k = n
    · subst hkn
      rw [if_pos (by rw [zi_le (by omega) (by omega)]; omega), zi_succ]
      refine ⟨x, c, rfl, z_Fs_rf, hc, fun k' hk' => ⟨(hR k' hk').1, fun _ hu => hlo k' hk' ?_⟩⟩
      rw [show rd + 1 - 1 = rd by omega] at hu
      exact hu
    · have hk : k < n := by omega
      rw [if_neg (by rw [zi_le (by omega) (by omega)]; omega)]
      have e : (if zi n ≤ zi k + 1 then f_Mo_spread_J97 K63 (f_Mo_spread_L72 K63 m) x (zi i) (zi n) (zi rd) (zi k) (x.2 32 36) else f_Mo_spread_J97 K63 (f_Mo_spread_L72 K63 m) x (zi i) (zi n) (zi rd) (zi k) (zi k + 1)) = f_Mo_spread_J97 K63 (f_Mo_spread_L72 K63 m) x (zi i) (zi n) (zi rd) (zi k) (zi (z_nxp n st k)) := by
        rw [zi_succ, w5]
        unfold z_nxp
        by_cases h : n ≤ k + 1
        · rw [if_pos (by rw [zi_le (by omega) (by omega)]; exact h), if_pos h]
        · rw [if_neg (by rw [zi_le (by omega) (by omega)]; exact h), if_neg h]
      rw [e]
      obtain ⟨y, y1, y2⟩ := z_sp1 (K63 := K63) (K72 := f_Mo_spread_L72 K63 m) (cur := fun k => g ^^ c k) (v2 := zi n) (v3 := zi rd) hi hW hk hsh hc hv
      rw [y1, hG]
      have hnk := z_nxp_lt (n := n) (st := st) (by omega) hk
      have exor : (g ^^ (g ^^ c (z_nxp n st k))) = c (z_nxp n st k) := by cases g <;> simp
      rw [exor]
      have hF : z_Fs i x (q_wr y 58 (16 * i + k) (zb (g ^^ (b k || (a k && c (z_nxp n st k)))))) := z_Fs_tr (z_Fs_50 y2) (z_Fs_58 (by omega))
      obtain ⟨r1, r2⟩ := z_Rn_upd (k0 := k) (fun k hk => z_nxp_lt (n := n) (st := st) (by omega) hk) hk hR
      obtain ⟨z, c', z1, z2, z3⟩ := ih (k + 1) _ (fun k' => if k' = k then (b k || (a k && c (z_nxp n st k))) else c k') (by omega) (by omega) (z_Sq_Fs hS hF) (fun k' hk' => by
        by_cases hkk : k' = k
        · subst hkk; rw [z_wr1]; simp only [if_true]
        · rw [z_wr2 (Or.inr (by omega)), y2.2 58 (by omega)]; simp only [hkk, if_false]; exact hc k' hk') r1 (fun k' hk' hu => by
        by_cases hkk : k' = k
        · subst hkk; simp only [if_true]; exact r2 hu
        · simp only [hkk, if_false]; exact hlo k' (by omega) hu)
      exact ⟨z, c', z1, z_Fs_tr hF z2, z3⟩
theorem z_rnds {i sg nu lf rt : Nat} {g : Bool} {a b : Nat → Bool} (hi : i < 18) (hG : ∀ k e, z_G n st le v sg lf rt k e = (g ^^ (b k || (a k && (g ^^ e))))) : ∀ (m rd : Nat) (x : q_W) (c : Nat → Bool), rd ≤ 18 → 18 < rd + m → z_Sq n st lp le v i sg nu lf rt x → (∀ k, k < n → x.2 58 (16 * i + k) = zb (g ^^ c k)) → z_Rn (z_nxp n st) a b n rd c → ∃ y c', f_Mo_spread_L63 m x (zi i) (zi n) (zi rd) = some y ∧ z_Fs i x y ∧ (∀ k, k < n → y.2 58 (16 * i + k) = zb (g ^^ c' k)) ∧ z_Rn (z_nxp n st) a b n 18 c' := by
  intro m
  induction m with
  | zero => intro rd x c h1 h2; omega
  | succ m ih =>
    intro rd x c h1 h2 hS hc hR
    have hn := hS.1.1
    simp only [f_Mo_spread_L63]
    by_cases hr : rd = 18
    · subst hr
      rw [if_pos (by decide)]
      exact ⟨x, c, rfl, z_Fs_rf, hc, hR⟩
    · rw [if_neg (by rw [show (18 : Int32) = zi 18 from rfl, zi_le (by omega) (by omega)]; omega)]
      obtain ⟨y, c', y1, y2, y3, y4⟩ := z_rnd (K63 := f_Mo_spread_L63 m) (rd := rd) hi hG q_fu 0 x c (by omega) (by simp only [q_fu]; omega) hS hc hR (fun k' hk' => by omega)
      rw [show (zi 0) = (0 : Int32) from rfl] at y1
      rw [y1]
      obtain ⟨z, c'', z1, z2, z3⟩ := ih (rd + 1) y c' (by omega) (by omega) (z_Sq_Fs hS y2) y3 y4
      exact ⟨z, c'', z1, z_Fs_tr y2 z2, z3⟩
theorem z_spI {i sg nu lf rt : Nat} {g : Bool} (hi : i < 18) (hg : g = true ↔ z_kd sg = 8 ∨ z_kd sg = 10) : ∀ (m k : Nat) (x : q_W), k ≤ n → n < k + m → z_Sq n st lp le v i sg nu lf rt x → (∀ k', k' < k → x.2 58 (16 * i + k') = zb g) → ∃ y, f_Mo_spread_L12 m x (zi i) (zi n) (zi k) = f_Mo_spread_L63 q_fu y (zi i) (zi n) 0 ∧ z_Fs i x y ∧ ∀ k, k < n → y.2 58 (16 * i + k) = zb g := by
  intro m
  induction m with
  | zero => intro k x h1 h2; omega
  | succ m ih =>
    intro k x h1 h2 hS h58
    have hn := hS.1.1
    have h34 := hS.2.1.1
    have hkd := z_kd_lt sg
    simp only [f_Mo_spread_L12]
    by_cases hkn : k = n
    · subst hkn
      rw [if_pos (by rw [zi_le (by omega) (by omega)]; omega)]
      exact ⟨x, rfl, z_Fs_rf, h58⟩
    · rw [if_neg (by rw [zi_le (by omega) (by omega)]; omega), z_ld hi (by omega), h34]
      simp only [Option.bind_some]
      unfold f_Mo_spread_J49
      rw [z_i16, z_sto (show 16 * i + k < 288 by omega) (by omega), z_sto (show 16 * i + k < 288 by omega) (by omega)]
      simp only [Option.bind_some, zi_succ]
      have go : ∃ y, f_Mo_spread_L12 m (q_wr x 58 (16 * i + k) (zb g)) (zi i) (zi n) (zi (k + 1)) = f_Mo_spread_L63 q_fu y (zi i) (zi n) 0 ∧ z_Fs i x y ∧ ∀ k, k < n → y.2 58 (16 * i + k) = zb g := by
        have hF : z_Fs i x (q_wr x 58 (16 * i + k) (zb g)) := z_Fs_58 (by omega)
        obtain ⟨y, y1, y2, y3⟩ := ih (k + 1) _ (by omega) (by omega) (z_Sq_Fs hS hF) (fun k' hk' => by
          by_cases hkk : k' = k
          · subst hkk; rw [z_wr1]
          · rw [z_wr2 (Or.inr (by omega))]; exact h58 k' (by omega))
        exact ⟨y, y1, z_Fs_tr hF y2, y3⟩
      have h8 : zi (z_kd sg) = 8 ↔ z_kd sg = 8 := zi_eq (m := 8) (by omega) (by omega)
      have h10 : zi (z_kd sg) = 10 ↔ z_kd sg = 10 := zi_eq (m := 10) (by omega) (by omega)
      by_cases c8 : z_kd sg = 8
      · rw [if_pos (h8.mpr c8)]
        have : g = true := hg.mpr (Or.inl c8)
        rw [this] at go
        rw [this]
        exact go
      · rw [if_neg (fun h => c8 (h8.mp h))]
        by_cases c10 : z_kd sg = 10
        · rw [if_neg (fun h => h (h10.mpr c10))]
          have : g = true := hg.mpr (Or.inr c10)
          rw [this] at go
          rw [this]
          exact go
        · rw [if_pos (fun h => c10 (h10.mp h))]
          have : g = false := by
            cases hgg : g with
            | false => rfl
            | true => rcases hg.mp hgg with h | h
                      · exact absurd h c8
                      · exact absurd h c10
          rw [this] at go
          rw [this]
          exact go
theorem z_spr {i : Nat} (hi : i < 18) (hW : z_Wm n st lp le x) (hnm : z_nm (z_AW n st le) 34 v x i) (hv : ∀ j, j < i → ∀ k, k < n → x.2 58 (16 * j + k) = zb (v j k)) : ∃ y, f_Mo_spread x (zi i) = some y ∧ z_Fs i x y ∧ ∀ k, k < n → y.2 58 (16 * i + k) = zb (v i k) := by
  obtain ⟨⟨w1, w2, w3, w4⟩, ⟨w5, w6⟩, w7⟩ := id hW
  obtain ⟨sg, nu, lf, rt, hsh⟩ := z_sh_of hnm
  obtain ⟨g, a, b, g1, g2, g3⟩ := z_Gx hsh
  unfold f_Mo_spread
  rw [w5, w6, zi_add, ← w4]
  simp only [q_let]
  obtain ⟨y, y1, y2, y3⟩ := z_spI (lf := lf) (rt := rt) (nu := nu) (v := v) hi g1 q_fu 0 x (by omega) (by simp only [q_fu]; omega) ⟨hW, hsh, hv⟩ (fun k' hk' => by omega)
  rw [show (zi 0) = (0 : Int32) from rfl] at y1
  rw [y1]
  obtain ⟨z, c', z1, z2, z3, z4⟩ := z_rnds (a := a) (b := b) hi g3 q_fu 0 y (fun _ => false) (by omega) (by simp only [q_fu]; omega) (z_Sq_Fs ⟨hW, hsh, hv⟩ y2) (fun k hk => by rw [y3 k hk]; simp) (fun k hk => ⟨fun h => (by cases h), fun h => by omega⟩)
  rw [show (zi 0) = (0 : Int32) from rfl] at z1
  rw [z1]
  refine ⟨z, rfl, z_Fs_tr y2 z2, fun k hk => ?_⟩
  rw [z3 k hk, z_Rn_end z4 (by omega) hk, g2 k]
theorem z_hldL {E : q_W → Int32 → Option (Int32 × q_W)} {s : Nat} {v1 : Int32} (hs : s ≤ 18) : ∀ (m i : Nat) (x : q_W), i ≤ s → s < i + m → x.2 32 4 = zi s → z_Wm n st lp le x → (∀ j, j < s → z_nm (z_AW n st le) 34 v x j) → (∀ j, j < i → ∀ k, k < n → x.2 58 (16 * j + k) = zb (v j k)) → ∃ y, f_Mo_holds_L20 E m x v1 (zi i) = E y v1 ∧ z_only (fun q => q = 50 ∨ q = 58) x y ∧ ∀ j, j < s → ∀ k, k < n → y.2 58 (16 * j + k) = zb (v j k) := by
  intro m
  induction m with
  | zero => intro i x h1 h2; omega
  | succ m ih =>
    intro i x h1 h2 h4 hW hnm hv
    have hn := hW.1
    simp only [f_Mo_holds_L20]
    by_cases his : i = s
    · subst his
      rw [if_pos (by rw [h4, zi_le (by omega) (by omega)]; omega)]
      exact ⟨x, rfl, z_only_rf, hv⟩
    · rw [if_neg (by rw [h4, zi_le (by omega) (by omega)]; omega)]
      obtain ⟨y, y1, y2, y3⟩ := z_spr (show i < 18 by omega) hW (hnm i (by omega)) hv
      rw [y1]
      simp only [Option.bind_some, zi_succ]
      have oy : z_only (fun q => q = 50 ∨ q = 58) x y := ⟨y2.1, fun q hq => y2.2.1 q (by omega) (by omega)⟩
      obtain ⟨z, z1, z2, z3⟩ := ih (i + 1) y (by omega) (by omega) (by rw [oy.2 32 (by omega)]; exact h4) (by unfold z_Wm; rw [oy.2 32 (by omega), oy.2 57 (by omega)]; exact hW) (fun j hj => z_nm_same (hnm j hj) ⟨by rw [oy.2 _ (by omega)], by rw [oy.2 _ (by omega)], by rw [oy.2 _ (by omega)], by rw [oy.2 _ (by omega)]⟩ (fun _ _ => rfl)) (fun j hj k hk => by
        by_cases hji : j = i
        · subst hji; exact y3 k hk
        · rw [y2.2.2 _ (by omega)]; exact hv j (by omega) k hk)
      exact ⟨z, z1, z_only_tr oy z2, z3⟩
end ZP
