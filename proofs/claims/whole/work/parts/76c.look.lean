/-! WHAT IS SO AT A STATE: the reference. -/
section ZS
variable {s t st : Nat} {v : Nat → Bool} {x : q_W}
theorem z_val0 {i : Nat} {E L : Int32} (hi : i < 18) (h35 : x.2 35 i = -1) (h36 : x.2 36 i = -1) : f_Mo_valueOf x (zi i) E L = f_Mo_valueOf_J58 x (zi i) E L (zb false) (zb false) := by
  unfold f_Mo_valueOf f_Mo_valueOf_J27 f_Mo_valueOf_J28 f_Mo_valueOf_J57
  rw [z_ld hi (by omega), z_ld hi (by omega), h35, h36]
  simp only [Option.bind_some]
  rw [if_pos (by decide), if_pos (by decide)]
  rfl
theorem z_val2 {i lf rt : Nat} {E L : Int32} {u w : Bool} (hi : i < 18) (h35 : x.2 35 i = zi lf) (h36 : x.2 36 i = zi rt) (hl : lf < 18) (hr : rt < 18) (hu : x.2 50 lf = zb u) (hw : x.2 50 rt = zb w) : f_Mo_valueOf x (zi i) E L = f_Mo_valueOf_J58 x (zi i) E L (zb u) (zb w) := by
  unfold f_Mo_valueOf f_Mo_valueOf_J27 f_Mo_valueOf_J28 f_Mo_valueOf_J57
  rw [z_ld hi (by omega), z_ld hi (by omega), h35, h36]
  simp only [Option.bind_some]
  rw [if_neg (zi_neg (by omega)), if_neg (zi_neg (by omega)), if_neg (zi_neg (by omega)), z_ld hl (by omega), z_ld hr (by omega), hu, hw]
  simp only [Option.bind_some]
  cases u <;> cases w <;> rfl
theorem z_valJ {i sg : Nat} {e u w b : Bool} {L : Int32} (hi : i < 18) (h34 : x.2 34 i = zi (z_kd sg)) (h : (z_leaf sg = true ∧ b = z_vl sg L) ∨ (z_pre sg = true ∧ b = z_v1 sg e w) ∨ (z_jn sg < 4 ∧ b = z_v2 sg e u w)) : f_Mo_valueOf_J58 x (zi i) (zb e) L (zb u) (zb w) = some (zb b) := by
  unfold f_Mo_valueOf_J58 f_Mo_valueOf_J271
  rw [z_ld hi (by omega), h34]
  simp only [Option.bind_some]
  rcases h with ⟨h1, rfl⟩ | ⟨h1, rfl⟩ | ⟨h1, rfl⟩
  · rcases z_leaf_c h1 with rfl | rfl | rfl | rfl | rfl
    · rfl
    · rfl
    · show (if ¬ ((L >>> (zi 0 &&& 31)) &&& 1) = 1 then some (q_nb 0) else some (q_nb 1)) = _
      rw [z_bitb (by omega)]
      show _ = some (zb (z_bt L 0))
      cases z_bt L 0 <;> rfl
    · show (if ¬ ((L >>> (zi 1 &&& 31)) &&& 1) = 1 then some (q_nb 0) else some (q_nb 1)) = _
      rw [z_bitb (by omega)]
      show _ = some (zb (z_bt L 1))
      cases z_bt L 1 <;> rfl
    · show (if ¬ ((L >>> (zi 2 &&& 31)) &&& 1) = 1 then some (q_nb 0) else some (q_nb 1)) = _
      rw [z_bitb (by omega)]
      show _ = some (zb (z_bt L 2))
      cases z_bt L 2 <;> rfl
  · rcases z_pre_c h1 with rfl | rfl | rfl | rfl <;> cases e <;> cases w <;> rfl
  · rcases z_jn_cc h1 with rfl | rfl | rfl | rfl | rfl <;> cases e <;> cases w <;> cases u <;> rfl
/-- the value of part i, those below it known, in the algebra of a state -/
theorem z_valS {i : Nat} (hi : i < 18) (hnm : z_nm (z_AS st) 34 v x i) (hv : ∀ j, j < i → x.2 50 j = zb (v j)) {nu : Nat} (hnu : x.2 37 i = zi nu) (hn20 : nu < 20) : f_Mo_valueOf x (zi i) (zb (z_bt (zi st) (3 + nu))) (zi st) = some (zb (v i)) := by
  obtain ⟨sg, nu', h1, h2, h3, h4⟩ := hnm
  have : nu' = nu := by
    rw [show (34 + 3 : Nat) = 37 from rfl, hnu] at h2
    exact ((zi_eq (by omega) (by omega)).mp h2).symm
  subst this
  rcases h4 with ⟨a, b, c, e⟩ | ⟨lf, rt, a, b, c, d, e⟩
  · rw [z_val0 hi b c]
    exact z_valJ hi h1 (Or.inl ⟨a, e⟩)
  · rw [z_val2 hi a b (by omega) (by omega) (hv lf c) (hv rt d)]
    rcases e with ⟨e1, e2, e3⟩ | ⟨e1, e2⟩
    · exact z_valJ hi h1 (Or.inr (Or.inl ⟨e1, e3⟩))
    · exact z_valJ hi h1 (Or.inr (Or.inr ⟨e1, e2⟩))
/-- a value that a part that isn't temporal has doesn't ask for what is expected -/
theorem z_valN {i : Nat} {e : Bool} (hi : i < 18) (hnm : z_nm (z_AS st) 34 v x i) (hv : ∀ j, j < i → x.2 50 j = zb (v j)) (ht : ¬ z_tm (x.2 34 i)) : f_Mo_valueOf x (zi i) (zb e) (zi st) = some (zb (v i)) := by
  obtain ⟨sg, nu', h1, h2, h3, h4⟩ := hnm
  unfold z_tm at ht
  have hkd := z_kd_lt sg
  rw [h1, zi_le (by omega) (by omega), zi_le (by omega) (by omega)] at ht
  rcases h4 with ⟨a, b, c, e'⟩ | ⟨lf, rt, a, b, c, d, e'⟩
  · rw [z_val0 hi b c]
    exact z_valJ hi h1 (Or.inl ⟨a, e'⟩)
  · rw [z_val2 hi a b (by omega) (by omega) (hv lf c) (hv rt d)]
    rcases e' with ⟨e1, e2, e3⟩ | ⟨e1, e2⟩
    · refine z_valJ hi h1 (Or.inr (Or.inl ⟨e1, ?_⟩))
      rw [e3]
      revert ht
      rcases z_pre_c e1 with rfl | rfl | rfl | rfl
      · intro _; rfl
      · intro h; exact absurd (by decide) h
      · intro h; exact absurd (by decide) h
      · intro h; exact absurd (by decide) h
    · refine z_valJ hi h1 (Or.inr (Or.inr ⟨e1, ?_⟩))
      rw [e2]
      revert ht
      rcases z_jn_cc e1 with rfl | rfl | rfl | rfl | rfl
      · intro _; rfl
      · intro _; rfl
      · intro _; rfl
      · intro h; exact absurd (by decide) h
      · intro h; exact absurd (by decide) h
def z_only (P : Nat → Prop) (x y : q_W) : Prop := y.1 = x.1 ∧ ∀ q, ¬ P q → y.2 q = x.2 q
theorem z_only_tr {P : Nat → Prop} {x y z : q_W} (h : z_only P x y) (g : z_only P y z) : z_only P x z := ⟨g.1.trans h.1, fun q hq => (g.2 q hq).trans (h.2 q hq)⟩
theorem z_only_rf {P : Nat → Prop} {x : q_W} : z_only P x x := ⟨rfl, fun _ _ => rfl⟩
theorem z_only_wr {P : Nat → Prop} {x : q_W} {p k : Nat} {w : Int32} (h : P p) : z_only P x (q_wr x p k w) := ⟨rfl, fun q hq => z_wrp (fun e => hq (by rw [e]; exact h))⟩
theorem z_only_mono {P Q : Nat → Prop} {x y : q_W} (h : z_only P x y) (hPQ : ∀ q, P q → Q q) : z_only Q x y := ⟨h.1, fun q hq => h.2 q (fun hp => hq (hPQ q hp))⟩
theorem z_look2 {E : q_W → Int32 → Option q_W} (hs : s ≤ 18) : ∀ (k i : Nat) (x : q_W), i ≤ s → s < i + k → x.2 32 4 = zi s → (∀ j, j < s → z_nm (z_AS st) 34 v x j) → (∀ j, j < i → x.2 50 j = zb (v j)) → ∃ y, f_Mo_look_L2 E k x (zi st) (zi i) = E y (zi st) ∧ z_only (· = 50) x y ∧ ∀ j, j < s → y.2 50 j = zb (v j) := by
  intro k
  induction k with
  | zero => intro i x h1 h2; omega
  | succ k ih =>
    intro i x h1 h2 h4 hnm hv
    simp only [f_Mo_look_L2]
    by_cases his : i = s
    · subst his
      rw [if_pos (by rw [h4, zi_le (by omega) (by omega)]; omega)]
      exact ⟨x, rfl, z_only_rf, hv⟩
    · rw [if_neg (by rw [h4, zi_le (by omega) (by omega)]; omega)]
      have hi : i < 18 := by omega
      have hval : ∀ e : Bool, f_Mo_valueOf x (zi i) (zb e) (zi st) = some (zb (v i)) → ∃ y, f_Mo_look_J43 (f_Mo_look_L2 E k) E x (zi st) (zi i) (zb e) = E y (zi st) ∧ z_only (· = 50) x y ∧ ∀ j, j < s → y.2 50 j = zb (v j) := by
        intro e he
        unfold f_Mo_look_J43
        rw [he]
        simp only [Option.bind_some]
        rw [z_sto hi (by omega), zb_nar]
        simp only [Option.bind_some, zi_succ]
        have y1 : ∀ q, q ≠ 50 → (q_wr x 50 i (zb (v i))).2 q = x.2 q := fun q hq => z_wrp hq
        obtain ⟨y, r1, r2, r3⟩ := ih (i + 1) (q_wr x 50 i (zb (v i))) (by omega) (by omega) (by rw [y1 32 (by omega)]; exact h4) (fun j hj => z_nm_same (hnm j hj) ⟨by rw [y1 _ (by omega)], by rw [y1 _ (by omega)], by rw [y1 _ (by omega)], by rw [y1 _ (by omega)]⟩ (fun _ _ => rfl)) (fun j hj => by
          by_cases hji : j = i
          · subst hji; rw [z_wr1]
          · rw [z_wr2 (Or.inr hji)]; exact hv j (by omega))
        exact ⟨y, r1, z_only_tr (z_only_wr rfl) r2, r3⟩
      obtain ⟨sg, nu, n1, n2, n3, n4⟩ := id (hnm i (by omega))
      have n2 : x.2 37 i = zi nu := n2
      have hkd := z_kd_lt sg
      rw [z_ld hi (by omega), n1]
      simp only [Option.bind_some]
      rw [z_isTm hkd]
      simp only [Option.bind_some]
      by_cases hT : 6 ≤ z_kd sg ∧ z_kd sg ≤ 10
      · rw [if_pos hT, if_neg z_10, z_ld hi (by omega), n2]
        simp only [Option.bind_some]
        rw [show (3 : Int32) + zi nu = zi (3 + nu) from zi_add 3 nu, z_bitb (by omega)]
        have h3 := hval _ (z_valS hi (hnm i (by omega)) hv n2 n3)
        cases hb : z_bt (zi st) (3 + nu) with
        | true =>
          rw [hb] at h3
          exact h3
        | false =>
          rw [hb] at h3
          exact h3
      · rw [if_neg hT, if_pos rfl]
        refine hval false (z_valN hi (hnm i (by omega)) hv ?_)
        unfold z_tm
        rw [n1, zi_le (by omega) (by omega), zi_le (by omega) (by omega)]
        exact hT
/-- the reference's list of temporal parts -/
def z_tlm (s t : Nat) (sg jj rr : Nat → Nat) (x : q_W) : Prop := ∀ i, i < t → x.2 38 i = zi (jj i) ∧ jj i < s ∧ x.2 34 (jj i) = zi (z_kd (sg i)) ∧ x.2 36 (jj i) = zi (rr i) ∧ rr i < jj i ∧ z_T (sg i) = true
theorem z_T_c {c : Nat} (h : z_T c = true) : c = 88 ∨ c = 70 ∨ c = 71 ∨ c = 85 ∨ c = 82 := by
  simp only [z_T, Bool.or_eq_true, beq_iff_eq] at h
  omega
theorem z_T_k {c : Nat} (h : z_T c = true) : (zi (z_kd c) = 6 ↔ c = 88) ∧ (zi (z_kd c) = 7 ↔ c = 70) ∧ (zi (z_kd c) = 9 ↔ c = 85) := by
  rcases z_T_c h with rfl | rfl | rfl | rfl | rfl <;> decide
variable {sg jj rr : Nat → Nat}
theorem z_look84 {E : q_W → Int32 → Int32 → Option q_W} (hs : s ≤ 18) (ht : t ≤ 5) (h9 : x.2 32 9 = zi t) (htl : z_tlm s t sg jj rr x) (hv : ∀ j, j < s → x.2 50 j = zb (v j)) : ∀ k i, i ≤ t → t < i + k → f_Mo_look_L84 E k x (zi st) (z_ms (z_wb sg jj rr v) i) (zi i) = E x (zi st) (z_ms (z_wb sg jj rr v) t) := by
  intro k
  induction k with
  | zero => intro i h1 h2; omega
  | succ k ih =>
    intro i h1 h2
    simp only [f_Mo_look_L84]
    by_cases his : i = t
    · subst his
      rw [if_pos (by rw [h9, zi_le (by omega) (by omega)]; omega)]
    · rw [if_neg (by rw [h9, zi_le (by omega) (by omega)]; omega)]
      obtain ⟨g1, g2, g3, g4, g5, g6⟩ := htl i (by omega)
      rw [z_ld (show i < 5 by omega) (by omega), g1]
      simp only [Option.bind_some]
      rw [z_ld (show jj i < 18 by omega) (by omega), z_ld (show jj i < 18 by omega) (by omega), z_ld (show jj i < 18 by omega) (by omega), g3, g4, hv _ g2]
      simp only [Option.bind_some]
      rw [z_ld (show rr i < 18 by omega) (by omega), hv _ (by omega)]
      simp only [Option.bind_some]
      have := ih (i + 1) (by omega) (by omega)
      have e : z_ms (z_wb sg jj rr v) (i + 1) = if z_wb sg jj rr v i then z_ms (z_wb sg jj rr v) i ||| (1 <<< (zi i &&& 31)) else z_ms (z_wb sg jj rr v) i := rfl
      rw [e] at this
      have h88 := (z_T_k g6).1
      unfold f_Mo_look_J134
      simp only [zi_succ, q_let, zb_0]
      by_cases hx : sg i = 88
      · rw [if_neg (fun h => h (h88.mpr hx))]
        cases hw : v (rr i) with
        | true => simpa [hw, z_wb, hx] using this
        | false => simpa [hw, z_wb, hx] using this
      · rw [if_pos (fun h => hx (h88.mp h))]
        cases hw : v (jj i) with
        | true => simpa [hw, z_wb, hx] using this
        | false => simpa [hw, z_wb, hx] using this
theorem z_fo_t {i : Nat} (h : sg i = 70 ∨ sg i = 85) : z_fo sg i = true := by rcases h with h | h <;> simp [z_fo, h]
theorem z_fo_f {i : Nat} (h : sg i ≠ 70) (h' : sg i ≠ 85) : z_fo sg i = false := by simp [z_fo, h, h']
variable {pr : List Nat}
def z_qlm (t : Nat) (pr : List Nat) (x : q_W) : Prop := ∀ k, k < pr.length → pr.getD k 0 < t ∧ x.2 39 k = x.2 38 (pr.getD k 0)
theorem z_look172 {E : q_W → Int32 → Int32 → Int32 → Option q_W} (hs : s ≤ 18) (ht : t ≤ 5) (hp : pr.length ≤ t) (h11 : x.2 32 11 = zi pr.length) (htl : z_tlm s t sg jj rr x) (hql : z_qlm t pr x) (hv : ∀ j, j < s → x.2 50 j = zb (v j)) : ∀ k i, i ≤ pr.length → pr.length < i + k → f_Mo_look_L172 E k x (zi st) (z_ms (z_kp sg jj pr v) i) (z_ms (z_kp sg rr pr v) i) (zi i) = E x (zi st) (z_ms (z_kp sg jj pr v) pr.length) (z_ms (z_kp sg rr pr v) pr.length) := by
  intro k
  induction k with
  | zero => intro i h1 h2; omega
  | succ k ih =>
    intro i h1 h2
    simp only [f_Mo_look_L172]
    by_cases his : i = pr.length
    · subst his
      rw [if_pos (by rw [h11, zi_le (by omega) (by omega)]; omega)]
    · rw [if_neg (by rw [h11, zi_le (by omega) (by omega)]; omega)]
      obtain ⟨q1, q2⟩ := hql i (by omega)
      obtain ⟨g1, g2, g3, g4, g5, g6⟩ := htl _ q1
      rw [z_ld (show i < 5 by omega) (by omega), q2, g1]
      simp only [Option.bind_some]
      rw [z_ld (show jj (pr.getD i 0) < 18 by omega) (by omega), g3]
      simp only [Option.bind_some]
      have hJ : f_Mo_look_J219 (f_Mo_look_L172 E k) E x (zi st) (z_ms (z_kp sg jj pr v) i) (z_ms (z_kp sg rr pr v) i) (zi i) (zi (jj (pr.getD i 0))) (zb (z_fo sg (pr.getD i 0))) = E x (zi st) (z_ms (z_kp sg jj pr v) pr.length) (z_ms (z_kp sg rr pr v) pr.length) := by
        have := ih (i + 1) (by omega) (by omega)
        simp only [z_ms] at this
        unfold f_Mo_look_J219 f_Mo_look_J243
        rw [z_ld (show jj (pr.getD i 0) < 18 by omega) (by omega), z_ld (show jj (pr.getD i 0) < 18 by omega) (by omega), g4, hv _ g2]
        simp only [Option.bind_some]
        rw [z_ld (show rr (pr.getD i 0) < 18 by omega) (by omega), hv _ (by omega)]
        simp only [Option.bind_some, q_let, zi_succ]
        have k1 : z_kp sg jj pr v i = true ↔ v (jj (pr.getD i 0)) = z_fo sg (pr.getD i 0) := by unfold z_kp; rw [beq_iff_eq]
        have k2 : z_kp sg rr pr v i = true ↔ v (rr (pr.getD i 0)) = z_fo sg (pr.getD i 0) := by unfold z_kp; rw [beq_iff_eq]
        by_cases c1 : z_kp sg jj pr v i = true
        · rw [if_neg (fun h => h (zb_e.mpr (k1.mp c1)))]
          rw [if_pos c1] at this
          by_cases c2 : z_kp sg rr pr v i = true
          · rw [if_neg (fun h => h (zb_e.mpr (k2.mp c2)))]
            rw [if_pos c2] at this
            exact this
          · rw [if_pos (fun h => c2 (k2.mpr (zb_e.mp h)))]
            rw [if_neg c2] at this
            exact this
        · rw [if_pos (fun h => c1 (k1.mpr (zb_e.mp h)))]
          rw [if_neg c1] at this
          by_cases c2 : z_kp sg rr pr v i = true
          · rw [if_neg (fun h => h (zb_e.mpr (k2.mp c2)))]
            rw [if_pos c2] at this
            exact this
          · rw [if_pos (fun h => c2 (k2.mpr (zb_e.mp h)))]
            rw [if_neg c2] at this
            exact this
      obtain ⟨-, h7, h9⟩ := z_T_k g6
      unfold f_Mo_look_J214
      by_cases c7 : sg (pr.getD i 0) = 70
      · rw [if_pos (h7.mpr c7)]
        have e : z_fo sg (pr.getD i 0) = true := z_fo_t (Or.inl c7)
        rw [e] at hJ
        exact hJ
      · rw [if_neg (fun h => c7 (h7.mp h))]
        by_cases c9 : sg (pr.getD i 0) = 85
        · rw [if_neg (fun h => h (h9.mpr c9))]
          have e : z_fo sg (pr.getD i 0) = true := z_fo_t (Or.inr c9)
          rw [e] at hJ
          exact hJ
        · rw [if_pos (fun h => c9 (h9.mp h))]
          have e : z_fo sg (pr.getD i 0) = false := z_fo_f c7 c9
          rw [e] at hJ
          exact hJ
theorem z_look (hst : st < 256) (hs1 : 1 ≤ s) (hs : s ≤ 18) (ht : t ≤ 5) (hp : pr.length ≤ t) (h4 : x.2 32 4 = zi s) (h9 : x.2 32 9 = zi t) (h11 : x.2 32 11 = zi pr.length) (hnm : ∀ j, j < s → z_nm (z_AS st) 34 v x j) (htl : z_tlm s t sg jj rr x) (hql : z_qlm t pr x) : ∃ y, f_Mo_look x (zi st) = some y ∧ z_only (fun q => 46 ≤ q ∧ q ≤ 50) x y ∧ (∀ i, i ≠ st → y.2 46 i = x.2 46 i ∧ y.2 47 i = x.2 47 i ∧ y.2 48 i = x.2 48 i ∧ y.2 49 i = x.2 49 i) ∧ y.2 46 st = z_ms (z_wb sg jj rr v) t ∧ y.2 47 st = zb (v (s - 1)) ∧ y.2 48 st = z_ms (z_kp sg jj pr v) pr.length ∧ y.2 49 st = z_ms (z_kp sg rr pr v) pr.length := by
  unfold f_Mo_look
  obtain ⟨y, e1, ⟨y0, y1⟩, y2⟩ := z_look2 (E := (fun x1 u2 => (q_ld x1 50 18 ((x1.2 32 4) - 1)).bind fun w3 =>
  (q_sto x1 47 256 u2 (vp_nar .boolean w3)).bind fun x4 =>
  (f_Mo_look_L84 (fun x5 u6 u7 => (q_sto x5 46 256 u6 u7).bind fun x8 =>
  (f_Mo_look_L172 (fun x9 u10 u11 u12 => (q_sto x9 48 256 u10 u11).bind fun x13 =>
  (q_sto x13 49 256 u10 u12).bind fun x14 =>
  some x14) q_fu x8 u6 0 0 0)) q_fu x4 u2 0 0))) hs q_fu 0 x (by omega) (by simp only [q_fu]; omega) h4 hnm (fun j hj => by omega)
  have e1 := e1
  rw [show (zi 0) = (0 : Int32) from rfl] at e1
  rw [e1]
  have hsl : s - 1 < s := by omega
  rw [y1 32 (by omega), h4, zi_pred (by omega), z_ld (show s - 1 < 18 by omega) (by omega), y2 _ hsl]
  simp only [Option.bind_some]
  rw [z_sto hst (by omega), zb_nar]
  simp only [Option.bind_some]
  generalize ha : q_wr y 47 st (zb (v (s - 1))) = a
  have a1 : ∀ q, q ≠ 47 → a.2 q = y.2 q := fun q hq => by rw [← ha, z_wrp hq]
  have a1' : ∀ q, q ≠ 47 → q ≠ 50 → a.2 q = x.2 q := fun q q1 q2 => (a1 q q1).trans (y1 q q2)
  have htla : z_tlm s t sg jj rr a := by
    unfold z_tlm
    rw [a1' 38 (by omega) (by omega), a1' 34 (by omega) (by omega), a1' 36 (by omega) (by omega)]
    exact htl
  have e2 := z_look84 (st := st) (E := (fun x5 u6 u7 => (q_sto x5 46 256 u6 u7).bind fun x8 =>
  (f_Mo_look_L172 (fun x9 u10 u11 u12 => (q_sto x9 48 256 u10 u11).bind fun x13 =>
  (q_sto x13 49 256 u10 u12).bind fun x14 =>
  some x14) q_fu x8 u6 0 0 0))) hs ht (by rw [a1' 32 (by omega) (by omega)]; exact h9) htla (fun j hj => by rw [a1 50 (by omega)]; exact y2 j hj) q_fu 0 (by omega) (by simp only [q_fu]; omega)
  rw [show (zi 0) = (0 : Int32) from rfl, show z_ms (z_wb sg jj rr v) 0 = 0 from rfl] at e2
  rw [e2, z_sto hst (by omega)]
  simp only [Option.bind_some]
  generalize hb : q_wr a 46 st (z_ms (z_wb sg jj rr v) t) = b
  have b1 : ∀ q, q ≠ 46 → b.2 q = a.2 q := fun q hq => by rw [← hb, z_wrp hq]
  have b1' : ∀ q, q ≠ 46 → q ≠ 47 → q ≠ 50 → b.2 q = x.2 q := fun q q0 q1 q2 => (b1 q q0).trans (a1' q q1 q2)
  have htlb : z_tlm s t sg jj rr b := by
    unfold z_tlm
    rw [b1' 38 (by omega) (by omega) (by omega), b1' 34 (by omega) (by omega) (by omega), b1' 36 (by omega) (by omega) (by omega)]
    exact htl
  have hqlb : z_qlm t pr b := by
    unfold z_qlm
    rw [b1' 38 (by omega) (by omega) (by omega), b1' 39 (by omega) (by omega) (by omega)]
    exact hql
  have e3 := z_look172 (st := st) (E := (fun x9 u10 u11 u12 => (q_sto x9 48 256 u10 u11).bind fun x13 =>
  (q_sto x13 49 256 u10 u12).bind fun x14 =>
  some x14)) hs ht hp (by rw [b1' 32 (by omega) (by omega) (by omega)]; exact h11) htlb hqlb (fun j hj => by rw [b1 50 (by omega), a1 50 (by omega)]; exact y2 j hj) q_fu 0 (by omega) (by simp only [q_fu]; omega)
  rw [show (zi 0) = (0 : Int32) from rfl, show z_ms (z_kp sg jj pr v) 0 = 0 from rfl, show z_ms (z_kp sg rr pr v) 0 = 0 from rfl] at e3
  rw [e3, z_sto hst (by omega)]
  simp only [Option.bind_some]
  rw [z_sto hst (by omega)]
  simp only [Option.bind_some]
  refine ⟨_, rfl, ⟨?_, fun q hq => ?_⟩, fun i hi => ⟨?_, ?_, ?_, ?_⟩, ?_, ?_, ?_, ?_⟩
  · show b.1 = x.1
    rw [← hb, ← ha]
    exact y0
  · rw [z_wrp (by omega), z_wrp (by omega), b1' q (by omega) (by omega) (by omega)]
  · rw [z_wrp (by omega), z_wrp (by omega), ← hb, z_wr2 (Or.inr hi), a1' 46 (by omega) (by omega)]
  · rw [z_wrp (by omega), z_wrp (by omega), b1 47 (by omega), ← ha, z_wr2 (Or.inr hi), y1 47 (by omega)]
  · rw [z_wrp (by omega), z_wr2 (Or.inr hi), b1' 48 (by omega) (by omega) (by omega)]
  · rw [z_wr2 (Or.inr hi), z_wrp (by omega), b1' 49 (by omega) (by omega) (by omega)]
  · rw [z_wrp (by omega), z_wrp (by omega), ← hb, z_wr1]
  · rw [z_wrp (by omega), z_wrp (by omega), b1 47 (by omega), ← ha, z_wr1]
  · rw [z_wrp (by omega), z_wr1]
  · rw [z_wr1]
end ZS
