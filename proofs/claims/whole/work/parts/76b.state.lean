/-! WHAT IS SO AT A STATE: the class. -/
def z_vl (c : Nat) (w : Int32) : Bool := if c = 49 then true else if c = 97 then z_bt w 0 else if c = 98 then z_bt w 1 else if c = 99 then z_bt w 2 else false
def z_v1 (c : Nat) (e u : Bool) : Bool := if c = 33 then !u else if c = 70 then u || e else if c = 71 then u && e else e
def z_v2 (c : Nat) (e u w : Bool) : Bool := if c = 38 then u && w else if c = 124 then u || w else if c = 62 then !u || w else if c = 85 then w || (u && e) else w && (u || e)
def z_AS (st : Nat) : z_A Bool := (fun c => z_vl c (zi st), fun c i u => z_v1 c (z_bt (zi st) (3 + i)) u, fun c i u w => z_v2 c (z_bt (zi st) (3 + i)) u w)
theorem z_AS_as (st : Nat) : z_as (z_AS st) := by
  intro c hc i j i' j' u v w
  rcases hc with rfl | rfl
  · simp [z_AS, z_v2, Bool.and_assoc]
  · simp [z_AS, z_v2, Bool.or_assoc]
theorem z_leaf_c {c : Nat} (h : z_leaf c = true) : c = 48 ∨ c = 49 ∨ c = 97 ∨ c = 98 ∨ c = 99 := by
  simp only [z_leaf, Bool.or_eq_true, beq_iff_eq] at h
  omega
theorem z_pre_c {c : Nat} (h : z_pre c = true) : c = 33 ∨ c = 88 ∨ c = 70 ∨ c = 71 := by
  simp only [z_pre, Bool.or_eq_true, beq_iff_eq] at h
  omega
theorem z_jn_cc {c : Nat} (h : z_jn c < 4) : c = 62 ∨ c = 124 ∨ c = 38 ∨ c = 85 ∨ c = 82 := by
  rcases z_jn_c rfl h with ⟨-, rfl⟩ | ⟨-, rfl⟩ | ⟨-, rfl⟩ | ⟨-, rfl | rfl⟩ <;> omega
section ZS
variable {c s t st : Nat} {v : Nat → Bool} {x : q_W}
theorem z_isPart {i : Nat} {m : Int32} (hi : i < 18) (hnd : z_nd (z_AS st) c v x i) (hm : ∀ j, j < i → z_bt m j = v j) : f_Fo_isPartAt c x (zi i) (zi st) m = some (zb (v i)) := by
  obtain ⟨sg, lf, rt, nu, h1, h2, h3, h4, h5, h6, h7⟩ := hnd
  have hlr : lf < 32 ∧ rt < 32 := by rcases h7 with h | h | h <;> omega
  unfold f_Fo_isPartAt
  rw [z_ld hi (by omega), z_ld hi (by omega), z_ld hi (by omega), z_ld hi (by omega), h1, h2, h3, h4]
  simp only [Option.bind_some]
  rw [z_hbb hlr.1, z_hbb hlr.2, show (3 : Int32) + zi nu = zi (3 + nu) from zi_add 3 nu, z_hbb (by omega)]
  simp only [Option.bind_some]
  rcases h7 with ⟨a, b, d, e⟩ | ⟨a, b, d, e⟩ | ⟨a, b, d, e⟩
  · rw [e]
    rcases z_leaf_c a with rfl | rfl | rfl | rfl | rfl
    · rfl
    · rfl
    · show (f_D_hasBit x (zi st) (zi 0)).bind (fun w33 => some (q_nb w33)) = _
      rw [z_hbb (by omega)]
      simp only [Option.bind_some, zb_nb]
      rfl
    · show (f_D_hasBit x (zi st) (zi 1)).bind (fun w33 => some (q_nb w33)) = _
      rw [z_hbb (by omega)]
      simp only [Option.bind_some, zb_nb]
      rfl
    · show (f_D_hasBit x (zi st) (zi 2)).bind (fun w33 => some (q_nb w33)) = _
      rw [z_hbb (by omega)]
      simp only [Option.bind_some, zb_nb]
      rfl
  · rw [e, hm rt d, b, hm rt d]
    simp only [z_AS]
    generalize z_bt (zi st) (3 + nu) = e1
    generalize v rt = u1
    rcases z_pre_c a with rfl | rfl | rfl | rfl <;> cases e1 <;> cases u1 <;> rfl
  · rw [e, hm rt d, hm lf b]
    simp only [z_AS]
    generalize z_bt (zi st) (3 + nu) = e1
    generalize v rt = u1
    generalize v lf = u2
    rcases z_jn_cc a with rfl | rfl | rfl | rfl | rfl <;> cases e1 <;> cases u1 <;> cases u2 <;> rfl
theorem z_parts_L (hs : s ≤ 18) (h7 : x.2 c 7 = zi s) (hnd : ∀ i, i < s → z_nd (z_AS st) c v x i) : ∀ k i, i ≤ s → s < i + k → f_Fo_partsAt_L4 c k x (zi st) (z_ms v i) (zi i) = some (z_ms v s) := by
  intro k
  induction k with
  | zero => intro i h1 h2; omega
  | succ k ih =>
    intro i h1 h2
    simp only [f_Fo_partsAt_L4]
    by_cases his : i = s
    · subst his
      rw [if_pos (by rw [h7, zi_le (by omega) (by omega)]; omega)]
    · rw [if_neg (by rw [h7, zi_le (by omega) (by omega)]; omega), z_isPart (by omega) (hnd i (by omega)) (fun j hj => by rw [z_bt_ms (by omega)]; simp [hj])]
      simp only [Option.bind_some, zi_succ, q_let, zb_0]
      have e : z_ms v (i + 1) = if v i then z_ms v i ||| (1 <<< (zi i &&& 31)) else z_ms v i := rfl
      have := ih (i + 1) (by omega) (by omega)
      rw [e] at this
      cases hv : v i with
      | true => simpa [hv] using this
      | false => simpa [hv] using this
theorem z_parts (hs : s ≤ 18) (h7 : x.2 c 7 = zi s) (hnd : ∀ i, i < s → z_nd (z_AS st) c v x i) : f_Fo_partsAt c x (zi st) = some (z_ms v s) := z_parts_L hs h7 hnd q_fu 0 (by omega) (by simp only [q_fu]; omega)
theorem z_whole (hs1 : 1 ≤ s) (hs : s ≤ 18) (h7 : x.2 c 7 = zi s) : f_Fo_isWholeIn c x (z_ms v s) = some (zb (v (s - 1))) := by
  unfold f_Fo_isWholeIn
  rw [h7, zi_pred (by omega), z_hbb (by omega), z_bt_ms (by omega)]
  simp only [Option.bind_some, zb_nb]
  have : s - 1 < s := by omega
  simp [this]
/-- the class's list of temporal parts: part jj i, its sign sg i, its right part rr i -/
def z_tl (c s t : Nat) (sg jj rr : Nat → Nat) (x : q_W) : Prop := ∀ i, i < t → x.2 (c + 5) i = zi (jj i) ∧ jj i < s ∧ x.2 (c + 1) (jj i) = zi (sg i) ∧ x.2 (c + 3) (jj i) = zi (rr i) ∧ rr i < jj i ∧ sg i < 200
def z_wb (sg jj rr : Nat → Nat) (v : Nat → Bool) (i : Nat) : Bool := if sg i = 88 then v (rr i) else v (jj i)
def z_fo (sg : Nat → Nat) (i : Nat) : Bool := sg i == 70 || sg i == 85
variable {sg jj rr : Nat → Nat}
theorem z_exp_L (hs : s ≤ 18) (ht : t ≤ 5) (h8 : x.2 c 8 = zi t) (htl : z_tl c s t sg jj rr x) : ∀ k i, i ≤ t → t < i + k → f_Fo_expectedBefore_L4 c k x (z_ms v s) (z_ms (z_wb sg jj rr v) i) (zi i) = some (z_ms (z_wb sg jj rr v) t) := by
  intro k
  induction k with
  | zero => intro i h1 h2; omega
  | succ k ih =>
    intro i h1 h2
    simp only [f_Fo_expectedBefore_L4]
    by_cases his : i = t
    · subst his
      rw [if_pos (by rw [h8, zi_le (by omega) (by omega)]; omega)]
    · rw [if_neg (by rw [h8, zi_le (by omega) (by omega)]; omega)]
      obtain ⟨g1, g2, g3, g4, g5, g6⟩ := htl i (by omega)
      rw [z_ld (show i < 5 by omega) (by omega), g1]
      simp only [Option.bind_some]
      rw [z_ld (show jj i < 18 by omega) (by omega), z_ld (show jj i < 18 by omega) (by omega), g3, g4]
      simp only [Option.bind_some]
      have := ih (i + 1) (by omega) (by omega)
      have e : z_ms (z_wb sg jj rr v) (i + 1) = if z_wb sg jj rr v i then z_ms (z_wb sg jj rr v) i ||| (1 <<< (zi i &&& 31)) else z_ms (z_wb sg jj rr v) i := rfl
      rw [e] at this
      have h88 : zi (sg i) = 88 ↔ sg i = 88 := zi_eq (m := 88) (by omega) (by omega)
      by_cases hx : sg i = 88
      · rw [if_neg (fun h => h (h88.mpr hx))]
        unfold f_Fo_expectedBefore_J45
        rw [z_hbb (by omega), z_bt_ms (by omega)]
        simp only [Option.bind_some, zi_succ, q_let, zb_0]
        have hr : rr i < s := by omega
        cases hv : v (rr i) with
        | true => simpa [hv, z_wb, hx, hr] using this
        | false => simpa [hv, z_wb, hx, hr] using this
      · rw [if_pos (fun h => hx (h88.mp h))]
        unfold f_Fo_expectedBefore_J45
        rw [z_hbb (by omega), z_bt_ms (by omega)]
        simp only [Option.bind_some, zi_succ, q_let, zb_0]
        cases hv : v (jj i) with
        | true => simpa [hv, z_wb, hx, g2] using this
        | false => simpa [hv, z_wb, hx, g2] using this
theorem z_exp (hs : s ≤ 18) (ht : t ≤ 5) (h8 : x.2 c 8 = zi t) (htl : z_tl c s t sg jj rr x) : f_Fo_expectedBefore c x (z_ms v s) = some (z_ms (z_wb sg jj rr v) t) := z_exp_L hs ht h8 htl q_fu 0 (by omega) (by simp only [q_fu]; omega)
theorem z_once {j : Nat} {n : Nat} (hj : j < 18) (h : x.2 (c + 1) j = zi n) (hn : n < 200) : f_Fo_isForOnce c x (zi j) = some (zb (n == 70 || n == 85)) := by
  unfold f_Fo_isForOnce
  rw [z_ld hj (by omega), h]
  simp only [Option.bind_some]
  have h70 : zi n = 70 ↔ n = 70 := zi_eq (m := 70) (by omega) (by omega)
  have h85 : zi n = 85 ↔ n = 85 := zi_eq (m := 85) (by omega) (by omega)
  by_cases h1 : n = 70
  · rw [if_pos (h70.mpr h1)]; simp [h1]; rfl
  · rw [if_neg (fun h => h1 (h70.mp h))]
    by_cases h2 : n = 85
    · rw [if_neg (fun h => h (h85.mpr h2))]; simp [h2]; rfl
    · have e : (n == 70 || n == 85) = false := by simp [h1, h2]
      rw [if_pos (fun h => h2 (h85.mp h)), e]; rfl
/-- the class's list of promised parts: the temporal ones with the numbers pr -/
def z_ql (c t : Nat) (pr : List Nat) (x : q_W) : Prop := ∀ k, k < pr.length → pr.getD k 0 < t ∧ x.2 (c + 6) k = x.2 (c + 5) (pr.getD k 0)
def z_kp (sg rr : Nat → Nat) (pr : List Nat) (v : Nat → Bool) (k : Nat) : Bool := v (rr (pr.getD k 0)) == z_fo sg (pr.getD k 0)
variable {pr : List Nat}
theorem z_kept_L (hs : s ≤ 18) (ht : t ≤ 5) (hp : pr.length ≤ t) (h9 : x.2 c 9 = zi pr.length) (htl : z_tl c s t sg jj rr x) (hql : z_ql c t pr x) : ∀ k i, i ≤ pr.length → pr.length < i + k → f_Fo_keptIn_L4 c k x (z_ms v s) (z_ms (z_kp sg rr pr v) i) (zi i) = some (z_ms (z_kp sg rr pr v) pr.length) := by
  intro k
  induction k with
  | zero => intro i h1 h2; omega
  | succ k ih =>
    intro i h1 h2
    simp only [f_Fo_keptIn_L4]
    by_cases his : i = pr.length
    · subst his
      rw [if_pos (by rw [h9, zi_le (by omega) (by omega)]; omega)]
    · rw [if_neg (by rw [h9, zi_le (by omega) (by omega)]; omega)]
      obtain ⟨q1, q2⟩ := hql i (by omega)
      obtain ⟨g1, g2, g3, g4, g5, g6⟩ := htl _ q1
      rw [z_ld (show i < 5 by omega) (by omega), q2, g1]
      simp only [Option.bind_some]
      rw [z_ld (show jj (pr.getD i 0) < 18 by omega) (by omega), g4]
      simp only [Option.bind_some]
      rw [z_hbb (by omega), z_once (by omega) g3 g6, z_bt_ms (by omega)]
      simp only [Option.bind_some, zi_succ, q_let]
      have hr : rr (pr.getD i 0) < s := by omega
      have := ih (i + 1) (by omega) (by omega)
      have e : z_ms (z_kp sg rr pr v) (i + 1) = if z_kp sg rr pr v i then z_ms (z_kp sg rr pr v) i ||| (1 <<< (zi i &&& 31)) else z_ms (z_kp sg rr pr v) i := rfl
      rw [e] at this
      have hk : z_kp sg rr pr v i = true ↔ (decide (rr (pr.getD i 0) < s) && v (rr (pr.getD i 0))) = (sg (pr.getD i 0) == 70 || sg (pr.getD i 0) == 85) := by
        unfold z_kp z_fo
        rw [beq_iff_eq, decide_eq_true hr, Bool.true_and]
      by_cases hc : z_kp sg rr pr v i = true
      · rw [if_neg (fun h => h (zb_e.mpr (hk.mp hc)))]
        rw [if_pos hc] at this
        exact this
      · rw [if_pos (fun h => hc (hk.mpr (zb_e.mp h)))]
        rw [if_neg hc] at this
        exact this
theorem z_kept (hs : s ≤ 18) (ht : t ≤ 5) (hp : pr.length ≤ t) (h9 : x.2 c 9 = zi pr.length) (htl : z_tl c s t sg jj rr x) (hql : z_ql c t pr x) : f_Fo_keptIn c x (z_ms v s) = some (z_ms (z_kp sg rr pr v) pr.length) := z_kept_L hs ht hp h9 htl hql q_fu 0 (by omega) (by simp only [q_fu]; omega)
theorem z_opn_L (hs : s ≤ 18) (ht : t ≤ 5) (hp : pr.length ≤ t) (h9 : x.2 c 9 = zi pr.length) (htl : z_tl c s t sg jj rr x) (hql : z_ql c t pr x) : ∀ k i, i ≤ pr.length → pr.length < i + k → f_Fo_openIn_L4 c k x (z_ms v s) (z_ms (z_kp sg jj pr v) i) (zi i) = some (z_ms (z_kp sg jj pr v) pr.length) := by
  intro k
  induction k with
  | zero => intro i h1 h2; omega
  | succ k ih =>
    intro i h1 h2
    simp only [f_Fo_openIn_L4]
    by_cases his : i = pr.length
    · subst his
      rw [if_pos (by rw [h9, zi_le (by omega) (by omega)]; omega)]
    · rw [if_neg (by rw [h9, zi_le (by omega) (by omega)]; omega)]
      obtain ⟨q1, q2⟩ := hql i (by omega)
      obtain ⟨g1, g2, g3, g4, g5, g6⟩ := htl _ q1
      rw [z_ld (show i < 5 by omega) (by omega), q2, g1]
      simp only [Option.bind_some]
      rw [z_hbb (by omega), z_once (by omega) g3 g6, z_bt_ms (by omega)]
      simp only [Option.bind_some, zi_succ, q_let]
      have := ih (i + 1) (by omega) (by omega)
      have e : z_ms (z_kp sg jj pr v) (i + 1) = if z_kp sg jj pr v i then z_ms (z_kp sg jj pr v) i ||| (1 <<< (zi i &&& 31)) else z_ms (z_kp sg jj pr v) i := rfl
      rw [e] at this
      have hk : z_kp sg jj pr v i = true ↔ (decide (jj (pr.getD i 0) < s) && v (jj (pr.getD i 0))) = (sg (pr.getD i 0) == 70 || sg (pr.getD i 0) == 85) := by
        unfold z_kp z_fo
        rw [beq_iff_eq, decide_eq_true g2, Bool.true_and]
      by_cases hc : z_kp sg jj pr v i = true
      · rw [if_neg (fun h => h (zb_e.mpr (hk.mp hc)))]
        rw [if_pos hc] at this
        exact this
      · rw [if_pos (fun h => hc (hk.mpr (zb_e.mp h)))]
        rw [if_neg hc] at this
        exact this
theorem z_opn (hs : s ≤ 18) (ht : t ≤ 5) (hp : pr.length ≤ t) (h9 : x.2 c 9 = zi pr.length) (htl : z_tl c s t sg jj rr x) (hql : z_ql c t pr x) : f_Fo_openIn c x (z_ms v s) = some (z_ms (z_kp sg jj pr v) pr.length) := z_opn_L hs ht hp h9 htl hql q_fu 0 (by omega) (by simp only [q_fu]; omega)
end ZS
