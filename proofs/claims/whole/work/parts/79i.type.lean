/-! TYPING. -/
section ZT
variable {c d : Nat} {x : q_W} {w : Int32}
theorem z_ushr : ∀ j, j < 4 → ((8 * zi j).toUInt32 &&& Int32.toUInt32 31).toBitVec % 32 = BitVec.ofNat 32 (8 * j) := by decide
theorem z_255 : ∀ i, i < 32 → z_bt 255 i = decide (i < 8) := by decide
theorem z_byte {j : Nat} (hj : j < 4) : ∃ b, b < 256 ∧ f_Li_byteOf x w (zi j) = some (zi b) ∧ ((w >>> ((8 * zi j) &&& 31)) &&& 255) = zi b := by
  have hi : ∀ i, 8 ≤ i → z_bt (255 : Int32) i = false := fun i h => by
    by_cases h2 : i < 32
    · rw [z_255 i h2, decide_eq_false (by omega)]
    · exact z_bt_hi (by omega)
  obtain ⟨b, h1, h2⟩ := z_bt_nat (w := (w >>> ((8 * zi j) &&& 31)) &&& 255) (t := 8) (by omega) (fun i h => by rw [z_bt_and, hi i h, Bool.and_false])
  refine ⟨b, h2, ?_, h1⟩
  unfold f_Li_byteOf
  rw [← h1]
  congr 1
  apply z_bt_ext
  intro i hi32
  rw [z_bt_and, z_bt_and]
  by_cases h8 : i < 8
  · congr 1
    rw [show (8 : Int32) * zi j = zi (8 * j) from zi_mul 8 j, z_bt_shr (by omega) (by omega)]
    have e := z_ushr j hj
    rw [show (8 : Int32) * zi j = zi (8 * j) from zi_mul 8 j] at e
    unfold z_bt
    show ((w.toUInt32 >>> ((zi (8 * j)).toUInt32 &&& Int32.toUInt32 31)).toBitVec).getLsbD i = _
    rw [UInt32.toBitVec_shiftRight, e]
    show (w.toBitVec >>> (BitVec.ofNat 32 (8 * j))).getLsbD i = _
    rw [BitVec.ushiftRight_eq', BitVec.getLsbD_ushiftRight, show (BitVec.ofNat 32 (8 * j)).toNat = 8 * j by rw [BitVec.toNat_ofNat]; omega, Nat.add_comm]
  · rw [hi i (by omega), Bool.and_false, Bool.and_false]
theorem z_chr : ∀ b, b < 256 → vp_nar .char (((zi b).toUInt32 % 65536).toInt32) = zi b := by decide +kernel
def z_tc (B : Nat → Nat) : Nat → Nat → Nat
  | 0, j => j
  | m + 1, j => if B j = 0 then j else z_tc B m (j + 1)
def z_vis (b : Nat) : Bool := decide (33 ≤ b) && decide (b ≤ 126)
def z_av (B : Nat → Nat) : Nat → Nat → Bool
  | 0, _ => true
  | m + 1, i => z_vis (B i) && z_av B m (i + 1)
def z_ty (B : Nat → Nat) : Nat → Nat → Nat → Bool → Bool → Nat × Bool
  | 0, _, n, _, b => (n, b)
  | m + 1, j, n, s, b => z_ty B m (j + 1) (if (s && decide (B j ≠ 0)) = true then n + 1 else n) (s && decide (B j ≠ 0)) (b || ((s && decide (B j ≠ 0)) && !z_vis (B j)))
theorem z_tc_ge {B : Nat → Nat} : ∀ m j, j ≤ z_tc B m j ∧ z_tc B m j ≤ j + m := by
  intro m
  induction m with
  | zero => intro j; simp [z_tc]
  | succ m ih =>
    intro j
    simp only [z_tc]
    have := ih (j + 1)
    split <;> omega
theorem z_ty_f {B : Nat → Nat} : ∀ m j n b, z_ty B m j n false b = (n, b) := by
  intro m
  induction m with
  | zero => intro j n b; rfl
  | succ m ih => intro j n b; simp only [z_ty, Bool.false_and, Bool.or_false]; exact ih (j + 1) n b
theorem z_ty_t {B : Nat → Nat} : ∀ m j b, z_ty B m j j true b = (z_tc B m j, b || !z_av B (z_tc B m j - j) j) := by
  intro m
  induction m with
  | zero => intro j b; simp [z_ty, z_tc, z_av]
  | succ m ih =>
    intro j b
    simp only [z_ty, z_tc]
    by_cases h : B j = 0
    · simp only [h, ne_eq, not_true_eq_false, decide_false, Bool.and_false, Bool.false_and, Bool.or_false, if_true]
      simp only [Bool.false_eq_true, if_false]
      rw [z_ty_f, Nat.sub_self]
      simp [z_av]
    · have hd : decide (B j ≠ 0) = true := decide_eq_true h
      simp only [hd, Bool.and_true, Bool.true_and, if_true, h, if_false]
      rw [ih (j + 1)]
      obtain ⟨g1, g2⟩ := z_tc_ge (B := B) m (j + 1)
      rw [show z_tc B m (j + 1) - j = (z_tc B m (j + 1) - (j + 1)) + 1 by omega]
      simp only [z_av]
      rw [Bool.not_and, Bool.or_assoc]
variable {B : Nat → Nat}
theorem z_tcL (hB : ∀ j, j < 4 → f_Li_byteOf x w (zi j) = some (zi (B j)) ∧ B j < 256) : ∀ n m j, j + m = 4 → m < n → f_Li_countTyped_L2 n x w (zi j) = some (zi (z_tc B m j)) := by
  intro n
  induction n with
  | zero => intro m j h1 h2; omega
  | succ n ih =>
    intro m j h1 h2
    simp only [f_Li_countTyped_L2]
    cases m with
    | zero =>
      rw [if_pos (by rw [show (4 : Int32) = zi 4 from rfl, zi_le (by omega) (by omega)]; omega)]
      rfl
    | succ m =>
      obtain ⟨b1, b2⟩ := hB j (by omega)
      rw [if_neg (by rw [show (4 : Int32) = zi 4 from rfl, zi_le (by omega) (by omega)]; omega), b1]
      simp only [Option.bind_some, zi_succ, z_tc]
      have e : zi (B j) = 0 ↔ B j = 0 := zi_eq (m := 0) (by omega) (by omega)
      by_cases h : B j = 0
      · rw [if_pos (e.mpr h), if_pos h]
      · rw [if_neg (fun hh => h (e.mp hh)), if_neg h]
        exact ih m (j + 1) (by omega) (by omega)
theorem z_visI {b : Nat} (hb : b < 256) : (zi b < 33 ↔ ¬ 33 ≤ b) ∧ (zi b ≤ 126 ↔ b ≤ 126) := by
  refine ⟨?_, zi_le (m := 126) (by omega) (by omega)⟩
  rw [show (33 : Int32) = zi 33 from rfl, zi_lt (by omega) (by omega)]
  omega
theorem z_avL (hB : ∀ j, j < 4 → f_Li_byteOf x w (zi j) = some (zi (B j)) ∧ B j < 256) {k : Nat} (hk : k ≤ 4) : ∀ n m j, j + m = k → m < n → f_Li_areVisible_L2 n x w (zi k) (zi j) = some (zb (z_av B m j)) := by
  intro n
  induction n with
  | zero => intro m j h1 h2; omega
  | succ n ih =>
    intro m j h1 h2
    simp only [f_Li_areVisible_L2]
    cases m with
    | zero =>
      rw [if_pos (by rw [zi_le (by omega) (by omega)]; omega)]
      rfl
    | succ m =>
      obtain ⟨b1, b2⟩ := hB j (by omega)
      rw [if_neg (by rw [zi_le (by omega) (by omega)]; omega), b1]
      simp only [Option.bind_some, zi_succ, z_av, z_vis]
      obtain ⟨e1, e2⟩ := z_visI b2
      by_cases h1 : 33 ≤ B j
      · rw [if_neg (fun hh => e1.mp hh h1), decide_eq_true h1]
        by_cases h2 : B j ≤ 126
        · rw [if_pos (e2.mpr h2), decide_eq_true h2, Bool.true_and, Bool.true_and]
          exact ih m (j + 1) (by omega) (by omega)
        · rw [if_neg (fun hh => h2 (e2.mp hh)), decide_eq_false h2]
          rfl
      · rw [if_pos (e1.mpr h1), decide_eq_false h1]
        rfl
theorem z_tyL {E : q_W → Int32 → Int32 → Int32 → Option (Int32 × q_W)} (hB : ∀ j, j < 4 → ((w >>> ((8 * zi j) &&& 31)) &&& 255) = zi (B j) ∧ B j < 256) : ∀ n m j k (s b : Bool), j + m = 4 → m < n → f_Mo_type_L10 E n x w (zi k) (zb s) (zb b) (zi j) = E x w (zi (z_ty B m j k s b).1) (zb (z_ty B m j k s b).2) := by
  intro n
  induction n with
  | zero => intro m j k s b h1 h2; omega
  | succ n ih =>
    intro m j k s b h1 h2
    simp only [f_Mo_type_L10]
    cases m with
    | zero =>
      rw [if_pos (by rw [show (4 : Int32) = zi 4 from rfl, zi_le (by omega) (by omega)]; omega)]
      rfl
    | succ m =>
      obtain ⟨b1, b2⟩ := hB j (by omega)
      rw [if_neg (by rw [show (4 : Int32) = zi 4 from rfl, zi_le (by omega) (by omega)]; omega), b1]
      simp only [q_let]
      have e0 : zi (B j) = 0 ↔ B j = 0 := zi_eq (m := 0) (by omega) (by omega)
      obtain ⟨e1, e2⟩ := z_visI b2
      have key : ∀ s' : Bool, s' = (s && decide (B j ≠ 0)) → f_Mo_type_J43 (f_Mo_type_L10 E n) E x w (zi k) (zb b) (zi j) (zi (B j)) (zb s') = E x w (zi (z_ty B (m + 1) j k s b).1) (zb (z_ty B (m + 1) j k s b).2) := by
        intro s' hs'
        have nxt : ∀ b' : Bool, b' = (b || (s' && !z_vis (B j))) → f_Mo_type_J72 (f_Mo_type_L10 E n) E x w (zi k) (zb s') (zi j) (zb b') = E x w (zi (z_ty B (m + 1) j k s b).1) (zb (z_ty B (m + 1) j k s b).2) := by
          intro b' hb'
          unfold f_Mo_type_J72
          simp only [q_let, zi_succ, z_ty]
          rw [← hs', ← hb']
          cases hss : s' with
          | false =>
            rw [if_pos (show zb false = 0 from rfl)]
            exact ih m (j + 1) k false b' (by omega) (by omega)
          | true =>
            rw [if_neg (show ¬ zb true = 0 by decide)]
            exact ih m (j + 1) (k + 1) true b' (by omega) (by omega)
        unfold f_Mo_type_J43 f_Mo_type_J67 f_Mo_type_J71
        cases hb : b with
        | true =>
          rw [if_pos (show ¬ zb true = 0 by decide)]
          rw [hb] at nxt
          exact nxt true (by simp)
        | false =>
          rw [if_neg (fun hh => hh rfl)]
          rw [hb] at nxt
          cases hss : s' with
          | false =>
            rw [if_pos (show zb false = 0 from rfl)]
            rw [hss] at nxt
            exact nxt false (by simp)
          | true =>
            rw [if_neg (show ¬ zb true = 0 by decide)]
            rw [hss] at nxt
            unfold z_vis at nxt
            by_cases h33 : 33 ≤ B j
            · rw [if_neg (fun hh => e1.mp hh h33)]
              by_cases h126 : B j ≤ 126
              · rw [if_pos (e2.mpr h126)]
                exact nxt false (by rw [decide_eq_true h33, decide_eq_true h126]; rfl)
              · rw [if_neg (fun hh => h126 (e2.mp hh))]
                exact nxt true (by rw [decide_eq_false h126, Bool.and_false]; rfl)
            · rw [if_pos (e1.mpr h33)]
              exact nxt true (by rw [decide_eq_false h33, Bool.false_and]; rfl)
      unfold f_Mo_type_J42
      cases hs : s with
      | false =>
        rw [if_pos (show zb false = 0 from rfl)]
        rw [hs] at key
        exact key false (by simp)
      | true =>
        rw [if_neg (show ¬ zb true = 0 by decide)]
        rw [hs] at key
        by_cases h0 : B j = 0
        · rw [if_pos (e0.mpr h0)]
          exact key false (by simp [h0])
        · rw [if_neg (fun hh => h0 (e0.mp hh))]
          exact key true (by simp [h0])
theorem z_av_all {B : Nat → Nat} : ∀ m j, z_av B m j = true → ∀ i, j ≤ i → i < j + m → 33 ≤ B i ∧ B i ≤ 126 := by
  intro m
  induction m with
  | zero => intro j _ i h1 h2; omega
  | succ m ih =>
    intro j h i h1 h2
    simp only [z_av, z_vis, Bool.and_eq_true, decide_eq_true_iff] at h
    by_cases hij : i = j
    · subst hij; exact h.1
    · exact ih (j + 1) h.2 i (by omega) (by omega)
theorem z_appL (hB : ∀ (x : q_W) j, j < 4 → f_Li_byteOf x w (zi j) = some (zi (B j)) ∧ B j < 256) {k l : Nat} (hk : k ≤ 4) (hl : l + k ≤ 18) : ∀ (n i : Nat) (x : q_W), i ≤ k → k < i + n → x.2 1 1 = zi l → ∃ y, f_Li_append_L15 n x w (zi k) (zi i) = some (1, q_wr y 1 1 (zi (l + k))) ∧ z_only (· = 2) x y ∧ (∀ j, l + i ≤ j → j < l + k → y.2 2 j = zi (B (j - l))) ∧ ∀ j, j < l + i → y.2 2 j = x.2 2 j := by
  intro n
  induction n with
  | zero => intro i x h1 h2; omega
  | succ n ih =>
    intro i x h1 h2 h11
    simp only [f_Li_append_L15]
    by_cases hi : i = k
    · subst hi
      rw [if_pos (by rw [zi_le (by omega) (by omega)]; omega), h11, zi_add]
      exact ⟨x, rfl, z_only_rf, fun j a b => by omega, fun _ _ => rfl⟩
    · obtain ⟨b1, b2⟩ := hB x i (by omega)
      rw [if_neg (by rw [zi_le (by omega) (by omega)]; omega), b1]
      simp only [Option.bind_some]
      rw [z_chr _ b2, h11, zi_add, z_sto (show l + i < 18 by omega) (by omega)]
      simp only [Option.bind_some, zi_succ]
      obtain ⟨y, y1, y2, y3, y4⟩ := ih (i + 1) (q_wr x 2 (l + i) (zi (B i))) (by omega) (by omega) (by rw [z_wrp (by omega)]; exact h11)
      refine ⟨y, y1, z_only_tr (z_only_wr rfl) y2, fun j a b => ?_, fun j hj => ?_⟩
      · by_cases hji : j = l + i
        · subst hji; rw [y4 _ (by omega), z_wr1, Nat.add_sub_cancel_left]
        · exact y3 j (by omega) b
      · rw [y4 j (by omega), z_wr2 (Or.inr (by omega))]
theorem z_tapL (hB : ∀ j, j < 4 → ((w >>> ((8 * zi j) &&& 31)) &&& 255) = zi (B j) ∧ B j < 256) {k l : Nat} (hk : k ≤ 4) (hl : l + k ≤ 18) : ∀ (n i : Nat) (x : q_W), i ≤ k → k < i + n → x.2 32 2 = zi (l + i) → ∃ y, f_Mo_type_L127 n x w (zi k) (zi i) = some (1, y) ∧ (y.1 = x.1 ∧ (∀ q, q ≠ 32 → q ≠ 33 → y.2 q = x.2 q) ∧ (∀ j, j ≠ 2 → y.2 32 j = x.2 32 j)) ∧ y.2 32 2 = zi (l + k) ∧ (∀ j, l + i ≤ j → j < l + k → y.2 33 j = zi (B (j - l))) ∧ ∀ j, j < l + i → y.2 33 j = x.2 33 j := by
  intro n
  induction n with
  | zero => intro i x h1 h2; omega
  | succ n ih =>
    intro i x h1 h2 h2t
    simp only [f_Mo_type_L127]
    by_cases hi : i = k
    · subst hi
      rw [if_pos (by rw [zi_le (by omega) (by omega)]; omega)]
      exact ⟨x, rfl, ⟨rfl, fun _ _ _ => rfl, fun _ _ => rfl⟩, h2t, fun j a b => by omega, fun _ _ => rfl⟩
    · obtain ⟨b1, b2⟩ := hB i (by omega)
      rw [if_neg (by rw [zi_le (by omega) (by omega)]; omega), b1, h2t, z_sto (show l + i < 18 by omega) (by omega)]
      simp only [Option.bind_some, q_let, zi_succ]
      rw [z_wrp (by omega), h2t, zi_succ]
      generalize hx1 : q_wr (q_wr x 33 (l + i) (zi (B i))) 32 2 (zi (l + i + 1)) = x1
      have x1q : ∀ q, q ≠ 32 → q ≠ 33 → x1.2 q = x.2 q := fun q q1 q2 => by rw [← hx1, z_wrp q1, z_wrp q2]
      have x132 : ∀ j, j ≠ 2 → x1.2 32 j = x.2 32 j := fun j hj => by rw [← hx1, z_wr2 (Or.inr hj), z_wrp (by omega)]
      obtain ⟨y, y1, ⟨y0, ya, yb⟩, y2, y3, y4⟩ := ih (i + 1) x1 (by omega) (by omega) (by rw [← hx1, z_wr1]; rfl)
      refine ⟨y, y1, ⟨y0.trans (by rw [← hx1]; rfl), fun q q1 q2 => (ya q q1 q2).trans (x1q q q1 q2), fun j hj => (yb j hj).trans (x132 j hj)⟩, y2, fun j a b => ?_, fun j hj => ?_⟩
      · by_cases hji : j = l + i
        · subst hji; rw [y4 _ (by omega), ← hx1, z_wrp (by omega), z_wr1, Nat.add_sub_cancel_left]
        · exact y3 j (by omega) b
      · rw [y4 j (by omega), ← hx1, z_wrp (by omega), z_wr2 (Or.inr (by omega))]
theorem z_c_type (h : z_Rel c d x) : z_CaB c d (f_Lw_type c d x w) (fun y => f_Mo_type y w) := by
  have hbx : ∀ j, ∃ b, j < 4 → b < 256 ∧ (∀ x : q_W, f_Li_byteOf x w (zi j) = some (zi b)) ∧ ((w >>> ((8 * zi j) &&& 31)) &&& 255) = zi b := fun j => by
    by_cases hj : j < 4
    · obtain ⟨b, b1, b2, b3⟩ := z_byte (x := x) (w := w) hj
      exact ⟨b, fun _ => ⟨b1, fun x' => b2, b3⟩⟩
    · exact ⟨0, fun h => absurd h hj⟩
  obtain ⟨B, hB⟩ := Classical.skolem.mp hbx
  have hBc : ∀ (x : q_W) j, j < 4 → f_Li_byteOf x w (zi j) = some (zi (B j)) ∧ B j < 256 := fun x j hj => ⟨(hB j hj).2.1 x, (hB j hj).1⟩
  have hBm : ∀ j, j < 4 → ((w >>> ((8 * zi j) &&& 31)) &&& 255) = zi (B j) ∧ B j < 256 := fun j hj => ⟨(hB j hj).2.2, (hB j hj).1⟩
  generalize hk : z_tc B 4 0 = k
  have hk4 : k ≤ 4 := by rw [← hk]; have := (z_tc_ge (B := B) 4 0).2; omega
  have e1 : f_Li_countTyped x w = some (zi k) := by rw [← hk]; exact z_tcL (hBc x) q_fu 4 0 (by omega) (by simp only [q_fu]; omega)
  have e2 : f_Li_areVisible x w (zi k) = some (zb (z_av B k 0)) := z_avL (hBc x) hk4 q_fu k 0 (by omega) (by simp only [q_fu]; omega)
  have e3 : ∀ y : q_W, f_Mo_type y w = (if zb (!z_av B k 0) = 0 then f_Mo_type_J103 y w (zi k) (zb (!z_av B k 0)) 0 else f_Mo_type_J103 y w (zi k) (zb (!z_av B k 0)) 1) := by
    intro y
    unfold f_Mo_type
    have := z_tyL (x := y) (E := fun x1 u2 u3 u4 => if u4 = 0 then (f_Mo_type_J103 x1 u2 u3 u4 0) else (f_Mo_type_J103 x1 u2 u3 u4 1)) hBm q_fu 4 0 0 true false (by omega) (by simp only [q_fu]; omega)
    rw [z_ty_t, hk, Nat.sub_zero, Bool.false_or] at this
    exact this
  obtain ⟨l, ch, ⟨l18, l1, l2⟩, hch⟩ := id h.2.1
  have hnb : ∀ b : Bool, q_nb (zb b) = zb b := zb_nb
  cases hv : z_av B k 0 with
  | false =>
    rw [hv] at e2 e3
    refine ⟨1, x, 0, q_wr x 32 0 1, ?_, ?_, z_wr1, fun h => absurd h z_10, z_Rel_thr h⟩
    · unfold f_Lw_type f_D_type
      rw [e1]
      simp only [Option.bind_some]
      rw [e2]
      rfl
    · show f_Mo_type x w = _
      rw [e3 x]
      unfold f_Mo_type_J103
      rw [if_neg (show ¬ zb (!false) = 0 by decide)]
      simp only [q_let]
      rw [if_pos (show ¬ zb (!false) = 0 by decide)]
      rfl
  | true =>
    rw [hv] at e2 e3
    have hall := z_av_all k 0 hv
    have hJ : ∀ y : q_W, f_Mo_type y w = (if (y.2 32 2) + zi k ≤ 18 then f_Mo_type_L127 q_fu (q_wr y 32 0 0) w (zi k) 0 else some (0, q_wr y 32 0 0)) := by
      intro y
      rw [e3 y, if_pos (show zb (!true) = 0 from rfl)]
      unfold f_Mo_type_J103
      simp only [q_let]
      rw [if_neg (fun hh => hh rfl), z_wr2 (Or.inr (by omega))]
      rfl
    have hD : f_D_type c d x w = (f_Li_append x w (zi k)).bind fun q3 => some (.inl (q_nb q3.1), q3.2) := by
      unfold f_D_type
      rw [e1]
      simp only [Option.bind_some]
      rw [e2]
      rfl
    by_cases hfit : l + k ≤ 18
    · have hfit' : zi (l + k) ≤ (18 : Int32) := (zi_le (m := 18) (by omega) (by omega)).mpr hfit
      obtain ⟨y, y1, y2, y3, y4⟩ := z_appL hBc hk4 hfit q_fu 0 x (by omega) (by simp only [q_fu]; omega) l1
      have eA : f_Li_append x w (zi k) = some (1, q_wr y 1 1 (zi (l + k))) := by
        unfold f_Li_append
        rw [l1, zi_add, if_pos hfit']
        exact y1
      generalize hy' : q_wr y 1 1 (zi (l + k)) = y' at eA
      have yq : ∀ q, q ≠ 1 → q ≠ 2 → y'.2 q = x.2 q := fun q q1 q2 => by rw [← hy', z_wrp q1, y2.2 q q2]
      have y11 : y'.2 1 1 = zi (l + k) := by rw [← hy', z_wr1]
      have y22 : ∀ j, y'.2 2 j = y.2 2 j := fun j => by rw [← hy', z_wrp (by omega)]
      generalize hz0 : q_wr (((1 : Int64), y'.2) : q_W) 32 0 0 = z0
      have z0q : ∀ q, q ≠ 32 → z0.2 q = y'.2 q := fun q hq => by rw [← hz0, z_wrp hq]
      have z032 : ∀ j, j ≠ 0 → z0.2 32 j = x.2 32 j := fun j hj => by
        rw [← hz0, z_wr2 (Or.inr hj)]
        show y'.2 32 j = _
        rw [yq 32 (by omega) (by omega)]
      obtain ⟨z, z1, ⟨za, zq, z32⟩, z2, z3, z4⟩ := z_tapL hBm hk4 hfit q_fu 0 z0 (by omega) (by simp only [q_fu]; omega) (by rw [z032 2 (by omega)]; exact l2)
      have zx : ∀ q, q ≠ 1 → q ≠ 2 → q ≠ 32 → q ≠ 33 → z.2 q = x.2 q := fun q q1 q2 q3 q4 => by rw [zq q q3 q4, z0q q q3, yq q q1 q2]
      have zx32 : ∀ j, j ≠ 0 → j ≠ 2 → z.2 32 j = x.2 32 j := fun j j0 j2 => by rw [z32 j j2, z032 j j0]
      refine ⟨0, (1, y'.2), 1, z, ?_, ?_, ?_, fun _ => ?_, ?_⟩
      · unfold f_Lw_type
        rw [hD, eA]
        simp only [Option.bind_some, q_tcT]
        rw [if_neg (show ¬ q_nb 1 = 0 from z_10)]
        rfl
      · show f_Mo_type ((1 : Int64), y'.2) w = _
        rw [hJ]
        have e : (((1 : Int64), y'.2) : q_W).2 32 2 + zi k = zi (l + k) := by
          show y'.2 32 2 + zi k = _
          rw [yq 32 (by omega) (by omega), l2, zi_add]
        rw [e, if_pos hfit', hz0]
        exact z1
      · rw [z32 0 (by omega), ← hz0, z_wr1]
      · rw [za, ← hz0]
        rfl
      · obtain ⟨r0, r1, r2, r3⟩ := h
        have hc : c = 16 ∨ c = 24 := by rcases r0 with h | h <;> omega
        refine ⟨r0, ⟨l + k, fun j => if j < l then ch j else B (j - l), ⟨hfit, ?_, z2⟩, fun i hi => ?_⟩, z_RF_same r2 ⟨fun q hq => zx q (by omega) (by omega) (by omega) (by omega), fun k hk => zx32 k (by omega) (by omega)⟩ (by rw [zx 0 (by omega) (by omega) (by omega) (by omega)]; exact ⟨rfl, rfl⟩) (fun q hq => zx q (by omega) (by omega) (by omega) (by omega)), z_RW_same r3 (by rw [zx 14 (by omega) (by omega) (by omega) (by omega)]; exact ⟨rfl, rfl⟩) (zx 15 (by omega) (by omega) (by omega) (by omega)) (zx 57 (by omega) (by omega) (by omega) (by omega)) ⟨zx32 36 (by omega) (by omega), zx32 37 (by omega) (by omega)⟩⟩
        · rw [zq 1 (by omega) (by omega), z0q 1 (by omega)]; exact y11
        · have h2 : z.2 2 i = y.2 2 i := by rw [zq 2 (by omega) (by omega), z0q 2 (by omega), y22 i]
          by_cases hil : i < l
          · obtain ⟨c1, c2, c3, c4⟩ := hch i hil
            simp only [hil, if_true]
            refine ⟨?_, ?_, c3, c4⟩
            · rw [h2, y4 i (by omega)]; exact c1
            · rw [z4 i (by omega), z0q 33 (by omega), yq 33 (by omega) (by omega)]; exact c2
          · simp only [hil, if_false]
            have := hall (i - l) (by omega) (by omega)
            refine ⟨?_, ?_, this.1, this.2⟩
            · rw [h2, y3 i (by omega) hi]
            · rw [z3 i (by omega) hi]
    · have hfit' : ¬ zi (l + k) ≤ (18 : Int32) := fun hh => hfit ((zi_le (m := 18) (by omega) (by omega)).mp hh)
      refine ⟨0, (0, x.2), 0, q_wr (0, x.2) 32 0 0, ?_, ?_, z_wr1, fun _ => rfl, z_Rel_thr (z_Rel_ans h)⟩
      · unfold f_Lw_type
        rw [hD]
        unfold f_Li_append
        rw [l1, zi_add, if_neg hfit']
        simp only [Option.bind_some, q_tcT]
        rw [if_pos (show q_nb (q_nb 0) = 0 from rfl)]
        rfl
      · show f_Mo_type ((0 : Int64), x.2) w = _
        rw [hJ]
        have e : (((0 : Int64), x.2) : q_W).2 32 2 + zi k = zi (l + k) := by
          show x.2 32 2 + zi k = _
          rw [l2, zi_add]
        rw [e, if_neg hfit']
end ZT
