/-! THE REFERENCE'S WALK. -/
section ZW
variable {t N r : Nat} {W : Nat → Nat} {kp op : Nat → Nat → Bool} {wh S : Nat → Bool} {F : Nat → Nat → Option Nat} {x : q_W}
def z_Mx (t N r : Nat) (W : Nat → Nat) (kp op : Nat → Nat → Bool) (wh S : Nat → Bool) (F : Nat → Nat → Option Nat) (x : q_W) : Prop := z_Ms t N r W kp op S x ∧ (∀ s, s < N → x.2 47 s = zb (wh s)) ∧ (∀ k, k < r → z_St N S (fun s => kp s k) W (F k) ∧ ∀ s, s < N → x.2 54 (256 * k + s) = zo (F k s))
theorem z_Ms_same' {y : q_W} (h : z_Ms t N r W kp op S x) (g : ∀ q, q = 51 ∨ q = 49 ∨ q = 46 ∨ q = 48 → y.2 q = x.2 q) (g2 : y.2 32 9 = x.2 32 9 ∧ y.2 32 11 = x.2 32 11) : z_Ms t N r W kp op S y := by
  obtain ⟨⟨a, b, h51, h5, h4⟩, h6⟩ := h
  refine ⟨⟨a, by rw [g2.1, g2.2]; exact b, ?_, ?_, ?_⟩, ?_⟩
  · rw [g 51 (by omega)]; exact h51
  · rw [g 49 (by omega)]; exact h5
  · rw [g 46 (by omega)]; exact h4
  · rw [g 48 (by omega)]; exact h6
theorem z_Mx_same {y : q_W} (h : z_Mx t N r W kp op wh S F x) (g : ∀ q, q = 51 ∨ q = 49 ∨ q = 46 ∨ q = 48 ∨ q = 47 ∨ q = 54 → y.2 q = x.2 q) (g2 : y.2 32 9 = x.2 32 9 ∧ y.2 32 11 = x.2 32 11) : z_Mx t N r W kp op wh S F y := by
  obtain ⟨h1, h2, h3⟩ := h
  refine ⟨z_Ms_same' h1 (fun q hq => g q (by omega)) g2, ?_, fun k hk => ⟨(h3 k hk).1, ?_⟩⟩
  · rw [g 47 (by omega)]; exact h2
  · rw [g 54 (by omega)]; exact (h3 k hk).2
theorem z_isDue {s k : Nat} (hM : z_Ms t N r W kp op S x) (hs : s < N) (hk : k < 5) : f_Mo_isDue x (zi k) (zi s) = some (zb (decide (k < r) && z_pd' op kp s k)) := by
  have hN := z_Mb_N hM.1
  obtain ⟨⟨⟨a1, a2, a3, a4⟩, ⟨b1, b2⟩, h51, h5, h4⟩, h6⟩ := id hM
  unfold f_Mo_isDue
  rw [z_ld (show s < 256 by omega) (by omega), h6 s hs]
  simp only [Option.bind_some]
  rw [z_bitb (by omega), z_bt_ms (by omega), z_ld (show s < 256 by omega) (by omega), h5 s hs]
  simp only [Option.bind_some]
  rw [z_bitb (by omega), z_bt_ms (by omega)]
  unfold z_pd'
  generalize decide (k < r) = b1
  generalize op s k = b2
  generalize kp s k = b3
  cases b1 <;> cases b2 <;> cases b3 <;> rfl
theorem z_dutmL {s v : Nat} (hM : z_Ms t N r W kp op S x) (hs : s < N) : ∀ n m j, r = j + m → m < n → v < 10 → f_Mo_dutyAt_L2 n x (zi s) (zi v) (zi j) = some (zi (z_du r (z_pd' op kp s) v m j)) := by
  intro n
  induction n with
  | zero => intro m j h1 h2; omega
  | succ n ih =>
    intro m j h1 h2 hv
    obtain ⟨⟨⟨a1, a2, a3, a4⟩, ⟨b1, b2⟩, h51, h5, h4⟩, h6⟩ := id hM
    simp only [f_Mo_dutyAt_L2]
    cases m with
    | zero =>
      rw [if_pos (by rw [b2, zi_le (by omega) (by omega)]; omega)]
      rfl
    | succ m =>
      have hr : 0 < r := by omega
      have hlt := Nat.mod_lt (v + j) hr
      rw [if_neg (by rw [b2, zi_le (by omega) (by omega)]; omega), if_neg (by rw [b2]; intro h; have := (zi_eq (m := 0) (by omega) (by omega)).mp h; omega), b2, zi_add, zi_mod (by omega) (by omega)]
      simp only [q_let]
      rw [z_isDue hM hs (by omega), decide_eq_true hlt, Bool.true_and]
      simp only [Option.bind_some, zb_0, zi_succ, z_du]
      rw [ih m (j + 1) (by omega) (by omega) hv]
      cases hP : z_pd' op kp s ((v + j) % r) with
      | true => simp
      | false => simp
theorem z_dutm {s v : Nat} (hM : z_Ms t N r W kp op S x) (hs : s < N) (hv : v < r ∨ (r = 0 ∧ v = 0)) : f_Mo_dutyAt x (zi s) (zi v) = some (zi (z_dut r kp op s v)) := by
  have a3 := hM.1.1.2.2.1
  exact z_dutmL hM hs q_fu r 0 (by omega) (by simp only [q_fu]; omega) (by omega)
def z_v5 (R : Option (Nat × Nat)) : Int32 := match R with
  | none => 100000
  | some (_, m) => zi m
theorem z_nxmL {s k : Nat} {D : Bool} (hX : z_Mx t N r W kp op wh S F x) (hs : s < N) (hk5 : k < 5) (hD : D = true → k < r) : ∀ n i, i ≤ N → N < i + n → f_Mo_nextOf_L32 n x (zi s) (zi k) (zb D) (zo ((z_nr (fun s' => S s' && (s / 8 == W s')) (z_vu D (F k)) i).map Prod.fst)) (z_v5 (z_nr (fun s' => S s' && (s / 8 == W s')) (z_vu D (F k)) i)) (zi i) = some (zo ((z_nr (fun s' => S s' && (s / 8 == W s')) (z_vu D (F k)) N).map Prod.fst)) := by
  intro n
  induction n with
  | zero => intro i h1 h2; omega
  | succ n ih =>
    intro i h1 h2
    obtain ⟨hM, h7, hF⟩ := id hX
    have hN := z_Mb_N hM.1
    obtain ⟨⟨⟨a1, a2, a3, a4⟩, ⟨b1, b2⟩, h51, h5, h4⟩, h6⟩ := id hM
    simp only [f_Mo_nextOf_L32]
    rw [z_Mb_cnt hM.1]
    simp only [Option.bind_some]
    by_cases hiN : i = N
    · subst hiN
      rw [if_pos (by rw [zi_le (by omega) (by omega)]; omega)]
    · have hi : i < N := by omega
      have hWi := a4 i hi
      rw [if_neg (by rw [zi_le (by omega) (by omega)]; omega)]
      have hJ : f_Mo_nextOf_J62 (f_Mo_nextOf_L32 n) x (zi s) (zi k) (zb D) (zo ((z_nr (fun s' => S s' && (s / 8 == W s')) (z_vu D (F k)) i).map Prod.fst)) (z_v5 (z_nr (fun s' => S s' && (s / 8 == W s')) (z_vu D (F k)) i)) (zi i) (zo (z_vu D (F k) i)) = some (zo ((z_nr (fun s' => S s' && (s / 8 == W s')) (z_vu D (F k)) N).map Prod.fst)) := by
        have hn := ih (i + 1) (by omega) (by omega)
        unfold f_Mo_nextOf_J62 f_Mo_goes
        rw [z_ld (show i < 256 by omega) (by omega), h51 i hi, z_ld (show i < 256 by omega) (by omega), h4 i hi]
        simp only [Option.bind_some, zb_0, zi_succ]
        rw [z_shr3 s (by omega)]
        have hweq : zi (s / 8) = zi (W i) ↔ s / 8 = W i := zi_eq (by omega) (by omega)
        have hvb : ∀ e, z_vu D (F k) i = some e → e < 1000 := fun e he => by
          unfold z_vu at he
          cases hDD : D with
          | true =>
            rw [hDD, if_pos rfl] at he
            exact z_bdF (hF k (hD hDD)).1 hN hi he
          | false =>
            rw [hDD] at he
            simp at he
            omega
        have skip : (S i && (s / 8 == W i)) = false ∨ z_vu D (F k) i = none → z_nr (fun s' => S s' && (s / 8 == W s')) (z_vu D (F k)) (i + 1) = z_nr (fun s' => S s' && (s / 8 == W s')) (z_vu D (F k)) i := by
          intro h
          simp only [z_nr]
          rcases h with h | h
          · cases z_vu D (F k) i with
            | none => rfl
            | some e => simp only [h]; rfl
          · rw [h]
        by_cases hS : S i = false
        · rw [if_pos hS]
          rw [skip (Or.inl (by rw [hS]; rfl))] at hn
          exact hn
        · rw [if_neg hS]
          have hSt : S i = true := by cases h : S i with
            | true => rfl
            | false => exact absurd h hS
          by_cases hw : s / 8 = W i
          · rw [if_neg (fun h => h (hweq.mpr hw))]
            simp only [Option.bind_some]
            rw [if_neg (show ¬ q_nb 1 = 0 from z_10)]
            have hC : (S i && (s / 8 == W i)) = true := by rw [hSt, hw]; simp
            cases hv : z_vu D (F k) i with
            | none =>
              rw [if_pos (show zo none < 0 by decide)]
              rw [skip (Or.inr hv)] at hn
              exact hn
            | some e =>
              have he := hvb e hv
              rw [if_neg (show ¬ zo (some e) < 0 from zi_neg (by omega))]
              have hR : z_nr (fun s' => S s' && (s / 8 == W s')) (z_vu D (F k)) (i + 1) = (match z_nr (fun s' => S s' && (s / 8 == W s')) (z_vu D (F k)) i with
                | none => some (i, e)
                | some (b, m) => if e < m then some (i, e) else some (b, m)) := by
                simp only [z_nr, hv, hC, if_true]
                cases z_nr (fun s' => S s' && (s / 8 == W s')) (z_vu D (F k)) i with
                | none => rfl
                | some bm => rfl
              rw [hR] at hn
              cases hRi : z_nr (fun s' => S s' && (s / 8 == W s')) (z_vu D (F k)) i with
              | none =>
                rw [hRi] at hn
                rw [if_neg (show ¬ z_v5 none ≤ zo (some e) from fun h => by have := (zi_le (n := 100000) (by omega) (by omega)).mp h; omega)]
                exact hn
              | some bm =>
                obtain ⟨b, m⟩ := bm
                rw [hRi] at hn
                simp only at hn
                obtain ⟨c1, c2, c3⟩ := z_nr_mem _ _ _ hRi
                have hm : m < 1000 := by
                  unfold z_vu at c3
                  cases hDD : D with
                  | true =>
                    rw [hDD, if_pos rfl] at c3
                    exact z_bdF (hF k (hD hDD)).1 hN (by omega) c3
                  | false =>
                    rw [hDD] at c3
                    simp at c3
                    omega
                have hle : z_v5 (some (b, m)) ≤ zo (some e) ↔ m ≤ e := zi_le (by omega) (by omega)
                by_cases hem : e < m
                · rw [if_neg (fun h => by have := hle.mp h; omega)]
                  rw [if_pos hem] at hn
                  exact hn
                · rw [if_pos (hle.mpr (by omega))]
                  rw [if_neg hem] at hn
                  exact hn
          · rw [if_pos (fun h => hw (hweq.mp h))]
            simp only [Option.bind_some]
            rw [if_pos (show q_nb 0 = 0 from rfl)]
            rw [skip (Or.inl (by simp [hw]))] at hn
            exact hn
      cases hDD : D with
      | false =>
        rw [hDD] at hJ
        rw [if_pos (show zb false = 0 from rfl)]
        exact hJ
      | true =>
        rw [hDD] at hJ
        have hk := hD hDD
        rw [if_neg (show ¬ zb true = 0 by decide), z_idx, z_ld (show 256 * k + i < 1280 by omega) (by omega), (hF k hk).2 i hi]
        simp only [Option.bind_some]
        exact hJ
theorem z_nextm {s k : Nat} (hX : z_Mx t N r W kp op wh S F x) (hs : s < N) (hk5 : k < 5) : f_Mo_nextOf x (zi s) (zi k) = some (zo (z_nxt N r W kp op S F s k)) := by
  obtain ⟨hM, h7, hF⟩ := id hX
  have hN := z_Mb_N hM.1
  obtain ⟨⟨⟨a1, a2, a3, a4⟩, ⟨b1, b2⟩, h51, h5, h4⟩, h6⟩ := id hM
  have go : ∀ D : Bool, D = (decide (k < r) && z_pd' op kp s k) → f_Mo_nextOf_L32 q_fu x (zi s) (zi k) (zb D) (-1) 100000 0 = some (zo (z_nxt N r W kp op S F s k)) := by
    intro D hD
    have := z_nxmL (D := D) hX hs hk5 (fun h => by rw [hD, Bool.and_eq_true, decide_eq_true_iff] at h; exact h.1) q_fu 0 (by omega) (by simp only [q_fu]; omega)
    unfold z_nxt
    rw [← hD]
    exact this
  unfold f_Mo_nextOf f_Mo_nextOf_J20 f_Mo_nextOf_J21
  rw [b2]
  by_cases hr : r = 0
  · rw [if_pos (by rw [hr]; decide)]
    exact go false (by subst hr; simp)
  · rw [if_neg (by rw [show (0 : Int32) = zi 0 from rfl, zi_le (by omega) (by omega)]; omega), z_isDue hM hs hk5]
    simp only [Option.bind_some, zb_0]
    cases hD : (decide (k < r) && z_pd' op kp s k) with
    | false =>
      rw [if_pos rfl]
      exact go false hD.symm
    | true =>
      rw [if_neg (by simp)]
      exact go true hD.symm
theorem z_firstL (hX : z_Mx t N r W kp op wh S F x) : ∀ n m i, i + m = N → m < n → f_Mo_firstState_L2 n x (zi i) = some (zo (z_ls (fun s => S s && wh s) m i)) := by
  intro n
  induction n with
  | zero => intro m i h1 h2; omega
  | succ n ih =>
    intro m i h1 h2
    obtain ⟨hM, h7, hF⟩ := id hX
    have hN := z_Mb_N hM.1
    simp only [f_Mo_firstState_L2]
    rw [z_Mb_cnt hM.1]
    simp only [Option.bind_some]
    cases m with
    | zero =>
      rw [if_pos (by rw [zi_le (by omega) (by omega)]; omega)]
      rfl
    | succ m =>
      have hi : i < N := by omega
      rw [if_neg (by rw [zi_le (by omega) (by omega)]; omega), z_ld (show i < 256 by omega) (by omega), hM.1.2.2.1 i hi, z_ld (show i < 256 by omega) (by omega), h7 i hi]
      simp only [Option.bind_some, zb_0, zi_succ, z_ls]
      rw [ih m (i + 1) (by omega) (by omega)]
      by_cases hS : S i = true <;> by_cases hw : wh i = true <;> simp [hS, hw, zo]
def z_Fw (x y : q_W) : Prop := y.1 = x.1 ∧ (∀ q, q ≠ 32 → (q < 52 ∨ 56 < q) → y.2 q = x.2 q) ∧ (∀ k, k ≠ 32 → k ≠ 33 → y.2 32 k = x.2 32 k)
theorem z_Fw_rf : z_Fw x x := ⟨rfl, fun _ _ _ => rfl, fun _ _ _ => rfl⟩
theorem z_Fw_tr {x y z : q_W} (h : z_Fw x y) (g : z_Fw y z) : z_Fw x z := ⟨g.1.trans h.1, fun q a b => (g.2.1 q a b).trans (h.2.1 q a b), fun k a b => (g.2.2 k a b).trans (h.2.2 k a b)⟩
theorem z_Fw_wr {x : q_W} {p k : Nat} {w : Int32} (h1 : 52 ≤ p) (h2 : p ≤ 56) : z_Fw x (q_wr x p k w) := ⟨rfl, fun q _ b => z_wrp (by omega), fun j _ _ => z_wr2 (Or.inl (by omega))⟩
theorem z_Fw_32 {x : q_W} {k : Nat} {w : Int32} (h : k = 32 ∨ k = 33) : z_Fw x (q_wr x 32 k w) := ⟨rfl, fun q a _ => z_wrp a, fun j a b => z_wr2 (Or.inr (by omega))⟩
theorem z_mgoL : ∀ (m n p v : Nat) (st : Option Nat) (seen : Nat → Option Nat) (row : Nat → Nat) (x : q_W), m + p = 1300 → m + 1 < n → z_Mx t N r W kp op wh S F x → z_Wk N p seen row → (v < r ∨ (r = 0 ∧ v = 0)) → (∀ s, st = some s → s < N ∧ S s = true) → (∀ z, z < 1280 → x.2 56 z = zo (seen z)) → (∀ i, i < p → x.2 55 i = zi (row i)) → (x.2 32 32 = -1 ∧ x.2 32 33 = -1) → z_ok (f_Mo_goWalk_L62 n x (zo st) (zi p) (zi v)) (fun y => (z_Fw x y ∧ y.2 54 = x.2 54) ∧ z_Wo N (z_wk (z_nxt N r W kp op S F) (z_dut r kp op) m st p v seen row) (y.2 32 32) (y.2 32 33) (y.2 55)) := by
  intro m
  induction m with
  | zero =>
    intro n p v st seen row x h1 h2 hX hK
    have := z_cd_le (fun z => (seen z).isSome) 1280
    have := hK.1
    omega
  | succ m ih =>
    intro n p v st seen row x h1 h2 hX hK hv hst h13 h12 h11
    obtain ⟨n, rfl⟩ : ∃ n', n = n' + 1 := ⟨n - 1, by omega⟩
    obtain ⟨k1, k2, k3⟩ := id hK
    have hp := z_cd_le (fun z => (seen z).isSome) 1280
    have hN := z_Mb_N hX.1.1
    have a2 := hX.1.1.1.2.2.1
    simp only [f_Mo_goWalk_L62]
    cases st with
    | none =>
      refine z_ok.pos (by decide) (z_ok.some ⟨⟨z_Fw_rf, rfl⟩, ?_⟩)
      exact h11
    | some s =>
      obtain ⟨hs, hS⟩ := hst s rfl
      refine z_ok.neg (show ¬ zo (some s) < 0 from zi_neg (by omega)) ?_
      rw [h11.1]
      refine z_ok.neg (by decide) ?_
      rw [show zo (some s) = zi s from rfl, z_dutm hX.1 hs hv]
      have hd := z_dut_lt (kp := kp) (op := op) (s := s) hv
      generalize hdd : z_dut r kp op s v = d at hd
      simp only [Option.bind_some, q_let]
      rw [show (5 : Int32) * zi s + zi d = zi (5 * s + d) by rw [show (5 : Int32) = zi 5 from rfl, zi_mul, zi_add], z_ld (show 5 * s + d < 1280 by omega) (by omega), h13 _ (by omega)]
      simp only [Option.bind_some]
      cases hse : seen (5 * s + d) with
      | none =>
        refine z_ok.pos (by decide) ?_
        obtain ⟨hp', hK'⟩ := z_Wk_step (s := s) hK (show 5 * s + d < 1280 by omega) hse hs
        rw [z_sto (show 5 * s + d < 1280 by omega) (by omega)]
        simp only [Option.bind_some]
        rw [z_sto (show p < 1280 by omega) (by omega)]
        simp only [Option.bind_some]
        generalize hy : q_wr (q_wr x 56 (5 * s + d) (zi p)) 55 p (zi s) = y
        have ho : z_Fw x y := by rw [← hy]; exact z_Fw_tr (z_Fw_wr (by omega) (by omega)) (z_Fw_wr (by omega) (by omega))
        have h54 : y.2 54 = x.2 54 := by rw [← hy, z_wrp (by omega), z_wrp (by omega)]
        have hXy : z_Mx t N r W kp op wh S F y := z_Mx_same hX (fun q hq => by
          by_cases h : q = 54
          · subst h; exact h54
          · exact ho.2.1 q (by omega) (by omega)) ⟨ho.2.2 9 (by omega) (by omega), ho.2.2 11 (by omega) (by omega)⟩
        rw [z_nextm hXy hs (by omega)]
        simp only [Option.bind_some, zi_succ]
        have e : z_wk (z_nxt N r W kp op S F) (z_dut r kp op) (m + 1) (some s) p v seen row = z_wk (z_nxt N r W kp op S F) (z_dut r kp op) m (z_nxt N r W kp op S F s d) (p + 1) d (fun z => if z = 5 * s + d then some p else seen z) (fun i => if i = p then s else row i) := by
          simp only [z_wk, hdd, hse]
        rw [e]
        refine z_ok.mono (ih n (p + 1) d _ _ _ y (by omega) (by omega) hXy hK' hd (fun s' h' => z_nxt_mem h') (fun z hz => ?_) (fun i hi => ?_) ?_) (fun w hw => ⟨⟨z_Fw_tr ho hw.1.1, hw.1.2.trans h54⟩, hw.2⟩)
        · rw [← hy, z_wrp (by omega)]
          by_cases hzz : z = 5 * s + d
          · subst hzz; rw [z_wr1]; simp [zo]
          · rw [z_wr2 (Or.inr hzz)]; simp only [hzz, if_false]; exact h13 z hz
        · rw [← hy]
          by_cases hip : i = p
          · subst hip; rw [z_wr1]; simp
          · rw [z_wr2 (Or.inr hip), z_wrp (by omega)]; simp only [hip, if_false]; exact h12 i (by omega)
        · rw [← hy, z_wrp (by omega), z_wrp (by omega)]; exact h11
      | some q =>
        have hq := k2 _ q hse
        refine z_ok.neg (show ¬ zo (some q) < 0 from zi_neg (by omega)) ?_
        rw [z_ld (show 5 * s + d < 1280 by omega) (by omega), z_wrp (by omega), h13 _ (by omega), hse]
        simp only [Option.bind_some]
        rw [show zo (some q) = zi q from rfl, zi_sub (by omega)]
        have e : z_wk (z_nxt N r W kp op S F) (z_dut r kp op) (m + 1) (some s) p v seen row = (some (q, p - q), row) := by
          simp only [z_wk, hdd, hse]
        rw [e]
        obtain ⟨n, rfl⟩ : ∃ n', n = n' + 1 := ⟨n - 1, by omega⟩
        simp only [f_Mo_goWalk_L62]
        refine z_ok.neg (zi_neg (by omega)) (z_ok.pos ?_ (z_ok.some ⟨⟨z_Fw_tr (z_Fw_32 (Or.inl rfl)) (z_Fw_32 (Or.inr rfl)), ?_⟩, ?_, ?_, by omega, by omega, fun i hi => ⟨?_, ?_⟩⟩))
        · rw [z_wr2 (Or.inr (by omega)), z_wr1]
          exact (zi_le (n := 0) (by omega) (by omega)).mpr (by omega)
        · rw [z_wrp (by omega), z_wrp (by omega)]
        · rw [z_wr2 (Or.inr (by omega)), z_wr1]
        · rw [z_wr1]
        · rw [z_wrp (by omega), z_wrp (by omega)]; exact h12 i (by omega)
        · exact k3 i (by omega)
theorem z_mfill {E : q_W → Option q_W} : ∀ (n i : Nat) (x : q_W), i ≤ 1280 → 1280 < i + n → (∀ z, z < i → x.2 56 z = -1) → ∃ y, f_Mo_goWalk_L33 E n x (zi i) = E y ∧ z_only (· = 56) x y ∧ ∀ z, z < 1280 → y.2 56 z = -1 := by
  intro n
  induction n with
  | zero => intro i x h1 h2; omega
  | succ n ih =>
    intro i x h1 h2 h
    simp only [f_Mo_goWalk_L33]
    rw [show (1280 : Int32) = zi 1280 from rfl]
    by_cases hi : i = 1280
    · subst hi
      rw [if_pos (by rw [zi_le (by omega) (by omega)]; omega)]
      exact ⟨x, rfl, z_only_rf, h⟩
    · rw [if_neg (by rw [zi_le (by omega) (by omega)]; omega), z_sto (show i < 1280 by omega) (by omega)]
      simp only [Option.bind_some, zi_succ]
      obtain ⟨y, y1, y2, y3⟩ := ih (i + 1) (q_wr x 56 i (-1)) (by omega) (by omega) (fun z hz => by
        by_cases hzi : z = i
        · subst hzi; rw [z_wr1]
        · rw [z_wr2 (Or.inr hzi)]; exact h z (by omega))
      exact ⟨y, y1, z_only_tr (z_only_wr rfl) y2, y3⟩
/-- the steps are counted once more, for each promise, over what lasts -/
theorem z_mcnt : ∀ (n k : Nat) (x : q_W), k ≤ r → r < k + n → z_Ms t N r W kp op S x → (∀ k', k' < k → ∃ f, z_St N S (fun s => kp s k') W f ∧ ∀ s, s < N → x.2 54 (256 * k' + s) = zo (f s)) → ∃ y, f_Mo_goWalk_L12 n x (zi k) = f_Mo_goWalk_L33 (fun x3 => (f_Mo_firstState x3).bind fun w4 => (f_Mo_goWalk_L62 q_fu x3 w4 0 0)) q_fu y 0 ∧ z_only (fun q => 52 ≤ q ∧ q ≤ 54) x y ∧ ∀ k', k' < r → ∃ f, z_St N S (fun s => kp s k') W f ∧ ∀ s, s < N → y.2 54 (256 * k' + s) = zo (f s) := by
  intro n
  induction n with
  | zero => intro k x h1 h2; omega
  | succ n ih =>
    intro k x h1 h2 hM hF
    have hN := z_Mb_N hM.1
    obtain ⟨⟨⟨a1, a2, a3, a4⟩, ⟨b1, b2⟩, h51, h5, h4⟩, h6⟩ := id hM
    simp only [f_Mo_goWalk_L12]
    by_cases hkr : k = r
    · subst hkr
      rw [if_pos (by rw [b2, zi_le (by omega) (by omega)]; omega)]
      exact ⟨x, rfl, z_only_rf, hF⟩
    · rw [if_neg (by rw [b2, zi_le (by omega) (by omega)]; omega)]
      obtain ⟨y, y1, y2, f, y3, y4⟩ := z_stepsm (k := k) (by omega) hM.1
      rw [y1]
      simp only [Option.bind_some, zi_succ]
      have hMy := z_Ms_same hM (fun q hq => y2.2.1 q (by omega) (by omega) (by omega))
      have hFy : ∀ k', k' < k + 1 → ∃ f, z_St N S (fun s => kp s k') W f ∧ ∀ s, s < N → y.2 54 (256 * k' + s) = zo (f s) := by
        intro k' hk'
        by_cases hkk : k' = k
        · subst hkk; exact ⟨f, y3, y4⟩
        · obtain ⟨g, g1, g2⟩ := hF k' (by omega)
          exact ⟨g, g1, fun s hs => by rw [y2.2.2 _ (by omega)]; exact g2 s hs⟩
      obtain ⟨z, z1, z2, z3⟩ := ih (k + 1) y (by omega) (by omega) hMy hFy
      exact ⟨z, z1, z_only_tr ⟨y2.1, fun q hq => y2.2.1 q (by omega) (by omega) (by omega)⟩ z2, z3⟩
theorem z_mgo (hM : z_Ms t N r W kp op S x) (h47 : ∀ s, s < N → x.2 47 s = zb (wh s)) : z_ok (f_Mo_goWalk x) (fun y => z_Fw x y ∧ ∃ F, (∀ k, k < r → z_St N S (fun s => kp s k) W (F k)) ∧ z_Wo N (z_wlk N r W kp op wh S F) (y.2 32 32) (y.2 32 33) (y.2 55)) := by
  have hN := z_Mb_N hM.1
  unfold f_Mo_goWalk
  simp only [q_let]
  generalize ha : q_wr (q_wr x 32 32 (-1)) 32 33 (-1) = a
  have oa : z_Fw x a := by rw [← ha]; exact z_Fw_tr (z_Fw_32 (Or.inl rfl)) (z_Fw_32 (Or.inr rfl))
  have hMa : z_Ms t N r W kp op S a := z_Ms_same' hM (fun q hq => oa.2.1 q (by omega) (by omega)) ⟨oa.2.2 9 (by omega) (by omega), oa.2.2 11 (by omega) (by omega)⟩
  have a3 := hM.1.1.2.2.1
  obtain ⟨b, b1, b2, b3⟩ := z_mcnt q_fu 0 a (by omega) (by simp only [q_fu]; omega) hMa (fun k' hk' => by omega)
  rw [show (0 : Int32) = zi 0 from rfl, b1]
  have hMb := z_Ms_same hMa (fun q hq => b2.2 q (by omega))
  obtain ⟨c, c1, c2, c3⟩ := z_mfill (E := fun x3 => (f_Mo_firstState x3).bind fun w4 => (f_Mo_goWalk_L62 q_fu x3 w4 0 0)) q_fu 0 b (by omega) (by simp only [q_fu]; omega) (fun z hz => by omega)
  rw [show (zi 0) = (0 : Int32) from rfl] at c1
  rw [c1]
  have hch : ∀ k, ∃ f, k < r → z_St N S (fun s => kp s k) W f ∧ ∀ s, s < N → b.2 54 (256 * k + s) = zo (f s) := fun k => by
    by_cases hk : k < r
    · obtain ⟨f, hf⟩ := b3 k hk
      exact ⟨f, fun _ => hf⟩
    · exact ⟨fun _ => none, fun h => absurd h hk⟩
  obtain ⟨F, hF⟩ := Classical.skolem.mp hch
  have hxc : ∀ q, q ≠ 32 → (q < 52 ∨ 56 < q) → c.2 q = x.2 q := fun q q1 q2 => (c2.2 q (by omega)).trans ((b2.2 q (by omega)).trans (oa.2.1 q q1 q2))
  have hXc : z_Mx t N r W kp op wh S F c := by
    refine ⟨z_Ms_same hMb (fun q hq => c2.2 q (by omega)), fun s hs => by rw [hxc 47 (by omega) (by omega)]; exact h47 s hs, fun k hk => ⟨(hF k hk).1, ?_⟩⟩
    rw [c2.2 54 (by omega)]
    exact (hF k hk).2
  have oc : z_Fw x c := ⟨c2.1.trans (b2.1.trans oa.1), hxc, fun k k1 k2 => by rw [c2.2 32 (by omega), b2.2 32 (by omega)]; exact oa.2.2 k k1 k2⟩
  have e2 : f_Mo_firstState c = some (zo (z_ls (fun s => S s && wh s) N 0)) := z_firstL hXc q_fu N 0 (by omega) (by simp only [q_fu]; omega)
  simp only [e2, Option.bind_some]
  refine z_ok.mono (z_mgoL 1300 q_fu 0 0 (z_ls (fun s => S s && wh s) N 0) (fun _ => none) (fun _ => 0) c (by omega) (by simp only [q_fu]; omega) hXc ⟨?_, fun z q h => (by cases h), fun i hi => by omega⟩ (by omega) (fun s hs => ?_) (fun z hz => c3 z hz) (fun i hi => by omega) ?_) (fun y hy => ⟨z_Fw_tr oc hy.1.1, F, fun k hk => (hF k hk).1, hy.2⟩)
  · have : ∀ n, z_cd (fun z => ((none : Option Nat)).isSome) n = 0 := fun n => by
      induction n with
      | zero => rfl
      | succ n ih => simp only [z_cd, ih]; rfl
    exact (this 1280).symm
  · obtain ⟨c1, c2, c3⟩ := z_ls_mem _ _ _ hs
    rw [Bool.and_eq_true] at c3
    exact ⟨by omega, c3.1⟩
  · rw [c2.2 32 (by omega), b2.2 32 (by omega), ← ha, z_wr2 (Or.inr (by omega)), z_wr1, z_wr1]
    exact ⟨rfl, rfl⟩
end ZW
