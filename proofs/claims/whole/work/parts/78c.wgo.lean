/-! THE CLASS'S WALK, all of it. -/
section ZW
variable {N r : Nat} {W : Nat → Nat} {kp op : Nat → Nat → Bool} {wh S : Nat → Bool} {F : Nat → Nat → Option Nat} {x : q_W}
theorem z_nxt_mem {s k s' : Nat} (h : z_nxt N r W kp op S F s k = some s') : s' < N ∧ S s' = true := by
  unfold z_nxt at h
  cases hR : z_nr (fun s' => S s' && (s / 8 == W s')) (z_vu (decide (k < r) && z_pd' op kp s k) (F k)) N with
  | none => rw [hR] at h; cases h
  | some bm =>
    rw [hR] at h
    obtain ⟨b, m⟩ := bm
    have hb : b = s' := by simpa using h
    subst hb
    obtain ⟨a, c, -⟩ := z_nr_mem _ _ _ hR
    rw [Bool.and_eq_true] at c
    exact ⟨a, c.1⟩
theorem z_dut_lt {s v : Nat} (hv : v < r ∨ (r = 0 ∧ v = 0)) : z_dut r kp op s v < r ∨ (r = 0 ∧ z_dut r kp op s v = 0) := z_du_lt hv r 0 (fun h => h)
theorem z_leastL (hX : z_Wx N r W kp op wh S F x) : ∀ n m i, i + m = N → m < n → f_La_leastWhole_L2 n x (zi i) = some (zo (z_ls (fun s => S s && wh s) m i)) := by
  intro n
  induction n with
  | zero => intro m i h1 h2; omega
  | succ n ih =>
    intro m i h1 h2
    obtain ⟨hC, h7, hF, hG⟩ := id hX
    obtain ⟨⟨⟨a1, a2, a3⟩, ⟨b1, b2⟩, h8, h5, h4⟩, h6, h9⟩ := id hC
    simp only [f_La_leastWhole_L2]
    cases m with
    | zero =>
      rw [if_pos (by rw [b1, zi_le (by omega) (by omega)]; omega)]
      rfl
    | succ m =>
      have hi : i < N := by omega
      rw [if_neg (by rw [b1, zi_le (by omega) (by omega)]; omega), z_ld (show i < 256 by omega) (by omega), h8 i hi, z_ld (show i < 256 by omega) (by omega), h7 i hi]
      simp only [Option.bind_some, zb_0, zi_succ, z_ls]
      rw [ih m (i + 1) (by omega) (by omega)]
      by_cases hS : S i = true <;> by_cases hw : wh i = true <;> simp [hS, hw, zo]
theorem z_fillL : ∀ (n i : Nat) (x : q_W), i ≤ 1280 → 1280 < i + n → (∀ z, z < i → x.2 13 z = -1) → z_ok (f_Ar_fill_L5 n x (-1) (zi i) 1280) (fun y => z_only (· = 13) x y ∧ ∀ z, z < 1280 → y.2 13 z = -1) := by
  intro n
  induction n with
  | zero => intro i x h1 h2; omega
  | succ n ih =>
    intro i x h1 h2 h
    simp only [f_Ar_fill_L5]
    rw [show (1280 : Int32) = zi 1280 from rfl]
    by_cases hi : i = 1280
    · subst hi
      exact z_ok.pos (by rw [zi_le (by omega) (by omega)]; omega) (z_ok.some ⟨z_only_rf, h⟩)
    · refine z_ok.neg (by rw [zi_le (by omega) (by omega)]; omega) ?_
      rw [z_sto (show i < 1280 by omega) (by omega)]
      simp only [Option.bind_some, zi_succ]
      refine z_ok.mono (ih (i + 1) (q_wr x 13 i (-1)) (by omega) (by omega) (fun z hz => ?_)) (fun y hy => ⟨z_only_tr (z_only_wr rfl) hy.1, hy.2⟩)
      by_cases hzi : z = i
      · subst hzi; rw [z_wr1]
      · rw [z_wr2 (Or.inr hzi)]; exact h z (by omega)
/-- where a walk stands: p places behind, the pairs that were seen, the row of states -/
def z_Wk (N : Nat) (p : Nat) (seen : Nat → Option Nat) (row : Nat → Nat) : Prop := p = z_cd (fun z => (seen z).isSome) 1280 ∧ (∀ z q, seen z = some q → q < p) ∧ ∀ i, i < p → row i < N
theorem z_Wk_step {p s z : Nat} {seen : Nat → Option Nat} {row : Nat → Nat} (h : z_Wk N p seen row) (hz : z < 1280) (hn : seen z = none) (hs : s < N) : p < 1280 ∧ z_Wk N (p + 1) (fun z' => if z' = z then some p else seen z') (fun i => if i = p then s else row i) := by
  obtain ⟨h1, h2, h3⟩ := h
  have hcd : z_cd (fun z' => (if z' = z then some p else seen z').isSome) 1280 = z_cd (fun z => (seen z).isSome) 1280 + 1 := by
    rw [← z_cd_add (b := fun z => (seen z).isSome) hz (by simp [hn])]
    apply z_cd_congr
    intro i _
    by_cases hiz : i = z
    · simp [hiz]
    · simp [hiz]
  have hle := z_cd_le (fun z' => (if z' = z then some p else seen z').isSome) 1280
  refine ⟨by omega, by show p + 1 = z_cd (fun z' => (if z' = z then some p else seen z').isSome) 1280; omega, fun z' q hq => ?_, fun i hi => ?_⟩
  · by_cases hzz : z' = z
    · simp only [hzz, if_true] at hq
      cases hq
      omega
    · simp only [hzz, if_false] at hq
      have := h2 z' q hq
      omega
  · by_cases hip : i = p
    · simp only [hip, if_true]; exact hs
    · simp only [hip, if_false]
      exact h3 i (by omega)
theorem z_goL : ∀ (m n p v : Nat) (st : Option Nat) (seen : Nat → Option Nat) (row : Nat → Nat) (x : q_W), m + p = 1300 → m < n → z_Wx N r W kp op wh S F x → z_Wk N p seen row → (v < r ∨ (r = 0 ∧ v = 0)) → (∀ s, st = some s → s < N ∧ S s = true) → (∀ z, z < 1280 → x.2 13 z = zo (seen z)) → (∀ i, i < p → x.2 12 i = zi (row i)) → (x.2 11 2 = -1 ∧ x.2 11 3 = -1) → z_ok (f_Wa_go_L28 n x (zo st) (zi v) (zi p)) (fun y => z_only (fun q => 11 ≤ q ∧ q ≤ 13) x y ∧ z_Wo N (z_wk (z_nxt N r W kp op S F) (z_dut r kp op) m st p v seen row) (y.2 11 2) (y.2 11 3) (y.2 12)) := by
  intro m
  induction m with
  | zero =>
    intro n p v st seen row x h1 h2 hX hK
    have := z_cd_le (fun z => (seen z).isSome) 1280
    have := hK.1
    omega
  | succ m ih =>
    intro n p v st seen row x h1 h2 hX hK hv hst h13 h12 h11
    obtain ⟨n, rfl⟩ : ∃ n', n = n' + 1 := ⟨n - 1, by omega⟩
    obtain ⟨k1, k2, k3⟩ := id hK
    have hp := z_cd_le (fun z => (seen z).isSome) 1280
    have a1 := hX.1.1.1.1
    have a2 := hX.1.1.1.2.1
    simp only [f_Wa_go_L28]
    refine z_ok.neg (by rw [show (1280 : Int32) = zi 1280 from rfl, zi_lt (by omega) (by omega)]; omega) ?_
    cases st with
    | none =>
      refine z_ok.pos rfl (z_ok.some ⟨z_only_rf, ?_⟩)
      exact h11
    | some s =>
      obtain ⟨hs, hS⟩ := hst s rfl
      refine z_ok.neg (show ¬ zo (some s) = -1 from zi_m1 (by omega)) ?_
      rw [show zo (some s) = zi s from rfl, z_dutc hX.1 hs hv]
      have hd := z_dut_lt (kp := kp) (op := op) (s := s) hv
      generalize hdd : z_dut r kp op s v = d at hd
      simp only [Option.bind_some, q_let]
      rw [show zi s * 5 + zi d = zi (5 * s + d) by rw [show (5 : Int32) = zi 5 from rfl, zi_mul, zi_add, Nat.mul_comm], z_ld (show 5 * s + d < 1280 by omega) (by omega), h13 _ (by omega)]
      simp only [Option.bind_some]
      have hzm := zo_m1 (o := seen (5 * s + d)) (fun q hq => by have := k2 _ q hq; omega)
      cases hse : seen (5 * s + d) with
      | none =>
        refine z_ok.pos rfl ?_
        obtain ⟨hp', hK'⟩ := z_Wk_step (s := s) hK (show 5 * s + d < 1280 by omega) hse hs
        rw [z_sto (show 5 * s + d < 1280 by omega) (by omega)]
        simp only [Option.bind_some]
        rw [z_sto (show p < 1281 by omega) (by omega)]
        simp only [Option.bind_some]
        generalize hy : q_wr (q_wr x 13 (5 * s + d) (zi p)) 12 p (zi s) = y
        have ho : z_only (fun q => 11 ≤ q ∧ q ≤ 13) x y := by rw [← hy]; exact z_only_tr (z_only_wr (by omega)) (z_only_wr (by omega))
        have hXy : z_Wx N r W kp op wh S F y := z_Wx_same hX (fun q a b => ho.2 q (by omega))
        rw [z_nextc hXy hs hS (by omega)]
        simp only [Option.bind_some, zi_succ]
        have e : z_wk (z_nxt N r W kp op S F) (z_dut r kp op) (m + 1) (some s) p v seen row = z_wk (z_nxt N r W kp op S F) (z_dut r kp op) m (z_nxt N r W kp op S F s d) (p + 1) d (fun z => if z = 5 * s + d then some p else seen z) (fun i => if i = p then s else row i) := by
          simp only [z_wk, hdd, hse]
        rw [e]
        refine z_ok.mono (ih n (p + 1) d _ _ _ y (by omega) (by omega) hXy hK' hd (fun s' h' => z_nxt_mem h') (fun z hz => ?_) (fun i hi => ?_) ?_) (fun w hw => ⟨z_only_tr ho hw.1, hw.2⟩)
        · rw [← hy, z_wrp (by omega)]
          by_cases hzz : z = 5 * s + d
          · subst hzz; rw [z_wr1]; simp [zo]
          · rw [z_wr2 (Or.inr hzz)]; simp only [hzz, if_false]; exact h13 z hz
        · rw [← hy]
          by_cases hip : i = p
          · subst hip; rw [z_wr1]; simp
          · rw [z_wr2 (Or.inr hip), z_wrp (by omega)]; simp only [hip, if_false]; exact h12 i (by omega)
        · rw [← hy, z_wrp (by omega), z_wrp (by omega)]; exact h11
      | some q =>
        have hq := k2 _ q hse
        refine z_ok.neg (show ¬ zo (some q) = -1 from zi_m1 (by omega)) ?_
        rw [z_wr1, show zo (some q) = zi q from rfl, zi_sub (by omega)]
        have e : z_wk (z_nxt N r W kp op S F) (z_dut r kp op) (m + 1) (some s) p v seen row = (some (q, p - q), row) := by
          simp only [z_wk, hdd, hse]
        rw [e]
        refine z_ok.some ⟨z_only_tr (z_only_wr (by omega)) (z_only_wr (by omega)), ?_, ?_, by omega, by omega, fun i hi => ⟨?_, ?_⟩⟩
        · rw [z_wr2 (Or.inr (by omega)), z_wr1]
        · rw [z_wr1]
        · rw [z_wrp (by omega), z_wrp (by omega)]; exact h12 i (by omega)
        · exact k3 i (by omega)
theorem z_goc (hX : z_Wx N r W kp op wh S F x) : z_ok (f_Wa_go x) (fun y => z_only (fun q => 11 ≤ q ∧ q ≤ 13) x y ∧ z_Wo N (z_wlk N r W kp op wh S F) (y.2 11 2) (y.2 11 3) (y.2 12)) := by
  have a1 := hX.1.1.1.1
  have a2 := hX.1.1.1.2.1
  unfold f_Wa_go
  simp only [q_let]
  generalize ha : q_wr (q_wr x 11 2 (-1)) 11 3 (-1) = a
  have oa : z_only (fun q => 11 ≤ q ∧ q ≤ 13) x a := by rw [← ha]; exact z_only_tr (z_only_wr (by omega)) (z_only_wr (by omega))
  obtain ⟨b, b1, b2, b3⟩ := z_fillL q_fu 0 a (by omega) (by simp only [q_fu]; omega) (fun z hz => by omega)
  have e : f_Ar_fill a (-1) = some b := b1
  rw [e]
  simp only [Option.bind_some]
  have ob : z_only (fun q => 11 ≤ q ∧ q ≤ 13) x b := z_only_tr oa (z_only_mono b2 (fun q hq => by omega))
  have hXb : z_Wx N r W kp op wh S F b := z_Wx_same hX (fun q h1 h2 => ob.2 q (by omega))
  have e2 : f_La_leastWhole b = some (zo (z_ls (fun s => S s && wh s) N 0)) := z_leastL hXb q_fu N 0 (by omega) (by simp only [q_fu]; omega)
  rw [e2]
  simp only [Option.bind_some]
  refine z_ok.mono (z_goL 1300 q_fu 0 0 (z_ls (fun s => S s && wh s) N 0) (fun _ => none) (fun _ => 0) b (by omega) (by simp only [q_fu]; omega) hXb ⟨?_, fun z q h => (by cases h), fun i hi => by omega⟩ (by omega) (fun s hs => ?_) (fun z hz => b3 z hz) (fun i hi => by omega) ?_) (fun y hy => ⟨z_only_tr ob hy.1, hy.2⟩)
  · have : ∀ n, z_cd (fun z => ((none : Option Nat)).isSome) n = 0 := fun n => by
      induction n with
      | zero => rfl
      | succ n ih => simp only [z_cd, ih]; rfl
    exact (this 1280).symm
  · obtain ⟨c1, c2, c3⟩ := z_ls_mem _ _ _ hs
    rw [Bool.and_eq_true] at c3
    exact ⟨by omega, c3.1⟩
  · rw [b2.2 11 (by omega), ← ha, z_wr2 (Or.inr (by omega)), z_wr1, z_wr1]
    exact ⟨rfl, rfl⟩
end ZW
