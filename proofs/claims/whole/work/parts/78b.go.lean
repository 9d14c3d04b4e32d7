/-! THE CLASS'S WALK. -/
section ZW
variable {N r : Nat} {W : Nat → Nat} {kp op : Nat → Nat → Bool} {wh S : Nat → Bool} {F : Nat → Nat → Option Nat} {x : q_W}
/-- what the class's walk counts upon -/
def z_Wx (N r : Nat) (W : Nat → Nat) (kp op : Nat → Nat → Bool) (wh S : Nat → Bool) (F : Nat → Nat → Option Nat) (x : q_W) : Prop := z_Cs N r W kp op S x ∧ (∀ s, s < N → x.2 7 s = zb (wh s)) ∧ (∀ k, k < r → z_St N S (fun s => kp s k) W (F k) ∧ ∀ s, s < N → x.2 9 (256 * k + s) = zo (F k s)) ∧ z_Gd N r W kp op S
theorem z_Wx_same {y : q_W} (h : z_Wx N r W kp op wh S F x) (g : ∀ q, 3 ≤ q → q ≤ 9 → y.2 q = x.2 q) : z_Wx N r W kp op wh S F y := by
  obtain ⟨⟨⟨a, b, h8, h5, h4⟩, h6, h9⟩, h7, hF, hG⟩ := h
  refine ⟨⟨⟨a, ?_, ?_, ?_, ?_⟩, ?_, ?_⟩, ?_, fun k hk => ⟨(hF k hk).1, ?_⟩, hG⟩
  · rw [g 3 (by omega) (by omega)]; exact b
  · rw [g 8 (by omega) (by omega)]; exact h8
  · rw [g 5 (by omega) (by omega)]; exact h5
  · rw [g 4 (by omega) (by omega)]; exact h4
  · rw [g 6 (by omega) (by omega)]; exact h6
  · rw [g 3 (by omega) (by omega)]; exact h9
  · rw [g 7 (by omega) (by omega)]; exact h7
  · rw [g 9 (by omega) (by omega)]; exact (hF k hk).2
theorem z_modS {r v j : Nat} (hr : 0 < r) : (v + (j + 1)) % r = if r ≤ (v + j) % r + 1 then 0 else (v + j) % r + 1 := by
  have h := Nat.mod_lt (v + j) hr
  rw [show v + (j + 1) = (v + j) + 1 by omega, ← Nat.mod_add_mod]
  split
  · rw [show (v + j) % r + 1 = r by omega, Nat.mod_self]
  · exact Nat.mod_eq_of_lt (by omega)
theorem z_dutL {s v : Nat} (hC : z_Cs N r W kp op S x) (hs : s < N) : ∀ n m j, r = j + m → m < n → v < 10 → f_La_dutyFrom_L5 n x (zi s) (zi v) (zi ((v + j) % r)) (zi j) = some (zi (z_du r (z_pd' op kp s) v m j)) := by
  intro n
  induction n with
  | zero => intro m j h1 h2; omega
  | succ n ih =>
    intro m j h1 h2 hv
    obtain ⟨⟨⟨a1, a2, a3⟩, ⟨b1, b2⟩, h8, h5, h4⟩, h6, h9⟩ := id hC
    simp only [f_La_dutyFrom_L5]
    cases m with
    | zero =>
      rw [if_pos (by rw [b2, zi_le (by omega) (by omega)]; omega)]
      rfl
    | succ m =>
      have hr : 0 < r := by omega
      have hlt := Nat.mod_lt (v + j) hr
      rw [if_neg (by rw [b2, zi_le (by omega) (by omega)]; omega), z_ld (show s < 256 by omega) (by omega), h6 s hs]
      simp only [Option.bind_some]
      rw [z_hbb (by omega), z_bt_ms (by omega), decide_eq_true hlt, Bool.true_and]
      simp only [Option.bind_some, zb_0, q_let, b2, zi_succ]
      have e1 := ih m (j + 1) (by omega) (by omega) hv
      rw [z_modS hr] at e1
      simp only [z_du]
      cases hP : z_pd' op kp s ((v + j) % r) with
      | true => simp
      | false =>
        rw [if_pos rfl]
        simp only [Bool.false_eq_true, if_false]
        by_cases hw : r ≤ (v + j) % r + 1
        · rw [if_pos (by rw [zi_le (by omega) (by omega)]; exact hw)]
          rw [if_pos hw] at e1
          exact e1
        · rw [if_neg (by rw [zi_le (by omega) (by omega)]; exact hw)]
          rw [if_neg hw] at e1
          exact e1
theorem z_dutc {s v : Nat} (hC : z_Cs N r W kp op S x) (hs : s < N) (hv : v < r ∨ (r = 0 ∧ v = 0)) : f_La_dutyFrom x (zi s) (zi v) = some (zi (z_dut r kp op s v)) := by
  have a2 := hC.1.1.2.1
  have h := z_dutL (v := v) hC hs q_fu r 0 (by omega) (by simp only [q_fu]; omega) (by omega)
  have e : (v + 0) % r = v := by
    rcases hv with hv | ⟨h1, h2⟩
    · exact Nat.mod_eq_of_lt hv
    · subst h1; simp
  rw [e] at h
  exact h
theorem z_bdF {f : Nat → Option Nat} {K : Nat → Bool} (h : z_St N S K W f) (hN : N ≤ 256) {s d : Nat} (hs : s < N) (hd : f s = some d) : d < 1000 := by
  have := z_bd (f := f) (N := N) (fun s hs d hd => by obtain ⟨-, s', a, -, b⟩ := h.2.1 s hs d hd; exact ⟨s', a, b⟩) hs hd
  omega
/-- whether one of two is nearer, as the class has it -/
theorem z_near {k i b : Nat} (hX : z_Wx N r W kp op wh S F x) (hk : k < r) (hi : i < N) (hb : b < N) : f_La_isNearer x (zi i) (zi b) (zi k) = some (zb (match F k i with
    | none => false
    | some e => match F k b with
      | none => true
      | some m => decide (e < m))) := by
  obtain ⟨hC, -, hF, -⟩ := hX
  obtain ⟨⟨⟨a1, a2, a3⟩, -⟩, -⟩ := hC
  obtain ⟨f1, f2⟩ := hF k hk
  unfold f_La_isNearer f_La_stepsFrom
  have e : ∀ q, zi k * 256 + zi q = zi (256 * k + q) := fun q => by rw [show (256 : Int32) = zi 256 from rfl, zi_mul, zi_add, Nat.mul_comm]
  rw [e, e, z_ld (show 256 * k + b < 1280 by omega) (by omega), z_ld (show 256 * k + i < 1280 by omega) (by omega), f2 i hi, f2 b hb]
  simp only [Option.bind_some]
  cases h1 : F k i with
  | none =>
    rw [if_pos (show zo none = -1 from rfl)]
    rfl
  | some e1 =>
    have b1 := z_bdF f1 a1 hi h1
    rw [if_neg (show ¬ zo (some e1) = -1 from zi_m1 (by omega))]
    cases h2 : F k b with
    | none =>
      rw [if_pos (show zo none = -1 from rfl)]
      rfl
    | some e2 =>
      have b2 := z_bdF f1 a1 hb h2
      rw [if_neg (show ¬ zo (some e2) = -1 from zi_m1 (by omega))]
      have hle : zo (some e2) ≤ zo (some e1) ↔ e2 ≤ e1 := zi_le (by omega) (by omega)
      simp only
      by_cases hc : e2 ≤ e1
      · rw [if_pos (hle.mpr hc), decide_eq_false (show ¬ e1 < e2 by omega)]
        rfl
      · rw [if_neg (fun h => hc (hle.mp h)), decide_eq_true (show e1 < e2 by omega)]
        rfl
/-- the class's best so far, against the least of least value -/
def z_Ni (D : Bool) (f : Nat → Option Nat) (R : Option (Nat × Nat)) (best : Option Nat) (i : Nat) : Prop := (∀ b, best = some b → b < i) ∧ (D = false → best = R.map Prod.fst) ∧ (D = true → (∀ b m, R = some (b, m) → best = some b) ∧ (R = none → best = none ∨ ∃ b, best = some b ∧ f b = none))
theorem z_nextL {s k : Nat} (hX : z_Wx N r W kp op wh S F x) (hs : s < N) (hk5 : k < 5) {D : Bool} (hD : D = true → k < r) : ∀ (n i : Nat) (best : Option Nat), i ≤ N → N < i + n → z_Ni D (F k) (z_nr (fun s' => S s' && (s / 8 == W s')) (z_vu D (F k)) i) best i → ∃ best', f_La_nextFrom_L17 n x (zi s) (zi k) (zb D) (zo best) (zi i) = some (zo best') ∧ z_Ni D (F k) (z_nr (fun s' => S s' && (s / 8 == W s')) (z_vu D (F k)) N) best' N := by
  intro n
  induction n with
  | zero => intro i best h1 h2; omega
  | succ n ih =>
    intro i best h1 h2 hI
    obtain ⟨hC, h7, hF, hG⟩ := id hX
    obtain ⟨⟨⟨a1, a2, a3⟩, ⟨b1, b2⟩, h8, h5, h4⟩, h6, h9⟩ := id hC
    simp only [f_La_nextFrom_L17]
    by_cases hiN : i = N
    · subst hiN
      rw [if_pos (by rw [b1, zi_le (by omega) (by omega)]; omega)]
      exact ⟨best, rfl, hI⟩
    · have hi : i < N := by omega
      have hWi := a3 i hi
      rw [if_neg (by rw [b1, zi_le (by omega) (by omega)]; omega), z_ld (show i < 256 by omega) (by omega), h8 i hi, z_ld (show i < 256 by omega) (by omega), h4 i hi]
      simp only [Option.bind_some, zb_0]
      rw [z_shr3 s (by omega)]
      obtain ⟨i1, i2, i3⟩ := id hI
      have skip : (S i && (s / 8 == W i)) = false → ∃ best', f_La_nextFrom_J53 (f_La_nextFrom_L17 n) x (zi s) (zi k) (zb D) (zo best) (zi i) = some (zo best') ∧ z_Ni D (F k) (z_nr (fun s' => S s' && (s / 8 == W s')) (z_vu D (F k)) N) best' N := by
        intro hc
        unfold f_La_nextFrom_J53 f_La_nextFrom_J54
        rw [if_pos rfl, zi_succ]
        refine ih (i + 1) best (by omega) (by omega) ?_
        have e : z_nr (fun s' => S s' && (s / 8 == W s')) (z_vu D (F k)) (i + 1) = z_nr (fun s' => S s' && (s / 8 == W s')) (z_vu D (F k)) i := by
          simp only [z_nr, hc]
          split <;> simp
        rw [e]
        exact ⟨fun b hb => by have := i1 b hb; omega, i2, i3⟩
      cases hS : S i with
      | false =>
        rw [if_pos rfl]
        exact skip (by rw [hS]; rfl)
      | true =>
        rw [if_neg (by simp)]
        by_cases hw : s / 8 = W i
        · rw [if_neg (fun h => h (by rw [hw]))]
          have hCi : (S i && (s / 8 == W i)) = true := by rw [hS, hw]; simp
          unfold f_La_nextFrom_J54
          rw [if_neg z_10]
          have take : (∀ R, R = z_nr (fun s' => S s' && (s / 8 == W s')) (z_vu D (F k)) (i + 1) → (D = false → some i = R.map Prod.fst) ∧ (D = true → (∀ b m, R = some (b, m) → some i = some b) ∧ (R = none → F k i = none))) → ∃ best', f_La_nextFrom_L17 n x (zi s) (zi k) (zb D) (zi i) (zi (i + 1)) = some (zo best') ∧ z_Ni D (F k) (z_nr (fun s' => S s' && (s / 8 == W s')) (z_vu D (F k)) N) best' N := by
            intro h
            refine ih (i + 1) (some i) (by omega) (by omega) ⟨fun b hb => by cases hb; omega, (h _ rfl).1, fun hd => ⟨((h _ rfl).2 hd).1, fun hn => Or.inr ⟨i, rfl, ((h _ rfl).2 hd).2 hn⟩⟩⟩
          have keep : (z_Ni D (F k) (z_nr (fun s' => S s' && (s / 8 == W s')) (z_vu D (F k)) (i + 1)) best (i + 1)) → ∃ best', f_La_nextFrom_L17 n x (zi s) (zi k) (zb D) (zo best) (zi (i + 1)) = some (zo best') ∧ z_Ni D (F k) (z_nr (fun s' => S s' && (s / 8 == W s')) (z_vu D (F k)) N) best' N := fun h => ih (i + 1) best (by omega) (by omega) h
          have hR : z_nr (fun s' => S s' && (s / 8 == W s')) (z_vu D (F k)) (i + 1) = (match z_vu D (F k) i with
            | none => z_nr (fun s' => S s' && (s / 8 == W s')) (z_vu D (F k)) i
            | some e => (match z_nr (fun s' => S s' && (s / 8 == W s')) (z_vu D (F k)) i with
              | none => some (i, e)
              | some (b, m) => if e < m then some (i, e) else some (b, m))) := by
            simp only [z_nr, hCi, if_true]
            generalize z_vu D (F k) i = o
            cases o with
            | none => rfl
            | some e =>
              simp only
              cases z_nr (fun s' => S s' && (s / 8 == W s')) (z_vu D (F k)) i with
              | none => rfl
              | some bm => rfl
          generalize hRi : z_nr (fun s' => S s' && (s / 8 == W s')) (z_vu D (F k)) i = Ri at hR i2 i3
          cases hbest : best with
          | none =>
            rw [if_pos (show zo none = -1 from rfl), zi_succ]
            refine take (fun R hR' => ?_)
            rw [hR] at hR'
            subst hR'
            cases D with
            | false =>
              have := i2 rfl
              rw [hbest] at this
              cases Ri with
              | some bm => simp at this
              | none => exact ⟨fun _ => rfl, fun h => by cases h⟩
            | true =>
              have := i3 rfl
              cases Ri with
              | some bm =>
                have := this.1 bm.1 bm.2 rfl
                rw [hbest] at this
                cases this
              | none =>
                refine ⟨fun h => (by cases h), fun _ => ?_⟩
                rw [show z_vu true (F k) i = F k i from rfl]
                cases hfi : F k i with
                | none => simp
                | some e => simp
          | some b =>
            have hb : b < i := i1 b hbest
            have hzb : zo (some b) ≠ -1 := zi_m1 (by omega)
            rw [if_neg hzb]
            cases hDD : D with
            | false =>
              rw [if_pos (show zb false = 0 from rfl), zi_succ]
              rw [hDD, hbest] at keep
              refine keep ?_
              rw [hDD] at hR
              rw [hR, show z_vu false (F k) i = some 0 from rfl]
              have h2 := i2 hDD
              rw [hbest] at h2
              cases Ri with
              | none => cases h2
              | some bm =>
                obtain ⟨b0, m0⟩ := bm
                have hb0 : b = b0 := by simpa using h2
                obtain ⟨_, _, hm0⟩ := z_nr_mem _ _ _ hRi
                rw [hDD] at hm0
                have hm0 : m0 = 0 := by
                  have : some 0 = some m0 := hm0
                  exact (Option.some.inj this).symm
                subst hm0 hb0
                refine ⟨fun b' hb' => by cases hb'; omega, fun _ => by simp, fun h => by cases h⟩
            | true =>
              have hkr := hD hDD
              rw [if_neg (show ¬ zb true = 0 by decide), show zo (some b) = zi b from rfl, z_near hX hkr hi (by omega)]
              simp only [Option.bind_some, zb_0, zi_succ]
              rw [hDD, hbest] at keep
              rw [hDD] at take
              rw [hDD, show z_vu true (F k) i = F k i from rfl] at hR
              obtain ⟨j1, j2⟩ := i3 hDD
              cases hfi : F k i with
              | none =>
                simp only [if_true]
                refine keep ?_
                rw [hR, hfi]
                refine ⟨?_, ?_, ?_⟩
                · intro b' hb'
                  cases hb'
                  omega
                · intro h
                  cases h
                · intro _
                  rw [← hbest]
                  exact ⟨j1, j2⟩
              | some e =>
                simp only
                rw [hfi] at hR
                simp only at hR
                cases hRi' : Ri with
                | none =>
                  rw [hRi'] at hR
                  simp only at hR
                  rcases j2 hRi' with h | ⟨b', h, h'⟩
                  · rw [hbest] at h; cases h
                  · rw [hbest] at h
                    cases h
                    rw [h']
                    simp only
                    rw [if_neg (by simp)]
                    refine take (fun R hR' => ?_)
                    rw [hR] at hR'
                    subst hR'
                    exact ⟨fun h => (by cases h), fun _ => ⟨fun b m h => by cases h; rfl, fun h => by cases h⟩⟩
                | some bm =>
                  obtain ⟨b0, m0⟩ := bm
                  rw [hRi'] at hR hRi
                  simp only at hR
                  have hbb := j1 b0 m0 hRi'
                  rw [hbest] at hbb
                  cases hbb
                  obtain ⟨_, _, hm0⟩ := z_nr_mem _ _ _ hRi
                  rw [hDD] at hm0
                  have hm0 : F k b = some m0 := hm0
                  rw [hm0]
                  simp only
                  by_cases hlt : e < m0
                  · rw [if_neg (by simp [hlt])]
                    rw [if_pos hlt] at hR
                    refine take (fun R hR' => ?_)
                    rw [hR] at hR'
                    subst hR'
                    exact ⟨fun h => (by cases h), fun _ => ⟨fun b m h => by cases h; rfl, fun h => by cases h⟩⟩
                  · rw [if_pos (by simp [hlt])]
                    rw [if_neg hlt] at hR
                    refine keep ?_
                    rw [hR]
                    exact ⟨fun b' hb' => by cases hb'; omega, fun h => (by cases h), fun _ => ⟨fun b m h => by cases h; rfl, fun h => by cases h⟩⟩
        · rw [if_pos (fun h => hw ((zi_eq (by omega) (by omega)).mp h).symm)]
          exact skip (by simp [hw])
theorem z_nextc {s k : Nat} (hX : z_Wx N r W kp op wh S F x) (hs : s < N) (hS : S s = true) (hk5 : k < 5) : f_La_nextFrom x (zi s) (zi k) = some (zo (z_nxt N r W kp op S F s k)) := by
  obtain ⟨hC, h7, hF, hG⟩ := id hX
  obtain ⟨⟨⟨a1, a2, a3⟩, ⟨b1, b2⟩, h8, h5, h4⟩, h6, h9⟩ := id hC
  unfold f_La_nextFrom
  rw [z_ld (show s < 256 by omega) (by omega), h6 s hs]
  simp only [Option.bind_some]
  rw [z_hbb (by omega), z_bt_ms (by omega)]
  simp only [Option.bind_some]
  obtain ⟨best, e1, n1, n2, n3⟩ := z_nextL hX hs hk5 (D := decide (k < r) && z_pd' op kp s k) (fun h => by rw [Bool.and_eq_true, decide_eq_true_iff] at h; exact h.1) q_fu 0 none (by omega) (by simp only [q_fu]; omega) ⟨fun b h => (by cases h), fun _ => rfl, fun _ => ⟨fun b m h => (by cases h), fun _ => Or.inl rfl⟩⟩
  have e1' : f_La_nextFrom_L17 q_fu x (zi s) (zi k) (zb (decide (k < r) && z_pd' op kp s k)) (-1) 0 = some (zo best) := e1
  rw [e1']
  congr 2
  unfold z_nxt
  cases hD : (decide (k < r) && z_pd' op kp s k) with
  | false =>
    rw [hD] at n2
    exact n2 rfl
  | true =>
    rw [hD] at n3
    have hD' := hD
    rw [Bool.and_eq_true, decide_eq_true_iff] at hD'
    obtain ⟨s', c1, c2, c3, c4⟩ := z_due hG (fun k hk => (hF k hk).1) hs hS hD'.1 hD'.2
    cases hR : z_nr (fun s' => S s' && (s / 8 == W s')) (z_vu true (F k)) N with
    | none =>
      have := z_nr_none N hR s' c1 (by simp [c2, c3])
      exact absurd this c4
    | some bm =>
      rw [(n3 rfl).1 bm.1 bm.2 hR]
      rfl
end ZW
