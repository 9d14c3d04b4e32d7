/-! THE WORLD AS IT STANDS ONCE IT IS MADE: c, d: the places of the formula that holds and of the draft; x: the law's answer cell, and a number for each place and slot. Rows of the abstract walk over it, each with the equation of the method's function. -/
abbrev q_W : Type := Int64 × (Nat → Nat → Int32)
def q_wr (x : q_W) (p k : Nat) (v : Int32) : q_W := (x.1, fun p' => if p' = p then upd (x.2 p) k v else x.2 p')
def q_ld (x : q_W) (p n : Nat) (i : Int32) : Option Int32 := if i < 0 ∨ n ≤ i.toNatClampNeg then none else some (x.2 p i.toNatClampNeg)
def q_sto (x : q_W) (p n : Nat) (i v : Int32) : Option q_W := if i < 0 ∨ n ≤ i.toNatClampNeg then none else some (q_wr x p i.toNatClampNeg v)
def q_let {α β : Type} (a : α) (f : α → β) : β := f a
theorem q_ite {c : Prop} [Decidable c] {α : Type} {A B r : α} {P : Prop} (h : (if c then A else B) = r) (f : c → A = r → P) (g : ¬ c → B = r → P) : P := by
  by_cases hc : c
  · rw [if_pos hc] at h
    exact f hc h
  · rw [if_neg hc] at h
    exact g hc h
theorem q_ai {x a b : Int32} (h : a = b) : x + a = x + b := by rw [h]
def q_fu : Nat := 3000
def q_rm (n : Nat) : Room := { frames := n, cells := 1, slots := 6, locals := 64 * n }
theorem q_ro {n n' k : Nat} (h : n' < n) (hk : k ≤ 45) : (q_rm n').frames + 1 ≤ (q_rm n).frames ∧ 8 + (k + 11) + (q_rm n').locals ≤ (q_rm n).locals ∧ 0 + (q_rm n').cells ≤ (q_rm n).cells ∧ 0 + (q_rm n').slots ≤ (q_rm n).slots := by
  simp only [q_rm]
  omega
def q_cells (E : q_E) (c d : Nat) (x : q_W) : List va_E := (List.range q_NT).map fun p => q_mk E c d x.1 p (x.2 p)
theorem q_cells_at {E : q_E} {c d : Nat} {x : q_W} {p : Nat} (h : p < q_NT) : (q_cells E c d x)[p]? = some (q_mk E c d x.1 p (x.2 p)) := by
  simp [q_cells, h]
theorem q_cells_set {E : q_E} {c d : Nat} {x : q_W} {p k : Nat} {v : Int32} {e : va_E} (h : q_mk E c d x.1 p (upd (x.2 p) k v) = e) : (q_cells E c d x).set p e = q_cells E c d (q_wr x p k v) := by
  apply List.ext_getElem?
  intro j
  by_cases hj : p = j
  · subst hj
    by_cases hp : p < q_NT
    · rw [q_cells_at hp, List.getElem?_set_self (by simp [q_cells, hp])]
      simp [q_wr, h]
    · simp [q_cells, hp]
  · rw [List.getElem?_set_ne hj]
    by_cases hp : j < q_NT
    · rw [q_cells_at hp, q_cells_at hp]
      simp [q_wr, Ne.symm hj]
    · simp [q_cells, hp]
theorem q_cells_out {E : q_E} {c d : Nat} {x : q_W} {z : Int64} {e : va_E} (h : q_mk E c d z q_PO (x.2 q_PO) = e) : (q_cells E c d x).set q_PO e = q_cells E c d (z, x.2) := by
  apply List.ext_getElem?
  intro j
  by_cases hj : q_PO = j
  · subst hj
    rw [q_cells_at (by decide), List.getElem?_set_self (by simp [q_cells, q_NT, q_PO])]
    rw [← h]
  · rw [List.getElem?_set_ne hj]
    by_cases hp : j < q_NT
    · rw [q_cells_at hp, q_cells_at hp]
      exact congrArg some (q_mk_out (Ne.symm hj))
    · simp [q_cells, hp]
theorem q_cells_cd {E : q_E} {c d c' d' : Nat} {x : q_W} {e : va_E} (h : q_mk E c' d' x.1 0 (x.2 0) = e) : (q_cells E c d x).set 0 e = q_cells E c' d' x := by
  apply List.ext_getElem?
  intro j
  by_cases hj : 0 = j
  · subst hj
    rw [q_cells_at (by decide), List.getElem?_set_self (by simp [q_cells, q_NT])]
    rw [← h]
  · rw [List.getElem?_set_ne hj]
    by_cases hp : j < q_NT
    · rw [q_cells_at hp, q_cells_at hp]
      exact congrArg some (q_mk_cd (Ne.symm hj))
    · simp [q_cells, hp]
abbrev q_rP (E : q_E) (c d : Nat) (x : q_W) (v : Int32) : q_R := (.inl (some (.int v)), q_cells E c d x, 0, 0)
abbrev q_rS (E : q_E) (c d : Nat) (ρ : Int32 × q_W) : q_R := (.inl (some (.int ρ.1)), q_cells E c d ρ.2, 0, 0)
abbrev q_rV (E : q_E) (c d : Nat) (ρ : q_W) : q_R := (.inl none, q_cells E c d ρ, 0, 0)
def q_rT (E : q_E) (c d : Nat) (vd : Bool) (ρ : (Int32 ⊕ Nat) × q_W) : q_R := match ρ.1 with
  | .inl v => (.inl (bif vd then none else some (.int v)), q_cells E c d ρ.2, 0, 0)
  | .inr k => (.inr k, q_cells E c d ρ.2, 1, 6)
abbrev q_rPT (E : q_E) (c d : Nat) (vd : Bool) (x : q_W) (ρ : Int32 ⊕ Nat) : q_R := q_rT E c d vd (ρ, x)
abbrev q_rTF (E : q_E) (ρ : (Int32 ⊕ Nat) × (Nat × Nat × q_W)) : q_R := q_rT E ρ.2.1 ρ.2.2.1 false (ρ.1, ρ.2.2.2)
abbrev q_rL (E : q_E) (c d : Nat) (ρ : Int32 × q_W) : q_R := (.inl (some (.int ρ.1)), q_cells E c d ρ.2, 1, 6)
abbrev q_rSF (E : q_E) (ρ : Int32 × (Nat × Nat × q_W)) : q_R := (.inl (some (.int ρ.1)), q_cells E ρ.2.1 ρ.2.2.1 ρ.2.2.2, 1, 6)
/-- a callee that may throw: what it throws goes on -/
def q_thb {α : Type} (F : Option ((Int32 ⊕ Nat) × α)) (K : Int32 → α → Option ((Int32 ⊕ Nat) × α)) : Option ((Int32 ⊕ Nat) × α) := match F with
  | none => none
  | some (.inl v, x) => K v x
  | some (.inr k, x) => some (.inr k, x)
def q_tp {α : Type} (F : Option (Int32 ⊕ Nat)) (x : α) (K : Int32 → Option ((Int32 ⊕ Nat) × α)) : Option ((Int32 ⊕ Nat) × α) := match F with
  | none => none
  | some (.inl v) => K v
  | some (.inr k) => some (.inr k, x)
def q_tpp (F : Option (Int32 ⊕ Nat)) (K : Int32 → Option (Int32 ⊕ Nat)) : Option (Int32 ⊕ Nat) := match F with
  | none => none
  | some (.inl v) => K v
  | some (.inr k) => some (.inr k)
section QX
variable {E : q_E} {R : Room} {M Y : q_M} {c d ce sl pc : Nat} {x : q_W} {lv : List (Nat × Value)} {st : List Value} {r : q_R} {β : Type} {ρ : β}
theorem q_xtop {z : Int32} {K : Int32 → Option β} {ws : List va_E} (h : q_let z K = some ρ) (k : ∀ v, v = z → K v = some ρ → AW E R M ws ce sl pc lv (.int v :: st) r) : AW E R M ws ce sl pc lv (.int z :: st) r := k z rfl h
theorem q_xget {idx ci f q0 : Nat} {fs : List Value} {v : Value} (n : Nat) (hd : decode M.1 pc = .ok (.getfield idx, 3)) (hn : pc + 3 = n) (hf : q_FL M.2.2.2.1 idx ci f) (hq : q0 < q_NT) (he : q_mk E c d x.1 q0 (x.2 q0) = .inr (ci, fs)) (hv : fs[f]? = some v) (k : AW E R M (q_cells E c d x) ce sl n lv (v :: st) r) : AW E R M (q_cells E c d x) ce sl pc lv (.ref q0 :: st) r :=
  q_get n hd hn hf (Nat.lt_trans hq (by decide)) ((q_cells_at hq).trans (congrArg some he)) hv k
theorem q_xput {idx ci f q0 : Nat} {fs : List Value} {z : Int32} {ty : FieldType} {K : q_W → Option β} (n : Nat) (hd : decode M.1 pc = .ok (.putfield idx, 3)) (hn : pc + 3 = n) (hf : q_FL M.2.2.2.1 idx ci f) (hq : q0 < q_NT) (he : q_mk E c d x.1 q0 (x.2 q0) = .inr (ci, fs)) (hty : q_fty ci f = some (ty, false)) (hna : narrow ty (.int z) = .int z) (hfit : fits ty (.int z) = true) (hl0 : f < fs.length) (hu : ∀ u, q_mk E c d x.1 q0 (upd (x.2 q0) f u) = .inr (ci, fs.set f (.int u))) (h : q_let (q_wr x q0 f z) K = some ρ) (k : ∀ x', x' = q_wr x q0 f z → K x' = some ρ → AW E R M (q_cells E c d x') ce sl n lv st r) : AW E R M (q_cells E c d x) ce sl pc lv (.int z :: .ref q0 :: st) r :=
  q_put n hd hn hf (Nat.lt_trans hq (by decide)) ((q_cells_at hq).trans (congrArg some he)) hty hna hfit hl0 (q_cells_set (hu z)) (k _ rfl h)
theorem q_xputc {idx : Nat} {u : Nat} (n : Nat) (hd : decode M.1 pc = .ok (.putfield idx, 3)) (hn : pc + 3 = n) (hf : q_FL M.2.2.2.1 idx 0 4) (hty : q_fty 0 4 = some (.object "LassoDesk$Formula", false)) (k : AW E R M (q_cells E u d x) ce sl n lv st r) : AW E R M (q_cells E c d x) ce sl pc lv (.ref u :: .ref 0 :: st) r :=
  q_put n hd hn hf (by decide) ((q_cells_at (by decide)).trans (congrArg some rfl)) hty rfl rfl (Nat.le_of_ble_eq_true rfl) (q_cells_cd rfl) k
theorem q_xputd {idx : Nat} {u : Nat} (n : Nat) (hd : decode M.1 pc = .ok (.putfield idx, 3)) (hn : pc + 3 = n) (hf : q_FL M.2.2.2.1 idx 0 5) (hty : q_fty 0 5 = some (.object "LassoDesk$Formula", false)) (k : AW E R M (q_cells E c u x) ce sl n lv st r) : AW E R M (q_cells E c d x) ce sl pc lv (.ref u :: .ref 0 :: st) r :=
  q_put n hd hn hf (by decide) ((q_cells_at (by decide)).trans (congrArg some rfl)) hty rfl rfl (Nat.le_of_ble_eq_true rfl) (q_cells_cd rfl) k
theorem q_ld_bind {p len : Nat} {i : Int32} {K : Int32 → Option β} (h : (q_ld x p len i).bind K = some ρ) : vp_in i len ∧ K (x.2 p i.toNatClampNeg) = some ρ := by
  unfold q_ld at h
  by_cases hc : i < 0 ∨ len ≤ i.toNatClampNeg
  · rw [if_pos hc] at h
    cases h
  · rw [if_neg hc] at h
    exact ⟨hc, h⟩
theorem q_sto_bind {p len : Nat} {i v : Int32} {K : q_W → Option β} (h : (q_sto x p len i v).bind K = some ρ) : vp_in i len ∧ K (q_wr x p i.toNatClampNeg v) = some ρ := by
  unfold q_sto at h
  by_cases hc : i < 0 ∨ len ≤ i.toNatClampNeg
  · rw [if_pos hc] at h
    cases h
  · rw [if_neg hc] at h
    exact ⟨hc, h⟩
theorem q_xiald {q0 len : Nat} {i : Int32} {K : Int32 → Option β} (n : Nat) (hd : decode M.1 pc = .ok (.iaload, 1)) (hn : pc + 1 = n) (hq : q0 < q_NT) (he : ∀ f, q_mk E c d x.1 q0 f = .inl (q_kA E 0, len, .inl f)) (h : (q_ld x q0 len i).bind K = some ρ) (k : ∀ w, w = x.2 q0 i.toNatClampNeg → K w = some ρ → AW E R M (q_cells E c d x) ce sl n lv (.int w :: st) r) : AW E R M (q_cells E c d x) ce sl pc lv (.int i :: .ref q0 :: st) r :=
  q_iald n hd hn (Nat.lt_trans hq (by decide)) ((q_cells_at hq).trans (congrArg some (he _))) (q_ld_bind h).1 (k _ rfl (q_ld_bind h).2)
theorem q_xiast {q0 len : Nat} {i y : Int32} {K : q_W → Option β} (n : Nat) (hd : decode M.1 pc = .ok (.iastore, 1)) (hn : pc + 1 = n) (hq : q0 < q_NT) (he : ∀ f, q_mk E c d x.1 q0 f = .inl (q_kA E 0, len, .inl f)) (h : (q_sto x q0 len i (y)).bind K = some ρ) (k : ∀ x', x' = q_wr x q0 i.toNatClampNeg (y) → K x' = some ρ → AW E R M (q_cells E c d x') ce sl n lv st r) : AW E R M (q_cells E c d x) ce sl pc lv (.int y :: .int i :: .ref q0 :: st) r :=
  q_iast n hd hn (Nat.lt_trans hq (by decide)) ((q_cells_at hq).trans (congrArg some (he _))) (q_sto_bind h).1 (q_cells_set (he _)) (k _ rfl (q_sto_bind h).2)
theorem q_xzald {q0 len : Nat} {i : Int32} {K : Int32 → Option β} (n : Nat) (hd : decode M.1 pc = .ok (.baload, 1)) (hn : pc + 1 = n) (hq : q0 < q_NT) (he : ∀ f, q_mk E c d x.1 q0 f = .inl (q_kA E 1, len, .inl f)) (h : (q_ld x q0 len i).bind K = some ρ) (k : ∀ w, w = x.2 q0 i.toNatClampNeg → K w = some ρ → AW E R M (q_cells E c d x) ce sl n lv (.int w :: st) r) : AW E R M (q_cells E c d x) ce sl pc lv (.int i :: .ref q0 :: st) r :=
  q_zald n hd hn (Nat.lt_trans hq (by decide)) ((q_cells_at hq).trans (congrArg some (he _))) (q_ld_bind h).1 (k _ rfl (q_ld_bind h).2)
theorem q_xzast {q0 len : Nat} {i y : Int32} {K : q_W → Option β} (n : Nat) (hd : decode M.1 pc = .ok (.bastore, 1)) (hn : pc + 1 = n) (hq : q0 < q_NT) (he : ∀ f, q_mk E c d x.1 q0 f = .inl (q_kA E 1, len, .inl f)) (h : (q_sto x q0 len i (vp_nar .boolean y)).bind K = some ρ) (k : ∀ x', x' = q_wr x q0 i.toNatClampNeg (vp_nar .boolean y) → K x' = some ρ → AW E R M (q_cells E c d x') ce sl n lv st r) : AW E R M (q_cells E c d x) ce sl pc lv (.int y :: .int i :: .ref q0 :: st) r :=
  q_zast n hd hn (Nat.lt_trans hq (by decide)) ((q_cells_at hq).trans (congrArg some (he _))) (q_sto_bind h).1 (q_cells_set (he _)) (k _ rfl (q_sto_bind h).2)
theorem q_xcald {q0 len : Nat} {i : Int32} {K : Int32 → Option β} (n : Nat) (hd : decode M.1 pc = .ok (.caload, 1)) (hn : pc + 1 = n) (hq : q0 < q_NT) (he : ∀ f, q_mk E c d x.1 q0 f = .inl (q_kA E 2, len, .inl f)) (h : (q_ld x q0 len i).bind K = some ρ) (k : ∀ w, w = x.2 q0 i.toNatClampNeg → K w = some ρ → AW E R M (q_cells E c d x) ce sl n lv (.int w :: st) r) : AW E R M (q_cells E c d x) ce sl pc lv (.int i :: .ref q0 :: st) r :=
  q_cald n hd hn (Nat.lt_trans hq (by decide)) ((q_cells_at hq).trans (congrArg some (he _))) (q_ld_bind h).1 (k _ rfl (q_ld_bind h).2)
theorem q_xcast {q0 len : Nat} {i y : Int32} {K : q_W → Option β} (n : Nat) (hd : decode M.1 pc = .ok (.castore, 1)) (hn : pc + 1 = n) (hq : q0 < q_NT) (he : ∀ f, q_mk E c d x.1 q0 f = .inl (q_kA E 2, len, .inl f)) (h : (q_sto x q0 len i (vp_nar .char y)).bind K = some ρ) (k : ∀ x', x' = q_wr x q0 i.toNatClampNeg (vp_nar .char y) → K x' = some ρ → AW E R M (q_cells E c d x') ce sl n lv st r) : AW E R M (q_cells E c d x) ce sl pc lv (.int y :: .int i :: .ref q0 :: st) r :=
  q_cast n hd hn (Nat.lt_trans hq (by decide)) ((q_cells_at hq).trans (congrArg some (he _))) (q_sto_bind h).1 (q_cells_set (he _)) (k _ rfl (q_sto_bind h).2)
theorem q_in01 : vp_in 0 1 := by
  unfold vp_in
  decide
theorem q_xlald (n : Nat) (hd : decode M.1 pc = .ok (.laload, 1)) (hn : pc + 1 = n) (k : AW E R M (q_cells E c d x) ce sl n lv (.long x.1 :: st) r) : AW E R M (q_cells E c d x) ce sl pc lv (.int 0 :: .ref q_PO :: st) r := by
  refine q_lald (f := q_of x.1) n hd hn (by decide) ((q_cells_at (by decide)).trans (congrArg some rfl)) q_in01 ?_
  rw [show (0 : Int32).toNatClampNeg = 0 by decide, show q_of x.1 0 = x.1 from rfl]
  exact k
theorem q_xlast {z : Int64} {K : q_W → Option β} (n : Nat) (hd : decode M.1 pc = .ok (.lastore, 1)) (hn : pc + 1 = n) (h : q_let (z, x.2) K = some ρ) (k : ∀ x', x' = (z, x.2) → K x' = some ρ → AW E R M (q_cells E c d x') ce sl n lv st r) : AW E R M (q_cells E c d x) ce sl pc lv (.long z :: .int 0 :: .ref q_PO :: st) r :=
  q_last n hd hn (by decide) ((q_cells_at (by decide)).trans (congrArg some rfl)) q_in01 (q_cells_out (by
    simp only [q_mk, q_PO, Sum.inl.injEq, Prod.mk.injEq, true_and, Sum.inr.injEq]
    funext j
    rw [show (0 : Int32).toNatClampNeg = 0 by decide]
    by_cases hj : j = 0 <;> simp [vp_updL, q_of, hj])) (k _ rfl h)
theorem q_xalen {q0 len t : Nat} {ty : FieldType} {v : Int32} (n : Nat) (hd : decode M.1 pc = .ok (.arraylength, 1)) (hn : pc + 1 = n) (hq : q0 < q_NT) (he : ∀ f, q_mk E c d x.1 q0 f = .inl (q_kA E t, len, .inl f)) (ht0 : (q_tys E)[t]? = some (q_kA E t, ty)) (hv : Int32.ofNat len = v) (k : AW E R M (q_cells E c d x) ce sl n lv (.int v :: st) r) : AW E R M (q_cells E c d x) ce sl pc lv (.ref q0 :: st) r :=
  q_alen n hd hn (Nat.lt_trans hq (by decide)) ((q_cells_at hq).trans (congrArg some (he _))) ht0 hv k
def q_xld (E : q_E) (i : Int32) : Option Int32 := if i < 0 ∨ q_L E ≤ i.toNatClampNeg then none else some (q_xs E i.toNatClampNeg)
theorem q_xsld {i : Int32} {K : Int32 → Option β} {ws : List va_E} (n : Nat) (hd : decode M.1 pc = .ok (.iaload, 1)) (hn : pc + 1 = n) (h : (q_xld E i).bind K = some ρ) (k : ∀ w, w = q_xs E i.toNatClampNeg → K w = some ρ → AW E R M ws ce sl n lv (.int w :: st) r) : AW E R M ws ce sl pc lv (.int i :: .ref 900 :: st) r := by
  unfold q_xld at h
  by_cases hc : i < 0 ∨ q_L E ≤ i.toNatClampNeg
  · rw [if_pos hc] at h
    cases h
  · rw [if_neg hc] at h
    exact q_sld n hd hn hc (k _ rfl h)
variable {y : MethodName} {as rest st0 : List Value} {rm : Room} {ig : Instr} {idx : Nat}
theorem q_xinvV {q0 ci N : Nat} {fs : List Value} {T0 : u_T} (hd : decode M.1 pc = .ok (.invokevirtual idx, 3)) (hl : Cond.methodLink M.2.2.2.1 idx y ∈ lw_tbl) (hs : Cond.instanceMethod y ∈ lw_tbl) (hse : Cond.selects y.cls y y ∈ lw_tbl) (hc : q_hd y Y ∈ lw_tbl) (hy : y.cls ≠ "java/lang/invoke/MethodHandle" ∧ y.cls ≠ "java/lang/invoke/VarHandle") (hlen : (parseMethodDescriptor y.desc).map (fun d => d.parameters.length) = some as.length) (hq : q0 < q_NT) (he : q_mk E c d x.1 q0 (x.2 q0) = .inr (ci, fs)) (hcl : q_cl[ci]? = some (y.cls, T0, N)) : q_Inv E R M (q_cells E c d x) pc y (.ref q0 :: as) rest :=
  q_invV (Y := Y) hd hl hs hse hc hy hlen (Nat.lt_trans hq (by decide)) ((q_cells_at hq).trans (congrArg some he)) hcl
theorem q_xinvVN {host : String} {q0 ci N : Nat} {fs : List Value} {T0 : u_T} (hd : decode M.1 pc = .ok (.invokevirtual idx, 3)) (hl : Cond.methodLinkNest M.2.2.2.1 idx y host ∈ lw_tbl) (hs : Cond.instanceMethod y ∈ lw_tbl) (hse : Cond.selects y.cls y y ∈ lw_tbl) (hc : q_hd y Y ∈ lw_tbl) (hy : y.cls ≠ "java/lang/invoke/MethodHandle" ∧ y.cls ≠ "java/lang/invoke/VarHandle") (hlen : (parseMethodDescriptor y.desc).map (fun d => d.parameters.length) = some as.length) (hq : q0 < q_NT) (he : q_mk E c d x.1 q0 (x.2 q0) = .inr (ci, fs)) (hcl : q_cl[ci]? = some (y.cls, T0, N)) : q_Inv E R M (q_cells E c d x) pc y (.ref q0 :: as) rest :=
  q_invVN (Y := Y) hd hl hs hse hc hy hlen (Nat.lt_trans hq (by decide)) ((q_cells_at hq).trans (congrArg some he)) hcl
theorem q_xcallP {F : Option Int32} {K : Int32 → Option β} (n : Nat) (h : F.bind K = some ρ) (hM : ∀ v, F = some v → q_Ct E y Y rm (q_cells E c d x) as (q_rP E c d x v)) (hI : q_Inv E R M (q_cells E c d x) pc y as rest) (hk : q_hd y Y ∈ lw_tbl ∧ Cond.initialized y.cls ∈ lw_tbl) (hro : rm.frames + 1 ≤ R.frames ∧ 8 + (Y.2.1 + 11) + rm.locals ≤ R.locals ∧ ce + rm.cells ≤ R.cells ∧ sl + rm.slots ≤ R.slots) (hst : (rest.map fun v => v.category).sum ≤ 8) (hd : decode M.1 pc = .ok (ig, 3)) (hn : pc + 3 = n) (hy0 : Y.2.2.2.2.2.2 = none) (hs : as.reverse ++ rest = st0) (k : ∀ v, F = some v → K v = some ρ → AW E R M (q_cells E c d x) ce sl n lv (.int v :: rest) r) : AW E R M (q_cells E c d x) ce sl pc lv st0 r := by
  subst hs
  cases hF : F with
  | none => rw [hF] at h; cases h
  | some v => exact q_call n (hM v hF) hI hk hro hst hd hn (Or.inl hy0) (k v hF (by rw [hF] at h; exact h))
theorem q_xcallS {F : Option (Int32 × q_W)} {K : Int32 × q_W → Option β} (n : Nat) (h : F.bind K = some ρ) (hM : ∀ v, F = some v → q_Ct E y Y rm (q_cells E c d x) as (q_rS E c d v)) (hI : q_Inv E R M (q_cells E c d x) pc y as rest) (hk : q_hd y Y ∈ lw_tbl ∧ Cond.initialized y.cls ∈ lw_tbl) (hro : rm.frames + 1 ≤ R.frames ∧ 8 + (Y.2.1 + 11) + rm.locals ≤ R.locals ∧ ce + rm.cells ≤ R.cells ∧ sl + rm.slots ≤ R.slots) (hst : (rest.map fun v => v.category).sum ≤ 8) (hd : decode M.1 pc = .ok (ig, 3)) (hn : pc + 3 = n) (hy0 : Y.2.2.2.2.2.2 = none) (hs : as.reverse ++ rest = st0) (k : ∀ v, F = some v → K v = some ρ → AW E R M (q_cells E c d v.2) ce sl n lv (.int v.1 :: rest) r) : AW E R M (q_cells E c d x) ce sl pc lv st0 r := by
  subst hs
  cases hF : F with
  | none => rw [hF] at h; cases h
  | some v => exact q_call n (hM v hF) hI hk hro hst hd hn (Or.inl hy0) (k v hF (by rw [hF] at h; exact h))
theorem q_xcallV {F : Option q_W} {K : q_W → Option β} (n : Nat) (h : F.bind K = some ρ) (hM : ∀ v, F = some v → q_Ct E y Y rm (q_cells E c d x) as (q_rV E c d v)) (hI : q_Inv E R M (q_cells E c d x) pc y as rest) (hk : q_hd y Y ∈ lw_tbl ∧ Cond.initialized y.cls ∈ lw_tbl) (hro : rm.frames + 1 ≤ R.frames ∧ 8 + (Y.2.1 + 11) + rm.locals ≤ R.locals ∧ ce + rm.cells ≤ R.cells ∧ sl + rm.slots ≤ R.slots) (hst : (rest.map fun v => v.category).sum ≤ 8) (hd : decode M.1 pc = .ok (ig, 3)) (hn : pc + 3 = n) (hy0 : Y.2.2.2.2.2.2 = none) (hs : as.reverse ++ rest = st0) (k : ∀ v, F = some v → K v = some ρ → AW E R M (q_cells E c d v) ce sl n lv rest r) : AW E R M (q_cells E c d x) ce sl pc lv st0 r := by
  subst hs
  cases hF : F with
  | none => rw [hF] at h; cases h
  | some v => exact q_call n (hM v hF) hI hk hro hst hd hn (Or.inl hy0) (k v hF (by rw [hF] at h; exact h))
theorem q_no {M : q_M} {pc : Nat} (h : M.2.2.2.2.2.1 = []) : ∀ h ∈ M.2.2.2.2.2.1, (decide (h.1 ≤ pc) && decide (pc < h.2.1)) = false := by
  rw [h]
  intro q hq
  cases hq
theorem q_xcallPP {F : Option (Int32 ⊕ Nat)} {K : Int32 → Option (Int32 ⊕ Nat)} {ρ : Int32 ⊕ Nat} {vd vd' : Bool} {lv : List (Nat × Value)} (n : Nat) (h : q_tpp F K = some ρ) (hM : ∀ v, F = some v → q_Ct E y Y rm (q_cells E c d x) as (q_rPT E c d vd' x v)) (hI : q_Inv E R M (q_cells E c d x) pc y as rest) (hk : q_hd y Y ∈ lw_tbl ∧ Cond.initialized y.cls ∈ lw_tbl) (hro : rm.frames + 1 ≤ R.frames ∧ 8 + (Y.2.1 + 11) + rm.locals ≤ R.locals ∧ 0 + rm.cells ≤ R.cells ∧ 0 + rm.slots ≤ R.slots) (hst : (rest.map fun v => v.category).sum ≤ 8) (hd : decode M.1 pc = .ok (ig, 3)) (hn : pc + 3 = n) (hy0 : Y.2.2.2.2.2.2 = none) (hs : as.reverse ++ rest = st0) (hM0 : M.2.2.2.2.2.1 = []) (k : ∀ v, F = some (.inl v) → K v = some ρ → AW E R M (q_cells E c d x) 0 0 n lv ((bif vd' then [] else [.int v]) ++ rest) (q_rPT E c d vd x ρ)) : AW E R M (q_cells E c d x) 0 0 pc lv st0 (q_rPT E c d vd x ρ) := by
  subst hs
  cases hF : F with
  | none => rw [hF] at h; cases h
  | some v =>
    cases v with
    | inl v =>
      have hk' := k v hF (by rw [hF] at h; exact h)
      cases vd' with
      | true => exact q_call n (hM _ hF) hI hk hro hst hd hn (Or.inl hy0) hk'
      | false => exact q_call n (hM _ hF) hI hk hro hst hd hn (Or.inl hy0) hk'
    | inr kx =>
      rw [hF] at h
      cases h
      exact q_callT (hM _ hF) hI hk hro hst hd (Or.inl hy0) (q_no hM0) (by decide) (by decide)
theorem q_xcallPT {F : Option (Int32 ⊕ Nat)} {K : Int32 → Option ((Int32 ⊕ Nat) × q_W)} {ρ : (Int32 ⊕ Nat) × q_W} {vd vd' : Bool} {lv : List (Nat × Value)} (n : Nat) (h : q_tp F x K = some ρ) (hM : ∀ v, F = some v → q_Ct E y Y rm (q_cells E c d x) as (q_rPT E c d vd' x v)) (hI : q_Inv E R M (q_cells E c d x) pc y as rest) (hk : q_hd y Y ∈ lw_tbl ∧ Cond.initialized y.cls ∈ lw_tbl) (hro : rm.frames + 1 ≤ R.frames ∧ 8 + (Y.2.1 + 11) + rm.locals ≤ R.locals ∧ 0 + rm.cells ≤ R.cells ∧ 0 + rm.slots ≤ R.slots) (hst : (rest.map fun v => v.category).sum ≤ 8) (hd : decode M.1 pc = .ok (ig, 3)) (hn : pc + 3 = n) (hy0 : Y.2.2.2.2.2.2 = none) (hs : as.reverse ++ rest = st0) (hM0 : M.2.2.2.2.2.1 = []) (k : ∀ v, F = some (.inl v) → K v = some ρ → AW E R M (q_cells E c d x) 0 0 n lv ((bif vd' then [] else [.int v]) ++ rest) (q_rT E c d vd ρ)) : AW E R M (q_cells E c d x) 0 0 pc lv st0 (q_rT E c d vd ρ) := by
  subst hs
  cases hF : F with
  | none => rw [hF] at h; cases h
  | some v =>
    cases v with
    | inl v =>
      have hk' := k v hF (by rw [hF] at h; exact h)
      cases vd' with
      | true => exact q_call n (hM _ hF) hI hk hro hst hd hn (Or.inl hy0) hk'
      | false => exact q_call n (hM _ hF) hI hk hro hst hd hn (Or.inl hy0) hk'
    | inr kx =>
      rw [hF] at h
      cases h
      exact q_callT (hM _ hF) hI hk hro hst hd (Or.inl hy0) (q_no hM0) (by decide) (by decide)
theorem q_xcallT {F : Option ((Int32 ⊕ Nat) × q_W)} {K : Int32 → q_W → Option ((Int32 ⊕ Nat) × q_W)} {ρ : (Int32 ⊕ Nat) × q_W} {vd vd' : Bool} {lv : List (Nat × Value)} (n : Nat) (h : q_thb F K = some ρ) (hM : ∀ v, F = some v → q_Ct E y Y rm (q_cells E c d x) as (q_rT E c d vd' v)) (hI : q_Inv E R M (q_cells E c d x) pc y as rest) (hk : q_hd y Y ∈ lw_tbl ∧ Cond.initialized y.cls ∈ lw_tbl) (hro : rm.frames + 1 ≤ R.frames ∧ 8 + (Y.2.1 + 11) + rm.locals ≤ R.locals ∧ 0 + rm.cells ≤ R.cells ∧ 0 + rm.slots ≤ R.slots) (hst : (rest.map fun v => v.category).sum ≤ 8) (hd : decode M.1 pc = .ok (ig, 3)) (hn : pc + 3 = n) (hy0 : Y.2.2.2.2.2.2 = none) (hs : as.reverse ++ rest = st0) (hM0 : M.2.2.2.2.2.1 = []) (k : ∀ v x', F = some (.inl v, x') → K v x' = some ρ → AW E R M (q_cells E c d x') 0 0 n lv ((bif vd' then [] else [.int v]) ++ rest) (q_rT E c d vd ρ)) : AW E R M (q_cells E c d x) 0 0 pc lv st0 (q_rT E c d vd ρ) := by
  subst hs
  cases hF : F with
  | none => rw [hF] at h; cases h
  | some v =>
    obtain ⟨v, x'⟩ := v
    cases v with
    | inl v =>
      have hk' := k v x' hF (by rw [hF] at h; exact h)
      cases vd' with
      | true => exact q_call n (hM _ hF) hI hk hro hst hd hn (Or.inl hy0) hk'
      | false => exact q_call n (hM _ hF) hI hk hro hst hd hn (Or.inl hy0) hk'
    | inr kx =>
      rw [hF] at h
      cases h
      exact q_callT (hM _ hF) hI hk hro hst hd (Or.inl hy0) (q_no hM0) (by decide) (by decide)
end QX
