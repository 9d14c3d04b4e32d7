/-! CATCHING over the abstract walk, and counters raised -/
theorem q_widen {E : q_E} {R : Room} {M : q_M} {ws : List va_E} {ce sl ce' sl' pc : Nat} {lv : List (Nat × Value)} {st : List Value} {r : q_R} (h1 : ce ≤ ce') (h2 : sl ≤ sl') (k : AW E R M ws ce' sl' pc lv st r) : AW E R M ws ce sl pc lv st r :=
  fun p e s m args below meth c H locs ls hC hP hS hl => W.widen h1 h2 (k p e s m args below meth c H locs ls hC hP hS hl)
set_option maxHeartbeats 4000000 in
theorem q_callC {E : q_E} {R : Room} {M Y : q_M} {ws ws' : List va_E} {pc ce sl mc ms kx : Nat} {y : MethodName} {as rest : List Value} {rm : Room} {r : q_R} {lv lv' : List (Nat × Value)} {ig : Instr} {i : Fin 4} {name : String} (n : Nat) (hM : q_Ct E y Y rm ws as (.inr kx, ws', mc, ms)) (hI : q_Inv E R M ws pc y as rest) (hk : q_hd y Y ∈ lw_tbl ∧ Cond.initialized y.cls ∈ lw_tbl) (hro : rm.frames + 1 ≤ R.frames ∧ 8 + (Y.2.1 + 11) + rm.locals ≤ R.locals ∧ ce + rm.cells ≤ R.cells ∧ sl + rm.slots ≤ R.slots) (hst : (rest.map fun v => v.category).sum ≤ 8) (hd : decode M.1 pc = .ok (ig, 3))
    (hy0 : Y.2.2.2.2.2.2 = none) (pre : List (Nat × Nat × Nat × Nat)) (z : Nat × Nat × Nat × Nat) (suf : List (Nat × Nat × Nat × Nat)) (hsp : M.2.2.2.2.2.1 = pre ++ z :: suf)
    (hpass : ∀ q ∈ pre, (decide (q.1 ≤ pc) && decide (pc < q.2.1)) = false ∨ (q.2.2.2 ≠ 0 ∧ ∃ nm : String, Cond.classLink M.2.2.2.1 q.2.2.2 nm ∈ lw_tbl ∧ Cond.not (.castable (q_ex kx) nm) ∈ flatC (Jvm.Cond.and given_1 narrow_1)))
    (hz : (decide (z.1 ≤ pc) && decide (pc < z.2.1)) = true) (hz0 : z.2.2.2 ≠ 0) (hlk0 : Cond.classLink M.2.2.2.1 z.2.2.2 name ∈ lw_tbl) (hca : Cond.castable (q_ex kx) name ∈ lw_tbl) (hda : decode M.1 z.2.2.1 = .ok (.astore_n i, 1)) (hn : z.2.2.1 + 1 = n) (hi : (i : Nat) < M.2.1) (hlv : lv.filter (fun q => !(q.1 == (i : Nat)) && !(q.1 + 1 == (i : Nat) && q.2.category == 2)) = lv')
    (k : AW E R M ws' (ce + mc) (sl + ms) n lv' [] r) : AW E R M ws ce sl pc lv (as.reverse ++ rest) r := by
  subst hn
  subst hlv
  intro p e s m args below meth c H locs ls hC hP hS hl T hT X
  subst hT
  obtain ⟨h0, ht, hx, hb, hml, hr, hlk, hh, hown, hnm, hn0⟩ := id hC
  obtain ⟨o, B, Lc, XB, ho, hPB, hSB, hgo⟩ := q_res hM hI hk.1 hk.2 hro.1 hro.2.1 hro.2.2.1 hro.2.2.2 hst hd (Or.inl hy0) hC X hP hS hl.1
  obtain ⟨a, cell, rfl, g3, g4, g5, g6⟩ := ho
  rw [hsp] at hh
  obtain ⟨l1, l2, e1, e2, e3⟩ := List.map_eq_append_iff.mp hh
  obtain ⟨x, l3, e4, e5, e6⟩ := List.map_eq_cons_iff.mp e3
  subst e4
  have hkk : W p (q_l E) e R s m args below meth c B.heap (locs ++ Lc) (ce + mc) (sl + ms) (q_End E r s below) (F0 m x.handlerPc ls [.ref a]) := by
    have hpc : x.handlerPc = z.2.2.1 := by rw [← e5]
    rw [hpc]
    refine lv_astore_n hx hb hda rfl hl hi rfl (fun ls' hl' => ?_)
    have e7 := (List.cons.inj (show _ :: _ = _ :: _ from q_lv_put (q_g E) lv (i : Nat) (.ref 0))).2
    have hl2 : lv_has ls' M.2.1 (q_lv (q_g E) (lv.filter (fun q => !(q.1 == (i : Nat)) && !(q.1 + 1 == (i : Nat) && q.2.category == 2)))) := ⟨hl'.1, hl'.2.1, fun q hq => hl'.2.2 q (List.mem_cons_of_mem _ (e7 ▸ hq))⟩
    exact k p e s m args below meth c B.heap (locs ++ Lc) ls' hC hPB hSB hl2
  have hc := vx_catch (args := args) (pc := pc) (ls := ls) (rest := rest.map (q_cv (q_g E))) (E := q_ex kx) hown l1 x l3 e1 (fun w hw => ?_) (by rw [← e5] at hz; exact hz) (by rw [← e5] at hz0; exact hz0) (name := name) (by rw [← e5] at hlk0; exact q_w2 h0 ht hlk0 (by simp [q_kw, Cond.onTables, Cond.keeps])) (q_w2 h0 ht hca (by simp [q_kw])) g3 g4 g5 hkk
  · obtain ⟨t, a1, b1⟩ := hc B rfl XB
    exact ⟨t, hgo t a1, b1⟩
  · have hw' : (w.startPc, w.endPc, w.handlerPc, w.catchType) ∈ pre := by rw [← e2]; exact List.mem_map.mpr ⟨w, hw, rfl⟩
    rcases hpass _ hw' with h | ⟨h1, nm, h2, h3⟩
    · exact Or.inl h
    · exact Or.inr ⟨h1, nm, q_w2 h0 ht h2 (by simp [q_kw, Cond.onTables, Cond.keeps]), va_Nc.moved ht.1.alike (va_Nc.of (flat_of_before _ h0.2.2.2.2.2.1 _ h3))⟩
set_option maxHeartbeats 4000000 in
theorem q_callC2 {E : q_E} {R : Room} {M Y : q_M} {ws ws' : List va_E} {pc ce sl mc ms kx : Nat} {y : MethodName} {as rest : List Value} {rm : Room} {r : q_R} {lv lv' : List (Nat × Value)} {ig : Instr} {i : Nat} {name : String} (n : Nat) (hM : q_Ct E y Y rm ws as (.inr kx, ws', mc, ms)) (hI : q_Inv E R M ws pc y as rest) (hk : q_hd y Y ∈ lw_tbl ∧ Cond.initialized y.cls ∈ lw_tbl) (hro : rm.frames + 1 ≤ R.frames ∧ 8 + (Y.2.1 + 11) + rm.locals ≤ R.locals ∧ ce + rm.cells ≤ R.cells ∧ sl + rm.slots ≤ R.slots) (hst : (rest.map fun v => v.category).sum ≤ 8) (hd : decode M.1 pc = .ok (ig, 3))
    (hy0 : Y.2.2.2.2.2.2 = none) (pre : List (Nat × Nat × Nat × Nat)) (z : Nat × Nat × Nat × Nat) (suf : List (Nat × Nat × Nat × Nat)) (hsp : M.2.2.2.2.2.1 = pre ++ z :: suf)
    (hpass : ∀ q ∈ pre, (decide (q.1 ≤ pc) && decide (pc < q.2.1)) = false ∨ (q.2.2.2 ≠ 0 ∧ ∃ nm : String, Cond.classLink M.2.2.2.1 q.2.2.2 nm ∈ lw_tbl ∧ Cond.not (.castable (q_ex kx) nm) ∈ flatC (Jvm.Cond.and given_1 narrow_1)))
    (hz : (decide (z.1 ≤ pc) && decide (pc < z.2.1)) = true) (hz0 : z.2.2.2 ≠ 0) (hlk0 : Cond.classLink M.2.2.2.1 z.2.2.2 name ∈ lw_tbl) (hca : Cond.castable (q_ex kx) name ∈ lw_tbl) (hda : decode M.1 z.2.2.1 = .ok (.astore i, 2)) (hn : z.2.2.1 + 2 = n) (hi : i < M.2.1) (hlv : lv.filter (fun q => !(q.1 == i) && !(q.1 + 1 == i && q.2.category == 2)) = lv')
    (k : AW E R M ws' (ce + mc) (sl + ms) n lv' [] r) : AW E R M ws ce sl pc lv (as.reverse ++ rest) r := by
  subst hn
  subst hlv
  intro p e s m args below meth c H locs ls hC hP hS hl T hT X
  subst hT
  obtain ⟨h0, ht, hx, hb, hml, hr, hlk, hh, hown, hnm, hn0⟩ := id hC
  obtain ⟨o, B, Lc, XB, ho, hPB, hSB, hgo⟩ := q_res hM hI hk.1 hk.2 hro.1 hro.2.1 hro.2.2.1 hro.2.2.2 hst hd (Or.inl hy0) hC X hP hS hl.1
  obtain ⟨a, cell, rfl, g3, g4, g5, g6⟩ := ho
  rw [hsp] at hh
  obtain ⟨l1, l2, e1, e2, e3⟩ := List.map_eq_append_iff.mp hh
  obtain ⟨x, l3, e4, e5, e6⟩ := List.map_eq_cons_iff.mp e3
  subst e4
  have hkk : W p (q_l E) e R s m args below meth c B.heap (locs ++ Lc) (ce + mc) (sl + ms) (q_End E r s below) (F0 m x.handlerPc ls [.ref a]) := by
    have hpc : x.handlerPc = z.2.2.1 := by rw [← e5]
    rw [hpc]
    refine lv_astore hx hb hda hl hi rfl (fun ls' hl' => ?_)
    have e7 := (List.cons.inj (show _ :: _ = _ :: _ from q_lv_put (q_g E) lv i (.ref 0))).2
    have hl2 : lv_has ls' M.2.1 (q_lv (q_g E) (lv.filter (fun q => !(q.1 == i) && !(q.1 + 1 == i && q.2.category == 2)))) := ⟨hl'.1, hl'.2.1, fun q hq => hl'.2.2 q (List.mem_cons_of_mem _ (e7 ▸ hq))⟩
    exact k p e s m args below meth c B.heap (locs ++ Lc) ls' hC hPB hSB hl2
  have hc := vx_catch (args := args) (pc := pc) (ls := ls) (rest := rest.map (q_cv (q_g E))) (E := q_ex kx) hown l1 x l3 e1 (fun w hw => ?_) (by rw [← e5] at hz; exact hz) (by rw [← e5] at hz0; exact hz0) (name := name) (by rw [← e5] at hlk0; exact q_w2 h0 ht hlk0 (by simp [q_kw, Cond.onTables, Cond.keeps])) (q_w2 h0 ht hca (by simp [q_kw])) g3 g4 g5 hkk
  · obtain ⟨t, a1, b1⟩ := hc B rfl XB
    exact ⟨t, hgo t a1, b1⟩
  · have hw' : (w.startPc, w.endPc, w.handlerPc, w.catchType) ∈ pre := by rw [← e2]; exact List.mem_map.mpr ⟨w, hw, rfl⟩
    rcases hpass _ hw' with h | ⟨h1, nm, h2, h3⟩
    · exact Or.inl h
    · exact Or.inr ⟨h1, nm, q_w2 h0 ht h2 (by simp [q_kw, Cond.onTables, Cond.keeps]), va_Nc.moved ht.1.alike (va_Nc.of (flat_of_before _ h0.2.2.2.2.2.1 _ h3))⟩
section QXC
variable {E : q_E} {R : Room} {M Y : q_M} {c d ce sl pc : Nat} {x : q_W} {lv : List (Nat × Value)} {r : q_R} {β : Type} {ρ : β} {y : MethodName} {as rest st0 : List Value} {rm : Room} {ig : Instr} {vd' : Bool}
theorem q_xcatT {F : Option ((Int32 ⊕ Nat) × q_W)} {K : Int32 → q_W → Option β} {H : Nat → q_W → Option β} (n : Nat) (h : q_tcT F K H = some ρ) (hM : ∀ v, F = some v → q_Ct E y Y rm (q_cells E c d x) as (q_rT E c d vd' v)) (hI : q_Inv E R M (q_cells E c d x) pc y as rest) (hk : q_hd y Y ∈ lw_tbl ∧ Cond.initialized y.cls ∈ lw_tbl) (hro : rm.frames + 1 ≤ R.frames ∧ 8 + (Y.2.1 + 11) + rm.locals ≤ R.locals ∧ ce + rm.cells ≤ R.cells ∧ sl + rm.slots ≤ R.slots) (hst : (rest.map fun v => v.category).sum ≤ 8) (hd : decode M.1 pc = .ok (ig, 3)) (hn : pc + 3 = n) (hy0 : Y.2.2.2.2.2.2 = none) (hs : as.reverse ++ rest = st0) (k : ∀ v x', F = some (.inl v, x') → K v x' = some ρ → AW E R M (q_cells E c d x') ce sl n lv ((bif vd' then [] else [.int v]) ++ rest) r) (kt : ∀ kx x', F = some (.inr kx, x') → H kx x' = some ρ → AW E R M (q_cells E c d x) ce sl pc lv st0 r) : AW E R M (q_cells E c d x) ce sl pc lv st0 r := by
  cases hF : F with
  | none => rw [hF] at h; cases h
  | some v =>
    obtain ⟨v, x'⟩ := v
    cases v with
    | inl v =>
      subst hs
      have hk' := k v x' hF (by rw [hF] at h; exact h)
      cases vd' with
      | true => exact q_call n (hM _ hF) hI hk hro hst hd hn (Or.inl hy0) hk'
      | false => exact q_call n (hM _ hF) hI hk hro hst hd hn (Or.inl hy0) hk'
    | inr kx => exact kt kx x' hF (by rw [hF] at h; exact h)
theorem q_xcatP {F : Option (Int32 ⊕ Nat)} {K : Int32 → q_W → Option β} {H : Nat → q_W → Option β} (n : Nat) (h : q_tcP F x K H = some ρ) (hM : ∀ v, F = some v → q_Ct E y Y rm (q_cells E c d x) as (q_rPT E c d vd' x v)) (hI : q_Inv E R M (q_cells E c d x) pc y as rest) (hk : q_hd y Y ∈ lw_tbl ∧ Cond.initialized y.cls ∈ lw_tbl) (hro : rm.frames + 1 ≤ R.frames ∧ 8 + (Y.2.1 + 11) + rm.locals ≤ R.locals ∧ ce + rm.cells ≤ R.cells ∧ sl + rm.slots ≤ R.slots) (hst : (rest.map fun v => v.category).sum ≤ 8) (hd : decode M.1 pc = .ok (ig, 3)) (hn : pc + 3 = n) (hy0 : Y.2.2.2.2.2.2 = none) (hs : as.reverse ++ rest = st0) (k : ∀ v , F = some (.inl v) → K v x = some ρ → AW E R M (q_cells E c d x) ce sl n lv ((bif vd' then [] else [.int v]) ++ rest) r) (kt : ∀ kx , F = some (.inr kx) → H kx x = some ρ → AW E R M (q_cells E c d x) ce sl pc lv st0 r) : AW E R M (q_cells E c d x) ce sl pc lv st0 r := by
  cases hF : F with
  | none => rw [hF] at h; cases h
  | some v =>
    cases v with
    | inl v =>
      subst hs
      have hk' := k v  hF (by rw [hF] at h; exact h)
      cases vd' with
      | true => exact q_call n (hM _ hF) hI hk hro hst hd hn (Or.inl hy0) hk'
      | false => exact q_call n (hM _ hF) hI hk hro hst hd hn (Or.inl hy0) hk'
    | inr kx => exact kt kx  hF (by rw [hF] at h; exact h)
theorem q_xcatF {F : Option ((Int32 ⊕ Nat) × (Nat × Nat × q_W))} {K : Int32 → (Nat × Nat × q_W) → Option β} {H : Nat → (Nat × Nat × q_W) → Option β} (n : Nat) (h : q_tcT F K H = some ρ) (hM : ∀ v, F = some v → q_Ct E y Y rm (q_cells E c d x) as (q_rTF E v)) (hI : q_Inv E R M (q_cells E c d x) pc y as rest) (hk : q_hd y Y ∈ lw_tbl ∧ Cond.initialized y.cls ∈ lw_tbl) (hro : rm.frames + 1 ≤ R.frames ∧ 8 + (Y.2.1 + 11) + rm.locals ≤ R.locals ∧ ce + rm.cells ≤ R.cells ∧ sl + rm.slots ≤ R.slots) (hst : (rest.map fun v => v.category).sum ≤ 8) (hd : decode M.1 pc = .ok (ig, 3)) (hn : pc + 3 = n) (hy0 : Y.2.2.2.2.2.2 = none) (hs : as.reverse ++ rest = st0) (k : ∀ v x', F = some (.inl v, x') → K v x' = some ρ → AW E R M (q_cells E x'.1 x'.2.1 x'.2.2) ce sl n lv ([.int v] ++ rest) r) (kt : ∀ kx x', F = some (.inr kx, x') → H kx x' = some ρ → AW E R M (q_cells E c d x) ce sl pc lv st0 r) : AW E R M (q_cells E c d x) ce sl pc lv st0 r := by
  cases hF : F with
  | none => rw [hF] at h; cases h
  | some v =>
    obtain ⟨v, x'⟩ := v
    cases v with
    | inl v =>
      subst hs
      have hk' := k v x' hF (by rw [hF] at h; exact h)
      exact q_call n (hM _ hF) hI hk hro hst hd hn (Or.inl hy0) hk'
    | inr kx => exact kt kx x' hF (by rw [hF] at h; exact h)
theorem q_xcallL {F : Option (Int32 × q_W)} {K : Int32 × q_W → Option β} (n : Nat) (h : F.bind K = some ρ) (hM : ∀ v, F = some v → q_Ct E y Y rm (q_cells E c d x) as (q_rL E c d v)) (hI : q_Inv E R M (q_cells E c d x) pc y as rest) (hk : q_hd y Y ∈ lw_tbl ∧ Cond.initialized y.cls ∈ lw_tbl) (hro : rm.frames + 1 ≤ R.frames ∧ 8 + (Y.2.1 + 11) + rm.locals ≤ R.locals ∧ ce + rm.cells ≤ R.cells ∧ sl + rm.slots ≤ R.slots) (hst : (rest.map fun v => v.category).sum ≤ 8) (hd : decode M.1 pc = .ok (ig, 3)) (hn : pc + 3 = n) (hy0 : Y.2.2.2.2.2.2 = none) (hs : as.reverse ++ rest = st0) (k : ∀ v, F = some v → K v = some ρ → AW E R M (q_cells E c d v.2) (ce + 1) (sl + 6) n lv (.int v.1 :: rest) r) : AW E R M (q_cells E c d x) ce sl pc lv st0 r := by
  subst hs
  cases hF : F with
  | none => rw [hF] at h; cases h
  | some v => exact q_call n (hM v hF) hI hk hro hst hd hn (Or.inl hy0) (k v hF (by rw [hF] at h; exact h))
theorem q_xcallF {F : Option (Int32 × (Nat × Nat × q_W))} {K : Int32 × (Nat × Nat × q_W) → Option β} (n : Nat) (h : F.bind K = some ρ) (hM : ∀ v, F = some v → q_Ct E y Y rm (q_cells E c d x) as (q_rSF E v)) (hI : q_Inv E R M (q_cells E c d x) pc y as rest) (hk : q_hd y Y ∈ lw_tbl ∧ Cond.initialized y.cls ∈ lw_tbl) (hro : rm.frames + 1 ≤ R.frames ∧ 8 + (Y.2.1 + 11) + rm.locals ≤ R.locals ∧ ce + rm.cells ≤ R.cells ∧ sl + rm.slots ≤ R.slots) (hst : (rest.map fun v => v.category).sum ≤ 8) (hd : decode M.1 pc = .ok (ig, 3)) (hn : pc + 3 = n) (hy0 : Y.2.2.2.2.2.2 = none) (hs : as.reverse ++ rest = st0) (k : ∀ v, F = some v → K v = some ρ → AW E R M (q_cells E v.2.1 v.2.2.1 v.2.2.2) (ce + 1) (sl + 6) n lv (.int v.1 :: rest) r) : AW E R M (q_cells E c d x) ce sl pc lv st0 r := by
  subst hs
  cases hF : F with
  | none => rw [hF] at h; cases h
  | some v => exact q_call n (hM v hF) hI hk hro hst hd hn (Or.inl hy0) (k v hF (by rw [hF] at h; exact h))
end QXC
