/-! THE ABSTRACT WALK. A world is a list of cells, the k-th of them at the address g.1 + k (g.1: the heap's size at the law's entry; nothing else is made while the world is made); references in it, on the stack and in the locals are places. AW: from this point of a method the machine comes to the method's end with the result r. -/
def q_cv (g : Nat × Nat) (v : Value) : Value := match v with
  | .ref k => .ref (if k < 900 then g.1 + k else g.2)
  | w => w
theorem q_cv_cat (g : Nat × Nat) (v : Value) : (q_cv g v).category = v.category := by cases v <;> rfl
def q_ce (g : Nat × Nat) (e : va_E) : va_E := match e with
  | .inl a => .inl a
  | .inr o => .inr (o.1, o.2.map (q_cv g))
def q_wz (g : Nat × Nat) (ws : List va_E) : va_W := ws.mapIdx fun k e => (g.1 + k, q_ce g e)
theorem q_wz_at {g : Nat × Nat} {ws : List va_E} {k : Nat} {e : va_E} (h : ws[k]? = some e) : (q_wz g ws)[k]? = some (g.1 + k, q_ce g e) := by
  simp [q_wz, List.getElem?_mapIdx, h]
theorem q_wz_set {g : Nat × Nat} {ws : List va_E} {k : Nat} {e : va_E} : (q_wz g ws).set k (g.1 + k, q_ce g e) = q_wz g (ws.set k e) := by
  apply List.ext_getElem?
  intro i
  by_cases h : k = i
  · subst h
    by_cases h2 : k < ws.length
    · simp [q_wz, List.getElem?_mapIdx, List.getElem?_set, h2]
    · simp [q_wz, List.getElem?_mapIdx, List.getElem?_set, h2]
  · simp [q_wz, List.getElem?_mapIdx, List.getElem?_set, h]
theorem q_wz_push {g : Nat × Nat} {ws : List va_E} {e : va_E} : q_wz g ws ++ [(g.1 + ws.length, q_ce g e)] = q_wz g (ws ++ [e]) := by
  simp [q_wz, List.mapIdx_append]
abbrev q_A (g : Nat × Nat) : Nat → Prop := fun q => g.1 ≤ q
theorem q_D (g : Nat × Nat) (ws : List va_E) : va_D (q_A g) (q_wz g ws) := by
  refine ⟨fun i j p q hi hj e => ?_, fun k q hk => ?_⟩
  · simp only [q_wz, List.getElem?_mapIdx, Option.map_eq_some_iff] at hi hj
    obtain ⟨a, -, rfl⟩ := hi
    obtain ⟨b, -, rfl⟩ := hj
    have e' : g.1 + i = g.1 + j := e
    omega
  · simp only [q_wz, List.getElem?_mapIdx, Option.map_eq_some_iff] at hk
    obtain ⟨a, -, rfl⟩ := hk
    exact Nat.le_add_right _ _
def q_lv (g : Nat × Nat) (lv : List (Nat × Value)) : List (Nat × Value) := lv.map fun q => (q.1, q_cv g q.2)
theorem q_lv_at {g : Nat × Nat} {lv : List (Nat × Value)} {k i : Nat} {v : Value} (h : lv[k]? = some (i, v)) : (q_lv g lv)[k]? = some (i, q_cv g v) := by
  simp [q_lv, h]
theorem q_lv_put (g : Nat × Nat) (lv : List (Nat × Value)) (i : Nat) (v : Value) :
    (i, q_cv g v) :: (q_lv g lv).filter (fun q => !(q.1 == i) && !(q.1 + 1 == i && q.2.category == 2)) = q_lv g ((i, v) :: lv.filter (fun q => !(q.1 == i) && !(q.1 + 1 == i && q.2.category == 2))) := by
  simp only [q_lv, List.map_cons, List.filter_map]
  congr 2
  apply List.filter_congr
  intro q _
  simp [q_cv_cat]
theorem q_lv_pick (g : Nat × Nat) (lv : List (Nat × Value)) (ks : List Nat) : lv_pick (q_lv g lv) ks = q_lv g (lv_pick lv ks) := by
  simp only [lv_pick, q_lv, List.map_filterMap, List.getElem?_map]
/-- the law's entry: the launch, the state there, the classes' numbers and slots, the array classes, the script -/
abbrev q_E : Type := Launch × State × va_G × (Nat → ClassId) × Nat × Nat × (Nat → Int32)
abbrev q_l (E : q_E) : Launch := E.1
abbrev q_s (E : q_E) : State := E.2.1
abbrev q_DD (E : q_E) : va_G := E.2.2.1
abbrev q_kA (E : q_E) : Nat → ClassId := E.2.2.2.1
abbrev q_g (E : q_E) : Nat × Nat := (E.2.1.heap.size, E.2.2.2.2.1)
abbrev q_L (E : q_E) : Nat := E.2.2.2.2.2.1
abbrev q_xs (E : q_E) : Nat → Int32 := E.2.2.2.2.2.2
def q_tys (E : q_E) : List (ClassId × FieldType) := [(q_kA E 0, .int), (q_kA E 1, .boolean), (q_kA E 2, .char), (q_kA E 3, .long)]
/-- what holds of the law's entry -/
def q_S0 (E : q_E) : Prop := (∀ w ∈ lw_tbl, w.before #[Value.ref (q_g E).2] (q_s E) = true) ∧ va_K (q_DD E) q_cl (q_tys E) (q_s E) ∧ va_X (q_g E).2 (q_L E) (q_xs E) (q_s E) (q_s E).heap ∧ (q_g E).2 < (q_g E).1 ∧ (q_l E).flags = flags0 ∧ (Jvm.Cond.and given_1 narrow_1).before #[Value.ref (q_g E).2] (q_s E) = true ∧ q_L E ≤ 1536
/-- a later state: warmer tables, the old cells as they were -/
def q_St (E : q_E) (s : State) : Prop := (q_s E).WarmedH s.vm ∧ (q_s E).heap.size ≤ s.heap.size ∧ ∀ q : Nat, q < (q_s E).heap.size → s.heap[q]? = (q_s E).heap[q]?
theorem q_St.K {E : q_E} {s : State} (h : q_St E s) (h0 : q_S0 E) : va_K (q_DD E) q_cl (q_tys E) s := va_K.moved h.1.alike h0.2.1
theorem q_w {E : q_E} {s : State} {args : Array Value} (h0 : q_S0 E) (h : q_St E s) {w : Cond} (hw : w ∈ lw_tbl) (hg : (w.onTables && w.keeps) = true) : w.before args s = true := word_at h.1 (Or.inl hg) (h0.1 w hw)
theorem q_wA {E : q_E} {s : State} {args : Array Value} (h0 : q_S0 E) (h : q_St E s) {ty : FieldType} (hw : Cond.arrayClass ty ∈ lw_tbl) : (Cond.arrayClass ty).before args s = true := word_at h.1 (Or.inr ⟨ty, rfl⟩) (h0.1 _ hw)
theorem q_wM {E : q_E} {s : State} {args : Array Value} (h0 : q_S0 E) (h : q_St E s) {a : String} {i : Nat} {x : MethodName} {ho : String} (hw : Cond.methodLinkNest a i x ho ∈ lw_tbl) : (Cond.methodLinkNest a i x ho).before args s = true := va_Nw.use rfl (va_Nw.warmM h.1 (va_Nw.of rfl (h0.1 _ hw)))
theorem q_St.to {E : q_E} {s U : State} {H : Heap} {locs : List Loc} (h : q_St E s) (hS : va_S (q_A (q_g E)) s.heap H locs) (hU : U.heap = H) (hW : s.WarmedH U.vm) : q_St E U := by
  refine ⟨State.WarmedH.trans h.1 hW, by rw [hU]; exact Nat.le_trans h.2.1 hS.1, fun q hq => ?_⟩
  rw [hU, hS.2.1 q (Nat.lt_of_lt_of_le hq h.2.1) (fun h' => absurd h' (Nat.not_le.mpr hq))]
  exact h.2.2 q hq
/-- a world's cells lie in the heap -/
theorem q_len {D : va_G} {cl : List vw_C} {g : Nat × Nat} {ws : List va_E} {H : Heap} (h : va_P D cl (q_wz g ws) H) (h0 : g.1 ≤ H.size) : g.1 + ws.length ≤ H.size := by
  by_cases hz : ws.length = 0
  · omega
  · obtain ⟨e, he⟩ : ∃ e, ws[ws.length - 1]? = some e := ⟨_, List.getElem?_eq_getElem (by omega)⟩
    have h1 : g.1 + (ws.length - 1) < H.size := (h _ _ (q_wz_at he)).lt
    omega
/-- an end: returned, or threw an object of the k-th kind -/
def q_Out (E : q_E) (x : Option Value ⊕ Nat) (o : Outcome) (s t : State) : Prop := match x with
  | .inl v => o = .returned (v.map (q_cv (q_g E)))
  | .inr k => ∃ (a : Addr) (cell : Cell), o = .threw a ∧ t.heap[a]? = some cell ∧ cell.vm = .none ∧ s.vm.findClass (q_ex k) = some cell.cls ∧ s.vm.assignable cell.cls cell.cls = true
/-- a result: the end, the world behind it, how many cells and slots at the most were made -/
abbrev q_R : Type := (Option Value ⊕ Nat) × List va_E × Nat × Nat
def q_Q (E : q_E) (r : q_R) (s : State) (o : Outcome) (t : State) : Prop :=
  q_Out E r.1 o s t ∧ va_P (q_DD E) q_cl (q_wz (q_g E) r.2.1) t.heap ∧ va_F (q_A (q_g E)) s t ∧ s.WarmedH t.vm ∧ ∃ Lc : List Loc, s.sameButNew ({ t with vm := s.vm } : State) Lc r.2.2.1 r.2.2.2 ∧ ∀ q ∈ Lc, q_A (q_g E) q.base
def q_End (E : q_E) (r : q_R) (s : State) (below : List Frame) (t : State) : Prop := ∃ o, t.status = .running ∧ Ended t below o ∧ q_Q E r s o t
/-- a method: code, locals, result type, class, name, handlers; and, while the world is being made, how many cells of it are there at the method's entry -/
abbrev q_M : Type := ByteArray × Nat × Option FieldType × String × String × List (Nat × Nat × Nat × Nat) × Option Nat
def q_Cx (E : q_E) (M : q_M) (p : Program) (s : State) (m : MethodId) (meth : Method) (c : Code) : Prop :=
  q_S0 E ∧ q_St E s ∧ p.tables.exec = Jvm.exec ∧ c.code = M.1 ∧ c.maxLocals = M.2.1 ∧ meth.sig.returnType = M.2.2.1 ∧ meth.locks = false ∧ c.exceptionTable.toList.map (fun h => (h.startPc, h.endPc, h.handlerPc, h.catchType)) = M.2.2.2.2.2.1 ∧ s.vm.findClass M.2.2.2.1 = some m.cls ∧ meth.name = M.2.2.2.2.1 ∧ ∀ k, M.2.2.2.2.2.2 = some k → s.heap.size = (q_g E).1 + k
def AW (E : q_E) (R : Room) (M : q_M) (ws : List va_E) (ce sl pc : Nat) (lv : List (Nat × Value)) (st : List Value) (r : q_R) : Prop :=
  ∀ (p : Program) (e : Env) (s : State) (m : MethodId) (args : Array Value) (below : List Frame) (meth : Method) (c : Code) (H : Heap) (locs : List Loc) (ls : Array Slot),
    q_Cx E M p s m meth c → va_P (q_DD E) q_cl (q_wz (q_g E) ws) H → va_S (q_A (q_g E)) s.heap H locs → lv_has ls M.2.1 (q_lv (q_g E) lv) →
    W p (q_l E) e R s m args below meth c H locs ce sl (q_End E r s below) (F0 m pc ls (st.map (q_cv (q_g E))))
theorem q_mono {p : Program} {l : Launch} {e : Env} {R : Room} {s : State} {m : MethodId} {args : Array Value} {below : List Frame} {meth : Method} {c : Code} {H : Heap} {locs : List Loc} {cells slots : Nat} {Q Q' : State → Prop} {g : JFrame} (h : ∀ t, Q t → Q' t) (k : W p l e R s m args below meth c H locs cells slots Q g) : W p l e R s m args below meth c H locs cells slots Q' g :=
  fun T hT X => let ⟨t, a, b⟩ := k T hT X; ⟨t, a, h t b⟩
/-- the heap is no larger than the cells made say -/
theorem q_size {p : Program} {l : Launch} {e : Env} {R : Room} {s : State} {m : MethodId} {args : Array Value} {below : List Frame} {meth : Method} {c : Code} {H : Heap} {locs : List Loc} {cells slots : Nat} {Q : State → Prop} {g : JFrame} (k : H.size ≤ s.heap.size + cells → W p l e R s m args below meth c H locs cells slots Q g) : W p l e R s m args below meth c H locs cells slots Q g :=
  fun T hT X => k (by rw [← hT]; exact X.heapSize) T hT X
section QR
variable {E : q_E} {R : Room} {M : q_M} {ws : List va_E} {ce sl pc : Nat} {lv : List (Nat × Value)} {st : List Value} {r : q_R}
theorem q_iadd {x y : Int32} (n : Nat) (hd : decode M.1 pc = .ok (.iadd, 1)) (hn : pc + 1 = n) (k : AW E R M ws ce sl n lv (.int (x + y) :: st) r) : AW E R M ws ce sl pc lv (.int y :: .int x :: st) r := by
  subst hn
  intro p e s m args below meth c H locs ls hC hP hS hl
  obtain ⟨h0, ht, hx, hb, hml, hr, hlk, hh, hown, hnm, hn0⟩ := id hC
  exact lv_iadd hx hb hd (k p e s m args below meth c H locs ls hC hP hS hl)
theorem q_isub {x y : Int32} (n : Nat) (hd : decode M.1 pc = .ok (.isub, 1)) (hn : pc + 1 = n) (k : AW E R M ws ce sl n lv (.int (x - y) :: st) r) : AW E R M ws ce sl pc lv (.int y :: .int x :: st) r := by
  subst hn
  intro p e s m args below meth c H locs ls hC hP hS hl
  obtain ⟨h0, ht, hx, hb, hml, hr, hlk, hh, hown, hnm, hn0⟩ := id hC
  exact lv_isub hx hb hd (k p e s m args below meth c H locs ls hC hP hS hl)
theorem q_imul {x y : Int32} (n : Nat) (hd : decode M.1 pc = .ok (.imul, 1)) (hn : pc + 1 = n) (k : AW E R M ws ce sl n lv (.int (x * y) :: st) r) : AW E R M ws ce sl pc lv (.int y :: .int x :: st) r := by
  subst hn
  intro p e s m args below meth c H locs ls hC hP hS hl
  obtain ⟨h0, ht, hx, hb, hml, hr, hlk, hh, hown, hnm, hn0⟩ := id hC
  exact lv_imul hx hb hd (k p e s m args below meth c H locs ls hC hP hS hl)
theorem q_iand {x y : Int32} (n : Nat) (hd : decode M.1 pc = .ok (.iand, 1)) (hn : pc + 1 = n) (k : AW E R M ws ce sl n lv (.int (x &&& y) :: st) r) : AW E R M ws ce sl pc lv (.int y :: .int x :: st) r := by
  subst hn
  intro p e s m args below meth c H locs ls hC hP hS hl
  obtain ⟨h0, ht, hx, hb, hml, hr, hlk, hh, hown, hnm, hn0⟩ := id hC
  exact lv_iand hx hb hd (k p e s m args below meth c H locs ls hC hP hS hl)
theorem q_ior {x y : Int32} (n : Nat) (hd : decode M.1 pc = .ok (.ior, 1)) (hn : pc + 1 = n) (k : AW E R M ws ce sl n lv (.int (x ||| y) :: st) r) : AW E R M ws ce sl pc lv (.int y :: .int x :: st) r := by
  subst hn
  intro p e s m args below meth c H locs ls hC hP hS hl
  obtain ⟨h0, ht, hx, hb, hml, hr, hlk, hh, hown, hnm, hn0⟩ := id hC
  exact lv_ior hx hb hd (k p e s m args below meth c H locs ls hC hP hS hl)
theorem q_ixor {x y : Int32} (n : Nat) (hd : decode M.1 pc = .ok (.ixor, 1)) (hn : pc + 1 = n) (k : AW E R M ws ce sl n lv (.int (x ^^^ y) :: st) r) : AW E R M ws ce sl pc lv (.int y :: .int x :: st) r := by
  subst hn
  intro p e s m args below meth c H locs ls hC hP hS hl
  obtain ⟨h0, ht, hx, hb, hml, hr, hlk, hh, hown, hnm, hn0⟩ := id hC
  exact lv_ixor hx hb hd (k p e s m args below meth c H locs ls hC hP hS hl)
theorem q_ishl {x y : Int32} (n : Nat) (hd : decode M.1 pc = .ok (.ishl, 1)) (hn : pc + 1 = n) (k : AW E R M ws ce sl n lv (.int (x <<< (y &&& 31)) :: st) r) : AW E R M ws ce sl pc lv (.int y :: .int x :: st) r := by
  subst hn
  intro p e s m args below meth c H locs ls hC hP hS hl
  obtain ⟨h0, ht, hx, hb, hml, hr, hlk, hh, hown, hnm, hn0⟩ := id hC
  exact lv_ishl hx hb hd (k p e s m args below meth c H locs ls hC hP hS hl)
theorem q_ishr {x y : Int32} (n : Nat) (hd : decode M.1 pc = .ok (.ishr, 1)) (hn : pc + 1 = n) (k : AW E R M ws ce sl n lv (.int (x >>> (y &&& 31)) :: st) r) : AW E R M ws ce sl pc lv (.int y :: .int x :: st) r := by
  subst hn
  intro p e s m args below meth c H locs ls hC hP hS hl
  obtain ⟨h0, ht, hx, hb, hml, hr, hlk, hh, hown, hnm, hn0⟩ := id hC
  exact lv_ishr hx hb hd (k p e s m args below meth c H locs ls hC hP hS hl)
theorem q_iushr {x y : Int32} (n : Nat) (hd : decode M.1 pc = .ok (.iushr, 1)) (hn : pc + 1 = n) (k : AW E R M ws ce sl n lv (.int ((x.toUInt32 >>> (y.toUInt32 &&& Int32.toUInt32 31)).toInt32) :: st) r) : AW E R M ws ce sl pc lv (.int y :: .int x :: st) r := by
  subst hn
  intro p e s m args below meth c H locs ls hC hP hS hl
  obtain ⟨h0, ht, hx, hb, hml, hr, hlk, hh, hown, hnm, hn0⟩ := id hC
  exact lv_iushr hx hb hd rfl (k p e s m args below meth c H locs ls hC hP hS hl)
theorem q_irem {x y : Int32} (n : Nat) (hd : decode M.1 pc = .ok (.irem, 1)) (hn : pc + 1 = n) (hne : ¬ y = 0) (k : AW E R M ws ce sl n lv (.int (x - x / y * y) :: st) r) : AW E R M ws ce sl pc lv (.int y :: .int x :: st) r := by
  subst hn
  intro p e s m args below meth c H locs ls hC hP hS hl
  obtain ⟨h0, ht, hx, hb, hml, hr, hlk, hh, hown, hnm, hn0⟩ := id hC
  exact lv_irem hx hb hd hne (k p e s m args below meth c H locs ls hC hP hS hl)
theorem q_idiv {x y : Int32} (n : Nat) (hd : decode M.1 pc = .ok (.idiv, 1)) (hn : pc + 1 = n) (hne : ¬ y = 0) (k : AW E R M ws ce sl n lv (.int (x / y) :: st) r) : AW E R M ws ce sl pc lv (.int y :: .int x :: st) r := by
  subst hn
  intro p e s m args below meth c H locs ls hC hP hS hl
  obtain ⟨h0, ht, hx, hb, hml, hr, hlk, hh, hown, hnm, hn0⟩ := id hC
  exact lv_idiv hx hb hd hne (k p e s m args below meth c H locs ls hC hP hS hl)
theorem q_ineg {x : Int32} (n : Nat) (hd : decode M.1 pc = .ok (.ineg, 1)) (hn : pc + 1 = n) (k : AW E R M ws ce sl n lv (.int (-x) :: st) r) : AW E R M ws ce sl pc lv (.int x :: st) r := by
  subst hn
  intro p e s m args below meth c H locs ls hC hP hS hl
  obtain ⟨h0, ht, hx, hb, hml, hr, hlk, hh, hown, hnm, hn0⟩ := id hC
  exact lv_ineg hx hb hd (k p e s m args below meth c H locs ls hC hP hS hl)
theorem q_i2l {x : Int32} (n : Nat) (hd : decode M.1 pc = .ok (.i2l, 1)) (hn : pc + 1 = n) (k : AW E R M ws ce sl n lv (.long x.toInt64 :: st) r) : AW E R M ws ce sl pc lv (.int x :: st) r := by
  subst hn
  intro p e s m args below meth c H locs ls hC hP hS hl
  obtain ⟨h0, ht, hx, hb, hml, hr, hlk, hh, hown, hnm, hn0⟩ := id hC
  exact lv_i2l hx hb hd rfl (k p e s m args below meth c H locs ls hC hP hS hl)
theorem q_i2c {x : Int32} (n : Nat) (hd : decode M.1 pc = .ok (.i2c, 1)) (hn : pc + 1 = n) (k : AW E R M ws ce sl n lv (.int (x.toUInt32 % 65536).toInt32 :: st) r) : AW E R M ws ce sl pc lv (.int x :: st) r := by
  subst hn
  intro p e s m args below meth c H locs ls hC hP hS hl
  obtain ⟨h0, ht, hx, hb, hml, hr, hlk, hh, hown, hnm, hn0⟩ := id hC
  exact lv_i2c hx hb hd rfl (k p e s m args below meth c H locs ls hC hP hS hl)
theorem q_lcmp {x y : Int64} (n : Nat) (hd : decode M.1 pc = .ok (.lcmp, 1)) (hn : pc + 1 = n) (k : AW E R M ws ce sl n lv (.int (lg_cmp x y) :: st) r) : AW E R M ws ce sl pc lv (.long y :: .long x :: st) r := by
  subst hn
  intro p e s m args below meth c H locs ls hC hP hS hl
  obtain ⟨h0, ht, hx, hb, hml, hr, hlk, hh, hown, hnm, hn0⟩ := id hC
  exact W.lcmp hx hb hd (k p e s m args below meth c H locs ls hC hP hS hl)
theorem q_iconst {z : Int} {v : Int32} (n : Nat) (hd : decode M.1 pc = .ok (.iconst z, 1)) (hn : pc + 1 = n) (hv : Int32.ofInt z = v) (k : AW E R M ws ce sl n lv (.int v :: st) r) : AW E R M ws ce sl pc lv (st) r := by
  subst hn
  intro p e s m args below meth c H locs ls hC hP hS hl
  obtain ⟨h0, ht, hx, hb, hml, hr, hlk, hh, hown, hnm, hn0⟩ := id hC
  exact lv_iconst hx hb hd hv (k p e s m args below meth c H locs ls hC hP hS hl)
theorem q_bipush {z : Int} {v : Int32} (n : Nat) (hd : decode M.1 pc = .ok (.bipush z, 2)) (hn : pc + 2 = n) (hv : (Int8.ofInt z).toInt32 = v) (k : AW E R M ws ce sl n lv (.int v :: st) r) : AW E R M ws ce sl pc lv (st) r := by
  subst hn
  intro p e s m args below meth c H locs ls hC hP hS hl
  obtain ⟨h0, ht, hx, hb, hml, hr, hlk, hh, hown, hnm, hn0⟩ := id hC
  exact lv_bipush hx hb hd hv (k p e s m args below meth c H locs ls hC hP hS hl)
theorem q_sipush {z : Int} {v : Int32} (n : Nat) (hd : decode M.1 pc = .ok (.sipush z, 3)) (hn : pc + 3 = n) (hv : (Int16.ofInt z).toInt32 = v) (k : AW E R M ws ce sl n lv (.int v :: st) r) : AW E R M ws ce sl pc lv (st) r := by
  subst hn
  intro p e s m args below meth c H locs ls hC hP hS hl
  obtain ⟨h0, ht, hx, hb, hml, hr, hlk, hh, hown, hnm, hn0⟩ := id hC
  exact lv_sipush hx hb hd hv (k p e s m args below meth c H locs ls hC hP hS hl)
theorem q_lconst {z : Fin 2} {v : Int64} (n : Nat) (hd : decode M.1 pc = .ok (.lconst z, 1)) (hn : pc + 1 = n) (hv : Int64.ofNat (z : Nat) = v) (k : AW E R M ws ce sl n lv (.long v :: st) r) : AW E R M ws ce sl pc lv (st) r := by
  subst hn
  intro p e s m args below meth c H locs ls hC hP hS hl
  obtain ⟨h0, ht, hx, hb, hml, hr, hlk, hh, hown, hnm, hn0⟩ := id hC
  exact lv_lconst hx hb hd hv (k p e s m args below meth c H locs ls hC hP hS hl)
theorem q_ldc {idx : Nat} {v : Int32} (n : Nat) (hd : decode M.1 pc = .ok (.ldc idx, 2)) (hn : pc + 2 = n) (hw : Cond.constant M.2.2.2.1 idx v ∈ lw_tbl) (k : AW E R M ws ce sl n lv (.int v :: st) r) : AW E R M ws ce sl pc lv (st) r := by
  subst hn
  intro p e s m args below meth c H locs ls hC hP hS hl
  obtain ⟨h0, ht, hx, hb, hml, hr, hlk, hh, hown, hnm, hn0⟩ := id hC
  exact lv_ldc hx hb hown (q_w h0 ht hw rfl) hd (k p e s m args below meth c H locs ls hC hP hS hl)
theorem q_dup {v : Value} (n : Nat) (hd : decode M.1 pc = .ok (.dup, 1)) (hn : pc + 1 = n) (hc : v.category = 1) (k : AW E R M ws ce sl n lv (v :: v :: st) r) : AW E R M ws ce sl pc lv (v :: st) r := by
  subst hn
  intro p e s m args below meth c H locs ls hC hP hS hl
  obtain ⟨h0, ht, hx, hb, hml, hr, hlk, hh, hown, hnm, hn0⟩ := id hC
  exact lv_dup hx hb hd ((q_cv_cat _ _).trans hc) (k p e s m args below meth c H locs ls hC hP hS hl)
theorem q_pop {v : Value} (n : Nat) (hd : decode M.1 pc = .ok (.pop, 1)) (hn : pc + 1 = n) (hc : v.category = 1) (k : AW E R M ws ce sl n lv (st) r) : AW E R M ws ce sl pc lv (v :: st) r := by
  subst hn
  intro p e s m args below meth c H locs ls hC hP hS hl
  obtain ⟨h0, ht, hx, hb, hml, hr, hlk, hh, hown, hnm, hn0⟩ := id hC
  exact lv_pop hx hb hd ((q_cv_cat _ _).trans hc) (k p e s m args below meth c H locs ls hC hP hS hl)
theorem q_dup_x1 {v u : Value} (n : Nat) (hd : decode M.1 pc = .ok (.dup_x1, 1)) (hn : pc + 1 = n) (hc : v.category = 1) (hc2 : u.category = 1) (k : AW E R M ws ce sl n lv (v :: u :: v :: st) r) : AW E R M ws ce sl pc lv (v :: u :: st) r := by
  subst hn
  intro p e s m args below meth c H locs ls hC hP hS hl
  obtain ⟨h0, ht, hx, hb, hml, hr, hlk, hh, hown, hnm, hn0⟩ := id hC
  exact lv_dup_x1 hx hb hd ((q_cv_cat _ _).trans hc) ((q_cv_cat _ _).trans hc2) (k p e s m args below meth c H locs ls hC hP hS hl)
theorem q_dup2 {v u : Value} (n : Nat) (hd : decode M.1 pc = .ok (.dup2, 1)) (hn : pc + 1 = n) (hc : v.category = 1) (hc2 : u.category = 1) (k : AW E R M ws ce sl n lv (v :: u :: v :: u :: st) r) : AW E R M ws ce sl pc lv (v :: u :: st) r := by
  subst hn
  intro p e s m args below meth c H locs ls hC hP hS hl
  obtain ⟨h0, ht, hx, hb, hml, hr, hlk, hh, hown, hnm, hn0⟩ := id hC
  exact lv_dup2_11 hx hb hd ((q_cv_cat _ _).trans hc) ((q_cv_cat _ _).trans hc2) (k p e s m args below meth c H locs ls hC hP hS hl)
theorem q_iloadn {z : Fin 4} {x : Int32} (n : Nat) (hd : decode M.1 pc = .ok (.iload_n z, 1)) (hn : pc + 1 = n) (j : Nat) (hj : lv[j]? = some ((z : Nat), .int x)) (k : AW E R M ws ce sl n lv (.int x :: st) r) : AW E R M ws ce sl pc lv (st) r := by
  subst hn
  intro p e s m args below meth c H locs ls hC hP hS hl
  obtain ⟨h0, ht, hx, hb, hml, hr, hlk, hh, hown, hnm, hn0⟩ := id hC
  exact lv_iload_n hx hb hd rfl (lv_at hl j (q_lv_at hj)) (k p e s m args below meth c H locs ls hC hP hS hl)
theorem q_iload {z : Nat} {x : Int32} (n : Nat) (hd : decode M.1 pc = .ok (.iload z, 2)) (hn : pc + 2 = n) (j : Nat) (hj : lv[j]? = some (z, .int x)) (k : AW E R M ws ce sl n lv (.int x :: st) r) : AW E R M ws ce sl pc lv (st) r := by
  subst hn
  intro p e s m args below meth c H locs ls hC hP hS hl
  obtain ⟨h0, ht, hx, hb, hml, hr, hlk, hh, hown, hnm, hn0⟩ := id hC
  exact lv_iload hx hb hd (lv_at hl j (q_lv_at hj)) (k p e s m args below meth c H locs ls hC hP hS hl)
theorem q_aloadn {z : Fin 4} {x : Nat} (n : Nat) (hd : decode M.1 pc = .ok (.aload_n z, 1)) (hn : pc + 1 = n) (j : Nat) (hj : lv[j]? = some ((z : Nat), .ref x)) (k : AW E R M ws ce sl n lv (.ref x :: st) r) : AW E R M ws ce sl pc lv (st) r := by
  subst hn
  intro p e s m args below meth c H locs ls hC hP hS hl
  obtain ⟨h0, ht, hx, hb, hml, hr, hlk, hh, hown, hnm, hn0⟩ := id hC
  exact lv_aload_n hx hb hd rfl (lv_at hl j (q_lv_at hj)) (k p e s m args below meth c H locs ls hC hP hS hl)
theorem q_aload {z : Nat} {x : Nat} (n : Nat) (hd : decode M.1 pc = .ok (.aload z, 2)) (hn : pc + 2 = n) (j : Nat) (hj : lv[j]? = some (z, .ref x)) (k : AW E R M ws ce sl n lv (.ref x :: st) r) : AW E R M ws ce sl pc lv (st) r := by
  subst hn
  intro p e s m args below meth c H locs ls hC hP hS hl
  obtain ⟨h0, ht, hx, hb, hml, hr, hlk, hh, hown, hnm, hn0⟩ := id hC
  exact lv_aload hx hb hd (lv_at hl j (q_lv_at hj)) (k p e s m args below meth c H locs ls hC hP hS hl)
theorem q_istoren {z : Fin 4} {x : Int32} {lv' : List (Nat × Value)} (n : Nat) (hd : decode M.1 pc = .ok (.istore_n z, 1)) (hn : pc + 1 = n) (hz1 : (z : Nat) < M.2.1) (hlv : ((z : Nat), Value.int x) :: lv.filter (fun q => !(q.1 == (z : Nat)) && !(q.1 + 1 == (z : Nat) && q.2.category == 2)) = lv') (k : AW E R M ws ce sl n lv' (st) r) : AW E R M ws ce sl pc lv (.int x :: st) r := by
  subst hn
  subst hlv
  intro p e s m args below meth c H locs ls hC hP hS hl
  obtain ⟨h0, ht, hx, hb, hml, hr, hlk, hh, hown, hnm, hn0⟩ := id hC
  exact lv_istore_n hx hb hd rfl hl hz1 (q_lv_put _ lv (z : Nat) (.int x)) (fun ls' hl' => k p e s m args below meth c H locs ls' hC hP hS hl')
theorem q_istore {z : Nat} {x : Int32} {lv' : List (Nat × Value)} (n : Nat) (hd : decode M.1 pc = .ok (.istore z, 2)) (hn : pc + 2 = n) (hz1 : z < M.2.1) (hlv : (z, Value.int x) :: lv.filter (fun q => !(q.1 == z) && !(q.1 + 1 == z && q.2.category == 2)) = lv') (k : AW E R M ws ce sl n lv' (st) r) : AW E R M ws ce sl pc lv (.int x :: st) r := by
  subst hn
  subst hlv
  intro p e s m args below meth c H locs ls hC hP hS hl
  obtain ⟨h0, ht, hx, hb, hml, hr, hlk, hh, hown, hnm, hn0⟩ := id hC
  exact lv_istore hx hb hd hl hz1 (q_lv_put _ lv z (.int x)) (fun ls' hl' => k p e s m args below meth c H locs ls' hC hP hS hl')
theorem q_astoren {z : Fin 4} {x : Nat} {lv' : List (Nat × Value)} (n : Nat) (hd : decode M.1 pc = .ok (.astore_n z, 1)) (hn : pc + 1 = n) (hz1 : (z : Nat) < M.2.1) (hlv : ((z : Nat), Value.ref x) :: lv.filter (fun q => !(q.1 == (z : Nat)) && !(q.1 + 1 == (z : Nat) && q.2.category == 2)) = lv') (k : AW E R M ws ce sl n lv' (st) r) : AW E R M ws ce sl pc lv (.ref x :: st) r := by
  subst hn
  subst hlv
  intro p e s m args below meth c H locs ls hC hP hS hl
  obtain ⟨h0, ht, hx, hb, hml, hr, hlk, hh, hown, hnm, hn0⟩ := id hC
  exact lv_astore_n hx hb hd rfl hl hz1 (q_lv_put _ lv (z : Nat) (.ref x)) (fun ls' hl' => k p e s m args below meth c H locs ls' hC hP hS hl')
theorem q_astore {z : Nat} {x : Nat} {lv' : List (Nat × Value)} (n : Nat) (hd : decode M.1 pc = .ok (.astore z, 2)) (hn : pc + 2 = n) (hz1 : z < M.2.1) (hlv : (z, Value.ref x) :: lv.filter (fun q => !(q.1 == z) && !(q.1 + 1 == z && q.2.category == 2)) = lv') (k : AW E R M ws ce sl n lv' (st) r) : AW E R M ws ce sl pc lv (.ref x :: st) r := by
  subst hn
  subst hlv
  intro p e s m args below meth c H locs ls hC hP hS hl
  obtain ⟨h0, ht, hx, hb, hml, hr, hlk, hh, hown, hnm, hn0⟩ := id hC
  exact lv_astore hx hb hd hl hz1 (q_lv_put _ lv z (.ref x)) (fun ls' hl' => k p e s m args below meth c H locs ls' hC hP hS hl')
theorem q_iinc {i : Nat} {z : Int} {x v : Int32} {lv' : List (Nat × Value)} (n : Nat) (hd : decode M.1 pc = .ok (.iinc i z, 3)) (hn : pc + 3 = n) (j : Nat) (hj : lv[j]? = some (i, .int x)) (hv : x + Int32.ofInt z = v) (hz1 : i < M.2.1) (hlv : (i, Value.int v) :: lv.filter (fun q => !(q.1 == i) && !(q.1 + 1 == i && q.2.category == 2)) = lv') (k : AW E R M ws ce sl n lv' (st) r) : AW E R M ws ce sl pc lv (st) r := by
  subst hn
  subst hlv
  intro p e s m args below meth c H locs ls hC hP hS hl
  obtain ⟨h0, ht, hx, hb, hml, hr, hlk, hh, hown, hnm, hn0⟩ := id hC
  exact lv_iinc (k := j) hx hb hd hl (q_lv_at hj) hv hz1 (q_lv_put _ lv i (.int v)) (fun ls' hl' => k p e s m args below meth c H locs ls' hC hP hS hl')
theorem q_sub (ks : List Nat) {lv' : List (Nat × Value)} (hk : lv_pick lv ks = lv') (k : AW E R M ws ce sl pc lv' (st) r) : AW E R M ws ce sl pc lv (st) r := by
  subst hk
  intro p e s m args below meth c H locs ls hC hP hS hl
  obtain ⟨h0, ht, hx, hb, hml, hr, hlk, hh, hown, hnm, hn0⟩ := id hC
  exact k p e s m args below meth c H locs ls hC hP hS (lv_sub hl ks (q_lv_pick _ lv ks))
theorem q_at {pc' : Nat} (h : pc = pc') (k : AW E R M ws ce sl pc' lv (st) r) : AW E R M ws ce sl pc lv (st) r := h ▸ k
theorem q_goto {off : Int} (n : Nat) (hd : decode M.1 pc = .ok (.goto off, 3)) (hn : (pc : Int) + off = (n : Int)) (k : AW E R M ws ce sl n lv (st) r) : AW E R M ws ce sl pc lv (st) r := by
  intro p e s m args below meth c H locs ls hC hP hS hl
  obtain ⟨h0, ht, hx, hb, hml, hr, hlk, hh, hown, hnm, hn0⟩ := id hC
  exact lv_goto hx hb hd hn (k p e s m args below meth c H locs ls hC hP hS hl)
theorem q_if_eq_t {x : Int32} {off : Int} (n : Nat) (hd : decode M.1 pc = .ok (.ifCond .eq off, 3)) (hn : (pc : Int) + off = (n : Int)) (hc : x = 0) (k : AW E R M ws ce sl n lv (st) r) : AW E R M ws ce sl pc lv (.int x :: st) r := by
  intro p e s m args below meth c H locs ls hC hP hS hl
  obtain ⟨h0, ht, hx, hb, hml, hr, hlk, hh, hown, hnm, hn0⟩ := id hC
  exact lv_if_eq hx hb hd hn (fun _ => (k p e s m args below meth c H locs ls hC hP hS hl)) (fun h => absurd hc h)
theorem q_if_eq_f {x : Int32} {off : Int} (n : Nat) (hd : decode M.1 pc = .ok (.ifCond .eq off, 3)) (hn : pc + 3 = n) (m : Nat) (hm : (pc : Int) + off = (m : Int)) (hc : ¬ x = 0) (k : AW E R M ws ce sl n lv (st) r) : AW E R M ws ce sl pc lv (.int x :: st) r := by
  subst hn
  intro p e s mm args below meth c H locs ls hC hP hS hl
  obtain ⟨h0, ht, hx, hb, hml, hr, hlk, hh, hown, hnm, hn0⟩ := id hC
  exact lv_if_eq hx hb hd hm (fun h => absurd h hc) (fun _ => (k p e s mm args below meth c H locs ls hC hP hS hl))
theorem q_icmp_eq_t {x y : Int32} {off : Int} (n : Nat) (hd : decode M.1 pc = .ok (.if_icmp .eq off, 3)) (hn : (pc : Int) + off = (n : Int)) (hc : x = y) (k : AW E R M ws ce sl n lv (st) r) : AW E R M ws ce sl pc lv (.int y :: .int x :: st) r := by
  intro p e s m args below meth c H locs ls hC hP hS hl
  obtain ⟨h0, ht, hx, hb, hml, hr, hlk, hh, hown, hnm, hn0⟩ := id hC
  exact lv_icmp_eq hx hb hd hn (fun _ => (k p e s m args below meth c H locs ls hC hP hS hl)) (fun h => absurd hc h)
theorem q_icmp_eq_f {x y : Int32} {off : Int} (n : Nat) (hd : decode M.1 pc = .ok (.if_icmp .eq off, 3)) (hn : pc + 3 = n) (m : Nat) (hm : (pc : Int) + off = (m : Int)) (hc : ¬ x = y) (k : AW E R M ws ce sl n lv (st) r) : AW E R M ws ce sl pc lv (.int y :: .int x :: st) r := by
  subst hn
  intro p e s mm args below meth c H locs ls hC hP hS hl
  obtain ⟨h0, ht, hx, hb, hml, hr, hlk, hh, hown, hnm, hn0⟩ := id hC
  exact lv_icmp_eq hx hb hd hm (fun h => absurd h hc) (fun _ => (k p e s mm args below meth c H locs ls hC hP hS hl))
theorem q_if_ne_t {x : Int32} {off : Int} (n : Nat) (hd : decode M.1 pc = .ok (.ifCond .ne off, 3)) (hn : (pc : Int) + off = (n : Int)) (hc : ¬ x = 0) (k : AW E R M ws ce sl n lv (st) r) : AW E R M ws ce sl pc lv (.int x :: st) r := by
  intro p e s m args below meth c H locs ls hC hP hS hl
  obtain ⟨h0, ht, hx, hb, hml, hr, hlk, hh, hown, hnm, hn0⟩ := id hC
  exact lv_if_ne hx hb hd hn (fun _ => (k p e s m args below meth c H locs ls hC hP hS hl)) (fun h => absurd h hc)
theorem q_if_ne_f {x : Int32} {off : Int} (n : Nat) (hd : decode M.1 pc = .ok (.ifCond .ne off, 3)) (hn : pc + 3 = n) (m : Nat) (hm : (pc : Int) + off = (m : Int)) (hc : x = 0) (k : AW E R M ws ce sl n lv (st) r) : AW E R M ws ce sl pc lv (.int x :: st) r := by
  subst hn
  intro p e s mm args below meth c H locs ls hC hP hS hl
  obtain ⟨h0, ht, hx, hb, hml, hr, hlk, hh, hown, hnm, hn0⟩ := id hC
  exact lv_if_ne hx hb hd hm (fun h => absurd hc h) (fun _ => (k p e s mm args below meth c H locs ls hC hP hS hl))
theorem q_icmp_ne_t {x y : Int32} {off : Int} (n : Nat) (hd : decode M.1 pc = .ok (.if_icmp .ne off, 3)) (hn : (pc : Int) + off = (n : Int)) (hc : ¬ x = y) (k : AW E R M ws ce sl n lv (st) r) : AW E R M ws ce sl pc lv (.int y :: .int x :: st) r := by
  intro p e s m args below meth c H locs ls hC hP hS hl
  obtain ⟨h0, ht, hx, hb, hml, hr, hlk, hh, hown, hnm, hn0⟩ := id hC
  exact lv_icmp_ne hx hb hd hn (fun _ => (k p e s m args below meth c H locs ls hC hP hS hl)) (fun h => absurd h hc)
theorem q_icmp_ne_f {x y : Int32} {off : Int} (n : Nat) (hd : decode M.1 pc = .ok (.if_icmp .ne off, 3)) (hn : pc + 3 = n) (m : Nat) (hm : (pc : Int) + off = (m : Int)) (hc : x = y) (k : AW E R M ws ce sl n lv (st) r) : AW E R M ws ce sl pc lv (.int y :: .int x :: st) r := by
  subst hn
  intro p e s mm args below meth c H locs ls hC hP hS hl
  obtain ⟨h0, ht, hx, hb, hml, hr, hlk, hh, hown, hnm, hn0⟩ := id hC
  exact lv_icmp_ne hx hb hd hm (fun h => absurd hc h) (fun _ => (k p e s mm args below meth c H locs ls hC hP hS hl))
theorem q_if_lt_t {x : Int32} {off : Int} (n : Nat) (hd : decode M.1 pc = .ok (.ifCond .lt off, 3)) (hn : (pc : Int) + off = (n : Int)) (hc : x < 0) (k : AW E R M ws ce sl n lv (st) r) : AW E R M ws ce sl pc lv (.int x :: st) r := by
  intro p e s m args below meth c H locs ls hC hP hS hl
  obtain ⟨h0, ht, hx, hb, hml, hr, hlk, hh, hown, hnm, hn0⟩ := id hC
  exact lv_if_lt hx hb hd hn (fun _ => (k p e s m args below meth c H locs ls hC hP hS hl)) (fun h => absurd hc h)
theorem q_if_lt_f {x : Int32} {off : Int} (n : Nat) (hd : decode M.1 pc = .ok (.ifCond .lt off, 3)) (hn : pc + 3 = n) (m : Nat) (hm : (pc : Int) + off = (m : Int)) (hc : ¬ x < 0) (k : AW E R M ws ce sl n lv (st) r) : AW E R M ws ce sl pc lv (.int x :: st) r := by
  subst hn
  intro p e s mm args below meth c H locs ls hC hP hS hl
  obtain ⟨h0, ht, hx, hb, hml, hr, hlk, hh, hown, hnm, hn0⟩ := id hC
  exact lv_if_lt hx hb hd hm (fun h => absurd h hc) (fun _ => (k p e s mm args below meth c H locs ls hC hP hS hl))
theorem q_icmp_lt_t {x y : Int32} {off : Int} (n : Nat) (hd : decode M.1 pc = .ok (.if_icmp .lt off, 3)) (hn : (pc : Int) + off = (n : Int)) (hc : x < y) (k : AW E R M ws ce sl n lv (st) r) : AW E R M ws ce sl pc lv (.int y :: .int x :: st) r := by
  intro p e s m args below meth c H locs ls hC hP hS hl
  obtain ⟨h0, ht, hx, hb, hml, hr, hlk, hh, hown, hnm, hn0⟩ := id hC
  exact lv_icmp_lt hx hb hd hn (fun _ => (k p e s m args below meth c H locs ls hC hP hS hl)) (fun h => absurd hc h)
theorem q_icmp_lt_f {x y : Int32} {off : Int} (n : Nat) (hd : decode M.1 pc = .ok (.if_icmp .lt off, 3)) (hn : pc + 3 = n) (m : Nat) (hm : (pc : Int) + off = (m : Int)) (hc : ¬ x < y) (k : AW E R M ws ce sl n lv (st) r) : AW E R M ws ce sl pc lv (.int y :: .int x :: st) r := by
  subst hn
  intro p e s mm args below meth c H locs ls hC hP hS hl
  obtain ⟨h0, ht, hx, hb, hml, hr, hlk, hh, hown, hnm, hn0⟩ := id hC
  exact lv_icmp_lt hx hb hd hm (fun h => absurd h hc) (fun _ => (k p e s mm args below meth c H locs ls hC hP hS hl))
theorem q_if_ge_t {x : Int32} {off : Int} (n : Nat) (hd : decode M.1 pc = .ok (.ifCond .ge off, 3)) (hn : (pc : Int) + off = (n : Int)) (hc : 0 ≤ x) (k : AW E R M ws ce sl n lv (st) r) : AW E R M ws ce sl pc lv (.int x :: st) r := by
  intro p e s m args below meth c H locs ls hC hP hS hl
  obtain ⟨h0, ht, hx, hb, hml, hr, hlk, hh, hown, hnm, hn0⟩ := id hC
  exact lv_if_ge hx hb hd hn (fun _ => (k p e s m args below meth c H locs ls hC hP hS hl)) (fun h => absurd hc h)
theorem q_if_ge_f {x : Int32} {off : Int} (n : Nat) (hd : decode M.1 pc = .ok (.ifCond .ge off, 3)) (hn : pc + 3 = n) (m : Nat) (hm : (pc : Int) + off = (m : Int)) (hc : ¬ 0 ≤ x) (k : AW E R M ws ce sl n lv (st) r) : AW E R M ws ce sl pc lv (.int x :: st) r := by
  subst hn
  intro p e s mm args below meth c H locs ls hC hP hS hl
  obtain ⟨h0, ht, hx, hb, hml, hr, hlk, hh, hown, hnm, hn0⟩ := id hC
  exact lv_if_ge hx hb hd hm (fun h => absurd h hc) (fun _ => (k p e s mm args below meth c H locs ls hC hP hS hl))
theorem q_icmp_ge_t {x y : Int32} {off : Int} (n : Nat) (hd : decode M.1 pc = .ok (.if_icmp .ge off, 3)) (hn : (pc : Int) + off = (n : Int)) (hc : y ≤ x) (k : AW E R M ws ce sl n lv (st) r) : AW E R M ws ce sl pc lv (.int y :: .int x :: st) r := by
  intro p e s m args below meth c H locs ls hC hP hS hl
  obtain ⟨h0, ht, hx, hb, hml, hr, hlk, hh, hown, hnm, hn0⟩ := id hC
  exact lv_icmp_ge hx hb hd hn (fun _ => (k p e s m args below meth c H locs ls hC hP hS hl)) (fun h => absurd hc h)
theorem q_icmp_ge_f {x y : Int32} {off : Int} (n : Nat) (hd : decode M.1 pc = .ok (.if_icmp .ge off, 3)) (hn : pc + 3 = n) (m : Nat) (hm : (pc : Int) + off = (m : Int)) (hc : ¬ y ≤ x) (k : AW E R M ws ce sl n lv (st) r) : AW E R M ws ce sl pc lv (.int y :: .int x :: st) r := by
  subst hn
  intro p e s mm args below meth c H locs ls hC hP hS hl
  obtain ⟨h0, ht, hx, hb, hml, hr, hlk, hh, hown, hnm, hn0⟩ := id hC
  exact lv_icmp_ge hx hb hd hm (fun h => absurd h hc) (fun _ => (k p e s mm args below meth c H locs ls hC hP hS hl))
theorem q_if_gt_t {x : Int32} {off : Int} (n : Nat) (hd : decode M.1 pc = .ok (.ifCond .gt off, 3)) (hn : (pc : Int) + off = (n : Int)) (hc : 0 < x) (k : AW E R M ws ce sl n lv (st) r) : AW E R M ws ce sl pc lv (.int x :: st) r := by
  intro p e s m args below meth c H locs ls hC hP hS hl
  obtain ⟨h0, ht, hx, hb, hml, hr, hlk, hh, hown, hnm, hn0⟩ := id hC
  exact lv_if_gt hx hb hd hn (fun _ => (k p e s m args below meth c H locs ls hC hP hS hl)) (fun h => absurd hc h)
theorem q_if_gt_f {x : Int32} {off : Int} (n : Nat) (hd : decode M.1 pc = .ok (.ifCond .gt off, 3)) (hn : pc + 3 = n) (m : Nat) (hm : (pc : Int) + off = (m : Int)) (hc : ¬ 0 < x) (k : AW E R M ws ce sl n lv (st) r) : AW E R M ws ce sl pc lv (.int x :: st) r := by
  subst hn
  intro p e s mm args below meth c H locs ls hC hP hS hl
  obtain ⟨h0, ht, hx, hb, hml, hr, hlk, hh, hown, hnm, hn0⟩ := id hC
  exact lv_if_gt hx hb hd hm (fun h => absurd h hc) (fun _ => (k p e s mm args below meth c H locs ls hC hP hS hl))
theorem q_icmp_gt_t {x y : Int32} {off : Int} (n : Nat) (hd : decode M.1 pc = .ok (.if_icmp .gt off, 3)) (hn : (pc : Int) + off = (n : Int)) (hc : y < x) (k : AW E R M ws ce sl n lv (st) r) : AW E R M ws ce sl pc lv (.int y :: .int x :: st) r := by
  intro p e s m args below meth c H locs ls hC hP hS hl
  obtain ⟨h0, ht, hx, hb, hml, hr, hlk, hh, hown, hnm, hn0⟩ := id hC
  exact lv_icmp_gt hx hb hd hn (fun _ => (k p e s m args below meth c H locs ls hC hP hS hl)) (fun h => absurd hc h)
theorem q_icmp_gt_f {x y : Int32} {off : Int} (n : Nat) (hd : decode M.1 pc = .ok (.if_icmp .gt off, 3)) (hn : pc + 3 = n) (m : Nat) (hm : (pc : Int) + off = (m : Int)) (hc : ¬ y < x) (k : AW E R M ws ce sl n lv (st) r) : AW E R M ws ce sl pc lv (.int y :: .int x :: st) r := by
  subst hn
  intro p e s mm args below meth c H locs ls hC hP hS hl
  obtain ⟨h0, ht, hx, hb, hml, hr, hlk, hh, hown, hnm, hn0⟩ := id hC
  exact lv_icmp_gt hx hb hd hm (fun h => absurd h hc) (fun _ => (k p e s mm args below meth c H locs ls hC hP hS hl))
theorem q_if_le_t {x : Int32} {off : Int} (n : Nat) (hd : decode M.1 pc = .ok (.ifCond .le off, 3)) (hn : (pc : Int) + off = (n : Int)) (hc : x ≤ 0) (k : AW E R M ws ce sl n lv (st) r) : AW E R M ws ce sl pc lv (.int x :: st) r := by
  intro p e s m args below meth c H locs ls hC hP hS hl
  obtain ⟨h0, ht, hx, hb, hml, hr, hlk, hh, hown, hnm, hn0⟩ := id hC
  exact lv_if_le hx hb hd hn (fun _ => (k p e s m args below meth c H locs ls hC hP hS hl)) (fun h => absurd hc h)
theorem q_if_le_f {x : Int32} {off : Int} (n : Nat) (hd : decode M.1 pc = .ok (.ifCond .le off, 3)) (hn : pc + 3 = n) (m : Nat) (hm : (pc : Int) + off = (m : Int)) (hc : ¬ x ≤ 0) (k : AW E R M ws ce sl n lv (st) r) : AW E R M ws ce sl pc lv (.int x :: st) r := by
  subst hn
  intro p e s mm args below meth c H locs ls hC hP hS hl
  obtain ⟨h0, ht, hx, hb, hml, hr, hlk, hh, hown, hnm, hn0⟩ := id hC
  exact lv_if_le hx hb hd hm (fun h => absurd h hc) (fun _ => (k p e s mm args below meth c H locs ls hC hP hS hl))
theorem q_icmp_le_t {x y : Int32} {off : Int} (n : Nat) (hd : decode M.1 pc = .ok (.if_icmp .le off, 3)) (hn : (pc : Int) + off = (n : Int)) (hc : x ≤ y) (k : AW E R M ws ce sl n lv (st) r) : AW E R M ws ce sl pc lv (.int y :: .int x :: st) r := by
  intro p e s m args below meth c H locs ls hC hP hS hl
  obtain ⟨h0, ht, hx, hb, hml, hr, hlk, hh, hown, hnm, hn0⟩ := id hC
  exact lv_icmp_le hx hb hd hn (fun _ => (k p e s m args below meth c H locs ls hC hP hS hl)) (fun h => absurd hc h)
theorem q_icmp_le_f {x y : Int32} {off : Int} (n : Nat) (hd : decode M.1 pc = .ok (.if_icmp .le off, 3)) (hn : pc + 3 = n) (m : Nat) (hm : (pc : Int) + off = (m : Int)) (hc : ¬ x ≤ y) (k : AW E R M ws ce sl n lv (st) r) : AW E R M ws ce sl pc lv (.int y :: .int x :: st) r := by
  subst hn
  intro p e s mm args below meth c H locs ls hC hP hS hl
  obtain ⟨h0, ht, hx, hb, hml, hr, hlk, hh, hown, hnm, hn0⟩ := id hC
  exact lv_icmp_le hx hb hd hm (fun h => absurd h hc) (fun _ => (k p e s mm args below meth c H locs ls hC hP hS hl))
theorem q_lookup {dflt : Int} {ps : Array (Int × Int)} {len : Nat} {x : Int32} {off : Int} (n : Nat) (hd : decode M.1 pc = .ok (.lookupswitch dflt ps, len)) (hp : (ps.toList.zip (ps.toList.drop 1)).all (fun (a, next) => a.1 < next.1) = true) (ho : Op.lookupswitch.offset ps.toList dflt x.toInt = off) (hn : (pc : Int) + off = (n : Int)) (k : AW E R M ws ce sl n lv (st) r) : AW E R M ws ce sl pc lv (.int x :: st) r := by
  intro p e s m args below meth c H locs ls hC hP hS hl
  obtain ⟨h0, ht, hx, hb, hml, hr, hlk, hh, hown, hnm, hn0⟩ := id hC
  exact lv_lookup hx hb hd hp ho hn (k p e s m args below meth c H locs ls hC hP hS hl)
theorem q_tableOut {dflt lo hi : Int} {offs : Array Int} {len : Nat} {x : Int32} (n : Nat) (hd : decode M.1 pc = .ok (.tableswitch dflt lo hi offs, len)) (h : x.toInt < lo ∨ hi < x.toInt) (hn : (pc : Int) + dflt = (n : Int)) (k : AW E R M ws ce sl n lv (st) r) : AW E R M ws ce sl pc lv (.int x :: st) r := by
  intro p e s m args below meth c H locs ls hC hP hS hl
  obtain ⟨h0, ht, hx, hb, hml, hr, hlk, hh, hown, hnm, hn0⟩ := id hC
  exact lv_tableOut hx hb hd h hn (k p e s m args below meth c H locs ls hC hP hS hl)
theorem q_tableIn {dflt lo hi : Int} {offs : Array Int} {len : Nat} {x : Int32} {off : Int} (n : Nat) (hd : decode M.1 pc = .ok (.tableswitch dflt lo hi offs, len)) (h1 : ¬ x.toInt < lo) (h2 : ¬ hi < x.toInt) (ho : offs[(x.toInt - lo).toNat]? = some off) (hn : (pc : Int) + off = (n : Int)) (k : AW E R M ws ce sl n lv (st) r) : AW E R M ws ce sl pc lv (.int x :: st) r := by
  intro p e s m args below meth c H locs ls hC hP hS hl
  obtain ⟨h0, ht, hx, hb, hml, hr, hlk, hh, hown, hnm, hn0⟩ := id hC
  exact lv_tableIn hx hb hd h1 h2 ho hn (k p e s m args below meth c H locs ls hC hP hS hl)
/-- the pool's entry idx of the class own names field k of class ci -/
def q_FL (own : String) (idx ci k : Nat) : Prop := ∃ (C : String) (T : u_T) (N : Nat), q_cl[ci]? = some (C, T, N) ∧ k < N ∧ Cond.fieldLink own idx (T k).1 (T k).2.1 (T k).2.2.1 ∈ lw_tbl
theorem q_lay_good {C : String} {T : u_T} {N : Nat} : ∀ w ∈ u_ws C T N, (w.onTables && w.keeps) = true := by
  intro w hw
  obtain ⟨k, -, rfl⟩ := List.mem_map.mp hw
  unfold u_lay
  split <;> rfl
theorem q_hts {E : q_E} {s : State} {args : Array Value} (h0 : q_S0 E) (ht : q_St E s) {ci : Nat} {C : String} {T : u_T} {N : Nat} (hc : q_cl[ci]? = some (C, T, N)) : ∀ w ∈ u_ws C T N, w.before args s = true :=
  fun w hw => q_w h0 ht ((q_cl_ok ci C T N hc).1 w hw) (q_lay_good w hw)
theorem q_ref {g : Nat × Nat} {q : Nat} (h : q < 900) : q_cv g (.ref q) = .ref (g.1 + q) := by simp [q_cv, h]
theorem q_get {idx ci f q0 : Nat} {fs : List Value} {v : Value} (n : Nat) (hd : decode M.1 pc = .ok (.getfield idx, 3)) (hn : pc + 3 = n) (hf : q_FL M.2.2.2.1 idx ci f) (hq : q0 < 900) (he : ws[q0]? = some (.inr (ci, fs))) (hv : fs[f]? = some v) (k : AW E R M ws ce sl n lv (v :: st) r) : AW E R M ws ce sl pc lv (.ref q0 :: st) r := by
  subst hn
  obtain ⟨C, T, N, hc, hfN, hlk0⟩ := hf
  intro p e s m args below meth c H locs ls hC hP hS hl
  obtain ⟨h0, ht, hx, hb, hml, hr, hlk, hh, hown, hnm, hn0⟩ := id hC
  have hg : W p (q_l E) e R s m args below meth c H locs ce sl (q_End E r s below) (F0 m pc ls (.ref ((q_g E).1 + q0) :: st.map (q_cv (q_g E)))) :=
    va_get (D := q_DD E) (ci := ci) (C := C) (T := T) (N := N) (ref := (T f).1) (index := idx) hx hb (q_hts h0 ht hc) (fun w hw => hw) hown (ht.K h0) hP q0 (q_wz_at he) hc f hfN (q_w h0 ht hlk0 rfl) (fun _ h => h) (v := q_cv (q_g E) v) (by simp [hv]) hd (k p e s m args below meth c H locs ls hC hP hS hl)
  rw [List.map_cons, q_ref hq]
  exact hg
theorem q_put {idx ci f q0 : Nat} {fs : List Value} {v : Value} {ty : FieldType} {ws' : List va_E} (n : Nat) (hd : decode M.1 pc = .ok (.putfield idx, 3)) (hn : pc + 3 = n) (hf : q_FL M.2.2.2.1 idx ci f) (hq : q0 < 900) (he : ws[q0]? = some (.inr (ci, fs))) (hty : q_fty ci f = some (ty, false)) (hna : narrow ty (q_cv (q_g E) v) = q_cv (q_g E) v) (hfit : fits ty (q_cv (q_g E) v) = true) (hl0 : f < fs.length) (hw : ws.set q0 (.inr (ci, fs.set f v)) = ws') (k : AW E R M ws' ce sl n lv st r) : AW E R M ws ce sl pc lv (v :: .ref q0 :: st) r := by
  subst hn
  subst hw
  obtain ⟨C, T, N, hc, hfN, hlk0⟩ := hf
  obtain ⟨-, ⟨ty0, hty0⟩, hnm0⟩ := q_cl_ok ci C T N hc
  obtain ⟨hfin, hpd⟩ := q_fty_ok hc hfN hty
  intro p e s m args below meth c H locs ls hC hP hS hl
  obtain ⟨h0, ht, hx, hb, hml, hr, hlk, hh, hown, hnm, hn0⟩ := id hC
  have hg : W p (q_l E) e R s m args below meth c H locs ce sl (q_End E r s below) (F0 m pc ls (q_cv (q_g E) v :: .ref ((q_g E).1 + q0) :: st.map (q_cv (q_g E)))) := by
    refine va_put (D := q_DD E) (ci := ci) (C := C) (T := T) (N := N) (ref := (T f).1) (index := idx) (v := q_cv (q_g E) v) (ty := ty) hx hb (q_hts h0 ht hc) (fun w hw => hw) ty0 hty0 hnm0 hown (ht.K h0) hP (q_D _ _) hS q0 (q_wz_at he) hc f hfN (q_w h0 ht hlk0 rfl) (fun _ h => h) hfin hpd hna hfit (by simpa using hl0) hd (fun H1 locs1 hP1 _ hS1 => ?_)
    have e1 : (q_wz (q_g E) ws).set q0 ((q_g E).1 + q0, .inr (ci, (fs.map (q_cv (q_g E))).set f (q_cv (q_g E) v))) = q_wz (q_g E) (ws.set q0 (.inr (ci, fs.set f v))) := by
      rw [← q_wz_set]
      simp [q_ce, List.map_set]
    rw [e1] at hP1
    exact k p e s m args below meth c H1 locs1 ls hC hP1 hS1 hl
  rw [List.map_cons, List.map_cons, q_ref hq]
  exact hg
theorem q_putF {idx ci f q0 : Nat} {fs : List Value} {v : Value} {ty : FieldType} {ws' : List va_E} (n : Nat) (hd : decode M.1 pc = .ok (.putfield idx, 3)) (hn : pc + 3 = n) (hf : q_FL M.2.2.2.1 idx ci f) (hq : q0 < 900) (he : ws[q0]? = some (.inr (ci, fs))) (hty : q_fty ci f = some (ty, true)) (hnI : M.2.2.2.2.1 = "<init>") (hdc : ∀ C T N, q_cl[ci]? = some (C, T, N) → (T f).1 = M.2.2.2.1) (hna : narrow ty (q_cv (q_g E) v) = q_cv (q_g E) v) (hfit : fits ty (q_cv (q_g E) v) = true) (hl0 : f < fs.length) (hw : ws.set q0 (.inr (ci, fs.set f v)) = ws') (k : AW E R M ws' ce sl n lv st r) : AW E R M ws ce sl pc lv (v :: .ref q0 :: st) r := by
  subst hn
  subst hw
  obtain ⟨C, T, N, hc, hfN, hlk0⟩ := hf
  obtain ⟨-, ⟨ty0, hty0⟩, hnm0⟩ := q_cl_ok ci C T N hc
  obtain ⟨hfin, hpd⟩ := q_fty_ok hc hfN hty
  intro p e s m args below meth c H locs ls hC hP hS hl
  obtain ⟨h0, ht, hx, hb, hml, hr, hlk, hh, hown, hnm, hn0⟩ := id hC
  have hg : W p (q_l E) e R s m args below meth c H locs ce sl (q_End E r s below) (F0 m pc ls (q_cv (q_g E) v :: .ref ((q_g E).1 + q0) :: st.map (q_cv (q_g E)))) := by
    refine va_putF (D := q_DD E) (ci := ci) (C := C) (T := T) (N := N) (ref := (T f).1) (index := idx) (v := q_cv (q_g E) v) (ty := ty) hx hb (q_hts h0 ht hc) (fun w hw => hw) ty0 hty0 hnm0 hown (ht.K h0) hP (q_D _ _) hS q0 (q_wz_at he) hc f hfN (q_w h0 ht hlk0 rfl) (fun _ h => h) hfin (hnm.trans hnI) (hdc C T N hc) hpd hna hfit (by simpa using hl0) hd (fun H1 locs1 hP1 _ hS1 => ?_)
    have e1 : (q_wz (q_g E) ws).set q0 ((q_g E).1 + q0, .inr (ci, (fs.map (q_cv (q_g E))).set f (q_cv (q_g E) v))) = q_wz (q_g E) (ws.set q0 (.inr (ci, fs.set f v))) := by
      rw [← q_wz_set]
      simp [q_ce, List.map_set]
    rw [e1] at hP1
    exact k p e s m args below meth c H1 locs1 ls hC hP1 hS1 hl
  rw [List.map_cons, List.map_cons, q_ref hq]
  exact hg
theorem q_iald {q0 : Nat} {len : Nat} {f : Nat → Int32} {i : Int32} (n : Nat) (hd : decode M.1 pc = .ok (.iaload, 1)) (hn : pc + 1 = n) (hq : q0 < 900) (he : ws[q0]? = some (.inl (q_kA E 0, len, .inl f))) (hin : vp_in i len) (k : AW E R M ws ce sl n lv (.int (f i.toNatClampNeg) :: st) r) : AW E R M ws ce sl pc lv (.int i :: .ref q0 :: st) r := by
  subst hn
  intro p e s m args below meth c H locs ls hC hP hS hl
  obtain ⟨h0, ht, hx, hb, hml, hr, hlk, hh, hown, hnm, hn0⟩ := id hC
  have hg : W p (q_l E) e R s m args below meth c H locs ce sl (q_End E r s below) (F0 m pc ls (.int i :: .ref ((q_g E).1 + q0) :: st.map (q_cv (q_g E)))) :=
    va_iald hx hb (ht.K h0) hP q0 0 (q_wz_at he) rfl hin hd (k p e s m args below meth c H locs ls hC hP hS hl)
  rw [List.map_cons, List.map_cons, q_ref hq]
  exact hg
theorem q_iast {q0 : Nat} {len : Nat} {f : Nat → Int32} {i x : Int32} {ws' : List va_E} (n : Nat) (hd : decode M.1 pc = .ok (.iastore, 1)) (hn : pc + 1 = n) (hq : q0 < 900) (he : ws[q0]? = some (.inl (q_kA E 0, len, .inl f))) (hin : vp_in i len) (hw : ws.set q0 (.inl (q_kA E 0, len, .inl (upd f i.toNatClampNeg (x)))) = ws') (k : AW E R M ws' ce sl n lv st r) : AW E R M ws ce sl pc lv (.int x :: .int i :: .ref q0 :: st) r := by
  subst hn
  subst hw
  intro p e s m args below meth c H locs ls hC hP hS hl
  obtain ⟨h0, ht, hx, hb, hml, hr, hlk, hh, hown, hnm, hn0⟩ := id hC
  have hg : W p (q_l E) e R s m args below meth c H locs ce sl (q_End E r s below) (F0 m pc ls (.int x :: .int i :: .ref ((q_g E).1 + q0) :: st.map (q_cv (q_g E)))) := by
    refine va_iast hx hb (ht.K h0) hP (q_D _ _) hS q0 0 (q_wz_at he) rfl hin hd (fun H1 locs1 hP1 _ hS1 => ?_)
    have e1 : (q_wz (q_g E) ws).set q0 ((q_g E).1 + q0, .inl (q_kA E 0, len, .inl (upd f i.toNatClampNeg (x)))) = q_wz (q_g E) (ws.set q0 (.inl (q_kA E 0, len, .inl (upd f i.toNatClampNeg (x))))) := by
      rw [← q_wz_set]
      rfl
    rw [e1] at hP1
    exact k p e s m args below meth c H1 locs1 ls hC hP1 hS1 hl
  rw [List.map_cons, List.map_cons, List.map_cons, q_ref hq]
  exact hg
theorem q_zald {q0 : Nat} {len : Nat} {f : Nat → Int32} {i : Int32} (n : Nat) (hd : decode M.1 pc = .ok (.baload, 1)) (hn : pc + 1 = n) (hq : q0 < 900) (he : ws[q0]? = some (.inl (q_kA E 1, len, .inl f))) (hin : vp_in i len) (k : AW E R M ws ce sl n lv (.int (f i.toNatClampNeg) :: st) r) : AW E R M ws ce sl pc lv (.int i :: .ref q0 :: st) r := by
  subst hn
  intro p e s m args below meth c H locs ls hC hP hS hl
  obtain ⟨h0, ht, hx, hb, hml, hr, hlk, hh, hown, hnm, hn0⟩ := id hC
  have hg : W p (q_l E) e R s m args below meth c H locs ce sl (q_End E r s below) (F0 m pc ls (.int i :: .ref ((q_g E).1 + q0) :: st.map (q_cv (q_g E)))) :=
    va_zald hx hb (ht.K h0) hP q0 1 (q_wz_at he) rfl hin hd (k p e s m args below meth c H locs ls hC hP hS hl)
  rw [List.map_cons, List.map_cons, q_ref hq]
  exact hg
theorem q_zast {q0 : Nat} {len : Nat} {f : Nat → Int32} {i x : Int32} {ws' : List va_E} (n : Nat) (hd : decode M.1 pc = .ok (.bastore, 1)) (hn : pc + 1 = n) (hq : q0 < 900) (he : ws[q0]? = some (.inl (q_kA E 1, len, .inl f))) (hin : vp_in i len) (hw : ws.set q0 (.inl (q_kA E 1, len, .inl (upd f i.toNatClampNeg (vp_nar .boolean x)))) = ws') (k : AW E R M ws' ce sl n lv st r) : AW E R M ws ce sl pc lv (.int x :: .int i :: .ref q0 :: st) r := by
  subst hn
  subst hw
  intro p e s m args below meth c H locs ls hC hP hS hl
  obtain ⟨h0, ht, hx, hb, hml, hr, hlk, hh, hown, hnm, hn0⟩ := id hC
  have hg : W p (q_l E) e R s m args below meth c H locs ce sl (q_End E r s below) (F0 m pc ls (.int x :: .int i :: .ref ((q_g E).1 + q0) :: st.map (q_cv (q_g E)))) := by
    refine va_zast hx hb (ht.K h0) hP (q_D _ _) hS q0 1 (q_wz_at he) rfl hin hd (fun H1 locs1 hP1 _ hS1 => ?_)
    have e1 : (q_wz (q_g E) ws).set q0 ((q_g E).1 + q0, .inl (q_kA E 1, len, .inl (upd f i.toNatClampNeg (vp_nar .boolean x)))) = q_wz (q_g E) (ws.set q0 (.inl (q_kA E 1, len, .inl (upd f i.toNatClampNeg (vp_nar .boolean x))))) := by
      rw [← q_wz_set]
      rfl
    rw [e1] at hP1
    exact k p e s m args below meth c H1 locs1 ls hC hP1 hS1 hl
  rw [List.map_cons, List.map_cons, List.map_cons, q_ref hq]
  exact hg
theorem q_cald {q0 : Nat} {len : Nat} {f : Nat → Int32} {i : Int32} (n : Nat) (hd : decode M.1 pc = .ok (.caload, 1)) (hn : pc + 1 = n) (hq : q0 < 900) (he : ws[q0]? = some (.inl (q_kA E 2, len, .inl f))) (hin : vp_in i len) (k : AW E R M ws ce sl n lv (.int (f i.toNatClampNeg) :: st) r) : AW E R M ws ce sl pc lv (.int i :: .ref q0 :: st) r := by
  subst hn
  intro p e s m args below meth c H locs ls hC hP hS hl
  obtain ⟨h0, ht, hx, hb, hml, hr, hlk, hh, hown, hnm, hn0⟩ := id hC
  have hg : W p (q_l E) e R s m args below meth c H locs ce sl (q_End E r s below) (F0 m pc ls (.int i :: .ref ((q_g E).1 + q0) :: st.map (q_cv (q_g E)))) :=
    va_cald hx hb (ht.K h0) hP q0 2 (q_wz_at he) rfl hin hd (k p e s m args below meth c H locs ls hC hP hS hl)
  rw [List.map_cons, List.map_cons, q_ref hq]
  exact hg
theorem q_cast {q0 : Nat} {len : Nat} {f : Nat → Int32} {i x : Int32} {ws' : List va_E} (n : Nat) (hd : decode M.1 pc = .ok (.castore, 1)) (hn : pc + 1 = n) (hq : q0 < 900) (he : ws[q0]? = some (.inl (q_kA E 2, len, .inl f))) (hin : vp_in i len) (hw : ws.set q0 (.inl (q_kA E 2, len, .inl (upd f i.toNatClampNeg (vp_nar .char x)))) = ws') (k : AW E R M ws' ce sl n lv st r) : AW E R M ws ce sl pc lv (.int x :: .int i :: .ref q0 :: st) r := by
  subst hn
  subst hw
  intro p e s m args below meth c H locs ls hC hP hS hl
  obtain ⟨h0, ht, hx, hb, hml, hr, hlk, hh, hown, hnm, hn0⟩ := id hC
  have hg : W p (q_l E) e R s m args below meth c H locs ce sl (q_End E r s below) (F0 m pc ls (.int x :: .int i :: .ref ((q_g E).1 + q0) :: st.map (q_cv (q_g E)))) := by
    refine va_cast hx hb (ht.K h0) hP (q_D _ _) hS q0 2 (q_wz_at he) rfl hin hd (fun H1 locs1 hP1 _ hS1 => ?_)
    have e1 : (q_wz (q_g E) ws).set q0 ((q_g E).1 + q0, .inl (q_kA E 2, len, .inl (upd f i.toNatClampNeg (vp_nar .char x)))) = q_wz (q_g E) (ws.set q0 (.inl (q_kA E 2, len, .inl (upd f i.toNatClampNeg (vp_nar .char x))))) := by
      rw [← q_wz_set]
      rfl
    rw [e1] at hP1
    exact k p e s m args below meth c H1 locs1 ls hC hP1 hS1 hl
  rw [List.map_cons, List.map_cons, List.map_cons, q_ref hq]
  exact hg
theorem q_lald {q0 : Nat} {len : Nat} {f : Nat → Int64} {i : Int32} (n : Nat) (hd : decode M.1 pc = .ok (.laload, 1)) (hn : pc + 1 = n) (hq : q0 < 900) (he : ws[q0]? = some (.inl (q_kA E 3, len, .inr (.inl f)))) (hin : vp_in i len) (k : AW E R M ws ce sl n lv (.long (f i.toNatClampNeg) :: st) r) : AW E R M ws ce sl pc lv (.int i :: .ref q0 :: st) r := by
  subst hn
  intro p e s m args below meth c H locs ls hC hP hS hl
  obtain ⟨h0, ht, hx, hb, hml, hr, hlk, hh, hown, hnm, hn0⟩ := id hC
  have hg : W p (q_l E) e R s m args below meth c H locs ce sl (q_End E r s below) (F0 m pc ls (.int i :: .ref ((q_g E).1 + q0) :: st.map (q_cv (q_g E)))) :=
    va_lald hx hb (ht.K h0) hP q0 3 (q_wz_at he) rfl hin hd (k p e s m args below meth c H locs ls hC hP hS hl)
  rw [List.map_cons, List.map_cons, q_ref hq]
  exact hg
theorem q_last {q0 : Nat} {len : Nat} {f : Nat → Int64} {i : Int32} {x : Int64} {ws' : List va_E} (n : Nat) (hd : decode M.1 pc = .ok (.lastore, 1)) (hn : pc + 1 = n) (hq : q0 < 900) (he : ws[q0]? = some (.inl (q_kA E 3, len, .inr (.inl f)))) (hin : vp_in i len) (hw : ws.set q0 (.inl (q_kA E 3, len, .inr (.inl (vp_updL f i.toNatClampNeg x)))) = ws') (k : AW E R M ws' ce sl n lv st r) : AW E R M ws ce sl pc lv (.long x :: .int i :: .ref q0 :: st) r := by
  subst hn
  subst hw
  intro p e s m args below meth c H locs ls hC hP hS hl
  obtain ⟨h0, ht, hx, hb, hml, hr, hlk, hh, hown, hnm, hn0⟩ := id hC
  have hg : W p (q_l E) e R s m args below meth c H locs ce sl (q_End E r s below) (F0 m pc ls (.long x :: .int i :: .ref ((q_g E).1 + q0) :: st.map (q_cv (q_g E)))) := by
    refine va_last hx hb (ht.K h0) hP (q_D _ _) hS q0 3 (q_wz_at he) rfl hin hd (fun H1 locs1 hP1 _ hS1 => ?_)
    have e1 : (q_wz (q_g E) ws).set q0 ((q_g E).1 + q0, .inl (q_kA E 3, len, .inr (.inl (vp_updL f i.toNatClampNeg x)))) = q_wz (q_g E) (ws.set q0 (.inl (q_kA E 3, len, .inr (.inl (vp_updL f i.toNatClampNeg x))))) := by
      rw [← q_wz_set]
      rfl
    rw [e1] at hP1
    exact k p e s m args below meth c H1 locs1 ls hC hP1 hS1 hl
  rw [List.map_cons, List.map_cons, List.map_cons, q_ref hq]
  exact hg
theorem q_alen {q0 : Nat} {t : Nat} {ty : FieldType} {x : vp_A} {v : Int32} (n : Nat) (hd : decode M.1 pc = .ok (.arraylength, 1)) (hn : pc + 1 = n) (hq : q0 < 900) (he : ws[q0]? = some (.inl (q_kA E t, x))) (ht0 : (q_tys E)[t]? = some (q_kA E t, ty)) (hv : Int32.ofNat x.1 = v) (k : AW E R M ws ce sl n lv (.int v :: st) r) : AW E R M ws ce sl pc lv (.ref q0 :: st) r := by
  subst hn
  intro p e s m args below meth c H locs ls hC hP hS hl
  obtain ⟨h0, ht, hx, hb, hml, hr, hlk, hh, hown, hnm, hn0⟩ := id hC
  have hg : W p (q_l E) e R s m args below meth c H locs ce sl (q_End E r s below) (F0 m pc ls (.ref ((q_g E).1 + q0) :: st.map (q_cv (q_g E)))) :=
    va_alen hx hb (ht.K h0) hP q0 t (q_wz_at he) ht0 hv hd (k p e s m args below meth c H locs ls hC hP hS hl)
  rw [List.map_cons, q_ref hq]
  exact hg
/-- the script: place 900 -/
theorem q_sX {s : State} (h0 : q_S0 E) (ht : q_St E s) : va_X (q_g E).2 (q_L E) (q_xs E) s s.heap ∧ (q_g E).2 < s.heap.size ∧ ¬ q_A (q_g E) (q_g E).2 :=
  ⟨(va_X.moved ht.1.alike h0.2.2.1).kept (ht.2.2 _ h0.2.2.2.1), Nat.lt_of_lt_of_le h0.2.2.2.1 ht.2.1, Nat.not_le.mpr h0.2.2.2.1⟩
theorem q_sld {i : Int32} (n : Nat) (hd : decode M.1 pc = .ok (.iaload, 1)) (hn : pc + 1 = n) (hin : vp_in i (q_L E)) (k : AW E R M ws ce sl n lv (.int (q_xs E i.toNatClampNeg) :: st) r) : AW E R M ws ce sl pc lv (.int i :: .ref 900 :: st) r := by
  subst hn
  intro p e s m args below meth c H locs ls hC hP hS hl
  obtain ⟨h0, ht, hx, hb, hml, hr, hlk, hh, hown, hnm, hn0⟩ := id hC
  obtain ⟨hX, hbl, hbA⟩ := q_sX h0 ht
  exact va_sld hx hb hX hbl hbA hS hin hd (k p e s m args below meth c H locs ls hC hP hS hl)
theorem q_slen (n : Nat) (hd : decode M.1 pc = .ok (.arraylength, 1)) (hn : pc + 1 = n) (k : AW E R M ws ce sl n lv (.int (Int32.ofNat (q_L E)) :: st) r) : AW E R M ws ce sl pc lv (.ref 900 :: st) r := by
  subst hn
  intro p e s m args below meth c H locs ls hC hP hS hl
  obtain ⟨h0, ht, hx, hb, hml, hr, hlk, hh, hown, hnm, hn0⟩ := id hC
  obtain ⟨hX, hbl, hbA⟩ := q_sX h0 ht
  exact va_slen hx hb hX hbl hbA hS hd (k p e s m args below meth c H locs ls hC hP hS hl)
theorem q_exact {s : State} {H : Heap} {locs : List Loc} {k0 : Nat} (ht : q_St E s) (hP : va_P (q_DD E) q_cl (q_wz (q_g E) ws) H) (hS : va_S (q_A (q_g E)) s.heap H locs) (hs : s.heap.size = (q_g E).1 + k0) (hce : k0 + ce = ws.length) (hsz : H.size ≤ s.heap.size + ce) : H.size = (q_g E).1 + ws.length := by
  have h1 := q_len hP (Nat.le_trans ht.2.1 hS.1)
  omega
theorem q_new {idx ci k0 N : Nat} {C : String} {T : u_T} {fs : List Value} (n : Nat) (hd : decode M.1 pc = .ok (.new idx, 3)) (hn : pc + 3 = n) (hN : M.2.2.2.2.2.2 = some k0) (hce : k0 + ce = ws.length) (hq : ws.length < 900) (hc : q_cl[ci]? = some (C, T, N)) (hw1 : Cond.classLink M.2.2.2.1 idx C ∈ lw_tbl) (hw2 : Cond.instantiable C N ∈ lw_tbl) (hw3 : Cond.initialized C ∈ lw_tbl) (ty : Nat → FieldType) (hty : ∀ k, k < N → parseFieldDescriptor (T k).2.2.1 = some (ty k)) (hfs : ∀ j, j < N → defaultValue (ty j) = vp_V (fs.map (q_cv (q_g E))) j) (hcells : ce + 1 ≤ R.cells) (hslots : sl + N ≤ R.slots) (k : AW E R M (ws ++ [.inr (ci, fs)]) (ce + 1) (sl + N) n lv (.ref ws.length :: st) r) : AW E R M ws ce sl pc lv (st) r := by
  subst hn
  intro p e s m args below meth c H locs ls hC hP hS hl
  obtain ⟨h0, ht, hx, hb, hml, hr, hlk, hh, hown, hnm, hn0⟩ := id hC
  refine q_size (fun hsz => ?_)
  have hH := q_exact ht hP hS (hn0 _ hN) hce hsz
  have hKn := (ht.K h0).1 ci _ hc
  refine W.newcK (h := (q_g E).1 + ws.length) hx hb hown (q_w h0 ht hw1 rfl) (q_w h0 ht hw2 rfl) (q_w h0 ht hw3 rfl) rfl hd hcells hslots hKn.2.1 hH fun H1 kC hkC e1 z1 o1 => ?_
  have hk : ∀ (k : Nat) (x : Nat × va_E), (q_wz (q_g E) ws)[k]? = some x → H1[x.1]? = H[x.1]? := fun k x hx => o1 x.1 (by have := (hP k x hx).lt; omega)
  have hnew : va_at (q_DD E) q_cl ((q_g E).1 + ws.length, q_ce (q_g E) (.inr (ci, fs))) H1 := ⟨_, hc, (u_born ty (q_hts (args := args) h0 ht hc) (fun w h => h) hKn hkC e1 hty).to hfs⟩
  have hP1 : va_P (q_DD E) q_cl (q_wz (q_g E) (ws ++ [.inr (ci, fs)])) H1 := by
    rw [← q_wz_push]
    refine (hP.kept hk).app (fun j x hx => ?_)
    have hz : j < 1 := (List.getElem?_eq_some_iff.mp hx).1
    rw [show j = 0 by omega] at hx
    cases hx
    exact hnew
  have hS1 : va_S (q_A (q_g E)) s.heap H1 locs := ⟨Nat.le_trans hS.1 (by omega), fun x h1 h2 => (o1 x (by have := hS.1; omega)).trans (hS.2.1 x h1 h2), hS.2.2⟩
  have hg := k p e s m args below meth c H1 locs ls hC hP1 hS1 hl
  rw [List.map_cons, q_ref hq] at hg
  exact hg
theorem q_newa {at0 : ArrayType} {t k0 N : Nat} {z : Int32} {a0 : vp_A} {ty : FieldType} (n : Nat) (hd : decode M.1 pc = .ok (.newarray at0, 2)) (hn : pc + 2 = n) (hN : M.2.2.2.2.2.2 = some k0) (hce : k0 + ce = ws.length) (hq : ws.length < 900) (hty : newarray.typeOf at0 = ty) (ht0 : (q_tys E)[t]? = some (q_kA E t, ty)) (hnr : (∃ c, ty = .object c) → False) (hw1 : Cond.arrayClass ty ∈ lw_tbl) (ha : ∀ cA : ClassId, vp_cell cA a0 = arrV cA N (fun _ => defaultValue ty)) (hz0 : ¬ z < 0) (hzN : z.toNatClampNeg = N) (hby : N * componentBytes ty ≤ 536870912) (hcells : ce + 1 ≤ R.cells) (hslots : sl + N ≤ R.slots) (k : AW E R M (ws ++ [.inl (q_kA E t, a0)]) (ce + 1) (sl + N) n lv (.ref ws.length :: st) r) : AW E R M ws ce sl pc lv (.int z :: st) r := by
  subst hn
  subst hty
  intro p e s m args below meth c H locs ls hC hP hS hl
  obtain ⟨h0, ht, hx, hb, hml, hr, hlk, hh, hown, hnm, hn0⟩ := id hC
  refine q_size (fun hsz => ?_)
  have hH := q_exact ht hP hS (hn0 _ hN) hce hsz
  have hKA := ((ht.K h0).2 t _ ht0).2
  refine va_newaK (h := (q_g E).1 + ws.length) hx hb (q_wA h0 ht hw1) rfl hd rfl hz0 hzN hby hcells hslots hH fun H1 cA e1 z1 o1 _ hNm => ?_
  have hcA : cA = q_kA E t := by
    have h2 : s.vm.findClass ("[" ++ (newarray.typeOf at0).toString) = some (q_kA E t) := by
      cases at0 <;> exact hKA
    exact Option.some.inj (hNm.symm.trans h2)
  subst hcA
  have hk : ∀ (k : Nat) (x : Nat × va_E), (q_wz (q_g E) ws)[k]? = some x → H1[x.1]? = H[x.1]? := fun k x hx => o1 x.1 (by have := (hP k x hx).lt; omega)
  have hnew : va_at (q_DD E) q_cl ((q_g E).1 + ws.length, q_ce (q_g E) (.inl (q_kA E t, a0))) H1 := by
    show H1[(q_g E).1 + ws.length]? = some (vp_cell _ _)
    rw [ha]
    exact e1
  have hP1 : va_P (q_DD E) q_cl (q_wz (q_g E) (ws ++ [.inl (q_kA E t, a0)])) H1 := by
    rw [← q_wz_push]
    refine (hP.kept hk).app (fun j x hx => ?_)
    have hz : j < 1 := (List.getElem?_eq_some_iff.mp hx).1
    rw [show j = 0 by omega] at hx
    cases hx
    exact hnew
  have hS1 : va_S (q_A (q_g E)) s.heap H1 locs := ⟨Nat.le_trans hS.1 (by omega), fun x h1 h2 => (o1 x (by have := hS.1; omega)).trans (hS.2.1 x h1 h2), hS.2.2⟩
  have hg := k p e s m args below meth c H1 locs ls hC hP1 hS1 hl
  rw [List.map_cons, q_ref hq] at hg
  exact hg
theorem q_ofMQ {below : List Frame} {args : Array Value} {s : State} {H : Heap} {locs : List Loc} {mc ms : Nat} {o : Outcome} {x : Option Value ⊕ Nat} (hP : va_P (q_DD E) q_cl (q_wz (q_g E) ws) H) (hS : va_S (q_A (q_g E)) s.heap H locs) (ho : ∀ t : State, t.heap = H → q_Out E x o s t) (hm : ce ≤ mc) (hn : sl ≤ ms) :
    ∀ t, MQ below (fun _ _ o' t' => o' = o ∧ t'.heap = H) args s ce sl (q_A (q_g E)) t → q_End E (x, ws, mc, ms) s below t := by
  rintro t ⟨o', h1, h2, ⟨rfl, h4⟩, L, ⟨-, h5, h6⟩, h7⟩
  exact ⟨_, h1, h2, ho t h4, by rw [h4]; exact hP, hS.F h4, h5, L, h6.mono hm hn, h7⟩
theorem q_iret {v : Int32} {mc ms : Nat} (hd : decode M.1 pc = .ok (.ireturn, 1)) (hrt : M.2.2.1 = some .int) (hm : ce ≤ mc) (hn : sl ≤ ms) : AW E R M ws ce sl pc lv [.int v] (.inl (some (.int v)), ws, mc, ms) := by
  intro p e s m args below meth c H locs ls hC hP hS hl
  obtain ⟨h0, ht, hx, hb, hml, hr, hlk, hh, hown, hnm, hn0⟩ := id hC
  refine q_mono (q_ofMQ (args := args) hP hS (o := .returned (some (.int v))) (fun t _ => rfl) hm hn) ?_
  exact W.iret hx hb (hr.trans hrt) (fun t ht _ => ⟨rfl, ht⟩) hS.2.2 hd
theorem q_vret {mc ms : Nat} (hd : decode M.1 pc = .ok (.return_, 1)) (hrt : M.2.2.1 = none) (hm : ce ≤ mc) (hn : sl ≤ ms) : AW E R M ws ce sl pc lv [] (.inl none, ws, mc, ms) := by
  intro p e s m args below meth c H locs ls hC hP hS hl
  obtain ⟨h0, ht, hx, hb, hml, hr, hlk, hh, hown, hnm, hn0⟩ := id hC
  refine q_mono (q_ofMQ (args := args) hP hS (o := .returned none) (fun t _ => rfl) hm hn) ?_
  exact W.vret hx hb (hr.trans hrt) (fun t ht _ => ⟨rfl, ht⟩) hS.2.2 hd
/-- a boolean answer: its lowest bit -/
def q_nb (v : Int32) : Int32 := vp_nar .boolean v
theorem q_nb_narrow (v : Int32) : narrow .boolean (.int v) = .int (q_nb v) := rfl
theorem q_zret {v : Int32} {mc ms : Nat} (hd : decode M.1 pc = .ok (.ireturn, 1)) (hrt : M.2.2.1 = some .boolean) (hm : ce ≤ mc) (hn : sl ≤ ms) : AW E R M ws ce sl pc lv [.int v] (.inl (some (.int (q_nb v))), ws, mc, ms) := by
  intro p e s m args below meth c H locs ls hC hP hS hl
  obtain ⟨h0, ht, hx, hb, hml, hr, hlk, hh, hown, hnm, hn0⟩ := id hC
  have hn' := q_nb_narrow v
  have hr' := hr.trans hrt
  intro T hT X
  obtain ⟨fs, hret, hrun, hended, hW, hframe⟩ := X.leave (v := some (.int (q_nb v))) (hlocks := hlk) (fun h => by rw [hr'] at h; cases h)
  have hmeth' : T.vm.method? m = some meth := X.method'
  have hend : q_End E (.inl (some (.int (q_nb v))), ws, mc, ms) s below (T.setFrames fs) := ⟨_, hrun, hended, rfl, by rw [show (T.setFrames fs).heap = H from hT]; exact hP, hS.F hT, hW, locs, hframe.mono hm hn, hS.2.2⟩
  refine ⟨T.setFrames fs, ?_, hend⟩
  show Steps p.tables e below (T.setTop (F0 m pc ls [.int v])) _
  jvm_step X.here [X.here.top, hx, hb, hd, hmeth', hr', hn']
  (try refine ⟨rfl, ?_⟩); (try refine ⟨rfl, ?_⟩)
  first | (intro acts; rw [hret _ acts rfl rfl rfl]) | rw [hret _ _ rfl rfl rfl]
  exact Steps.refl _
end QR
