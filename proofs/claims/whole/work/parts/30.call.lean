/-! CALLS over the abstract walk: contracts (q_Ct), the invoking instruction (q_Inv), what comes back (q_res), and its three uses: returned, thrown on, caught. -/
def q_hd (y : MethodName) (M : q_M) : Cond := match M.2.2.2.2.2.1 with
  | [] => .code y M.1 M.2.1 M.2.2.1
  | h :: t => .codeWith y M.1 M.2.1 M.2.2.1 (h :: t)
theorem q_hd_good {y : MethodName} {M : q_M} : ((q_hd y M).onTables && (q_hd y M).keeps) = true := by
  unfold q_hd
  split <;> rfl
theorem q_hd_spec {y : MethodName} {M : q_M} {args : Array Value} {s : State} (h : (q_hd y M).before args s = true) : ∃ (mk : MethodId) (meth : Method) (c : Code), s.methodNamed? y = some mk ∧ s.vm.method? mk = some meth ∧ meth.code = some c ∧ c.code = M.1 ∧ c.maxLocals = M.2.1 ∧ c.exceptionTable.toList.map (fun h => (h.startPc, h.endPc, h.handlerPc, h.catchType)) = M.2.2.2.2.2.1 ∧ meth.sig.returnType = M.2.2.1 ∧ meth.locks = false ∧ parseMethodDescriptor y.desc = some meth.sig := by
  unfold q_hd at h
  split at h
  · rename_i heq
    obtain ⟨mk, hn⟩ := Cond.code_named h
    obtain ⟨meth, c, h1, h2, h3, h4, h5, h6, h7, h8⟩ := Cond.code_spec hn h
    refine ⟨mk, meth, c, hn, h1, h2, h3, h4, ?_, h5, h6, h8⟩
    have z0 : c.exceptionTable.size = 0 := by simpa [Array.isEmpty] using h7
    have z1 : c.exceptionTable.toList = [] := List.eq_nil_of_length_eq_zero (by simpa using z0)
    rw [heq, z1]
    rfl
  · rename_i a t heq
    obtain ⟨mk, meth, c, hn, h1, h2, h3, h4, h5, h6, h7, h8⟩ := Cond.codeWith_spec h
    exact ⟨mk, meth, c, hn, h1, h2, h3, h4, by rw [heq]; exact h5, h6, h7, h8⟩
def q_Pre (E : q_E) (M : q_M) (ws : List va_E) (as : List Value) (a : Array Value) (s : State) : Prop :=
  a = (as.map (q_cv (q_g E))).toArray ∧ q_S0 E ∧ q_St E s ∧ va_P (q_DD E) q_cl (q_wz (q_g E) ws) s.heap ∧ ∀ k, M.2.2.2.2.2.2 = some k → s.heap.size = (q_g E).1 + k
/-- the contract of method y (its facts: M), in the room rm, at the world ws, for the arguments as: the result r -/
def q_Ct (E : q_E) (y : MethodName) (M : q_M) (rm : Room) (ws : List va_E) (as : List Value) (r : q_R) : Prop :=
  MetFree (q_l E) y (headSpec [q_hd y M] rm) (q_Pre E M ws as) (fun _ _ _ _ _ => True) (fun _ s o t => q_Q E r s o t)
theorem q_Ct.of {E : q_E} {y : MethodName} {M : q_M} {rm : Room} {ws : List va_E} {as : List Value} {r : q_R} {lv : List (Nat × Value)} (hy : plainName y.cls = true) (hM : M.2.2.2.1 = y.cls ∧ M.2.2.2.2.1 = y.name) (hlv : lv_args 0 (as.map (q_cv (q_g E))) = q_lv (q_g E) lv) (hnl : (lg_sl (as.map (q_cv (q_g E)))).length ≤ M.2.1) (h : AW E rm M ws 0 0 0 lv [] r) : q_Ct E y M rm ws as r := by
  refine MetFree.of_bodyS (code := M.1) (maxLocals := M.2.1) (ret := M.2.2.1) hy ?_ ?_
  · intro args s m hp hn
    obtain ⟨mk, meth, c, hn', h1, h2, h3, h4, -, h6, h7, -⟩ := q_hd_spec (atoms_spec (ws := [q_hd y M]) hp _ (List.mem_singleton.mpr rfl))
    cases hn.symm.trans hn'
    exact ⟨meth, c, h1, h2, h3, h4, h6, h7⟩
  · intro p e s m args below meth c s₁ B hml hP _
    obtain ⟨rfl, h0, ht, hPw, hn0⟩ := hP
    obtain ⟨mk, meth', c', hn', h1, h2, h3, h4, h5, h6, h7, -⟩ := q_hd_spec (atoms_spec (ws := [q_hd y M]) B.pre _ (List.mem_singleton.mpr rfl))
    cases B.named.symm.trans hn'
    cases B.method.symm.trans h1
    have X := Stand.of_body B
    cases X.code.symm.trans h2
    have hh0 : s₁.heap = s.heap := by rw [B.state]; rfl
    have hC : q_Cx E M p s m meth c := ⟨h0, ht, B.exec, B.bytes, hml, B.returns, B.notSynchronized, h5, by rw [hM.1]; exact findClass_of_methodNamed B.named, by rw [hM.2]; exact (name_of_methodNamed B.named B.method).1, hn0⟩
    have hl := lv_entry (as.map (q_cv (q_g E))) (n := M.2.1) hnl
    rw [hlv] at hl
    have hw := h p e s m (as.map (q_cv (q_g E))).toArray below meth c s.heap [] _ hC hPw va_S.rf hl
    obtain ⟨t, a1, o, b1, b2, b3⟩ := hw s₁ hh0 X
    rw [lg_entry_eq]
    exact ⟨t, o, a1, b1, b2, b3⟩
def q_Inv (E : q_E) (R : Room) (M : q_M) (ws : List va_E) (pc : Nat) (y : MethodName) (as rest : List Value) : Prop :=
  ∀ (p : Program) (e : Env) (s : State) (m : MethodId) (args : Array Value) (below : List Frame) (meth : Method) (c : Code) (T : State) (locs : List Loc) (ce sl : Nat) (ls : Array Slot), q_Cx E M p s m meth c → Stand p (q_l E) e R s m args below meth c T locs ce sl → va_P (q_DD E) q_cl (q_wz (q_g E) ws) T.heap →
    ∃ (vm₁ : Vm) (mk : MethodId), s.methodNamed? y = some mk ∧ Stand p (q_l E) e R s m args below meth c (T.setVm vm₁) locs ce sl ∧ ∀ target, (∀ acts, Steps p.tables e below (doInvoke e ((T.setVm vm₁).setTop (F0 m pc ls (rest.map (q_cv (q_g E))))) acts mk (as.map (q_cv (q_g E))).toArray).1 target) → Steps p.tables e below (T.setTop (F0 m pc ls ((as.reverse ++ rest).map (q_cv (q_g E))))) target
section QI
variable {E : q_E} {R : Room} {M Y : q_M} {ws : List va_E} {pc : Nat} {y : MethodName} {as rest : List Value} {idx : Nat}
theorem q_invS (hd : decode M.1 pc = .ok (.invokestatic idx, 3)) (hl : Cond.methodLink M.2.2.2.1 idx y ∈ lw_tbl) (hs : Cond.static y ∈ lw_tbl) (hi : Cond.initialized y.cls ∈ lw_tbl) (hc : q_hd y Y ∈ lw_tbl) (hy : y.cls ≠ "java/lang/invoke/MethodHandle" ∧ y.cls ≠ "java/lang/invoke/VarHandle") (hlen : (parseMethodDescriptor y.desc).map (fun d => d.parameters.length) = some as.length) : q_Inv E R M ws pc y as rest := by
  intro p e s m args below meth c T locs ce sl ls hC X hP
  obtain ⟨h0, ht, hx, hb, hml, hr, hlk, hh, hown, hnm, hn0⟩ := id hC
  obtain ⟨mk, methM, cM, hnamed, hmethM, -, -, -, -, -, -, hsigM⟩ := q_hd_spec (q_w (args := args) h0 ht hc q_hd_good)
  have hstatic : methM.isStatic = true := Cond.static_spec hnamed hmethM (q_w (args := args) h0 ht hs rfl)
  obtain ⟨kP, hkP, -⟩ := className_of_methodNamed hnamed
  have hinitP : kP.init = .initialized := Cond.initialized_spec (findClass_of_methodNamed hnamed) hkP (q_w (args := args) h0 ht hi rfl)
  have hl2 : as.length = methM.sig.parameters.length := by rw [hsigM] at hlen; exact (Option.some.inj hlen).symm
  obtain ⟨vm₁, X₁, hstep₁⟩ := X.invokestatic hx hown (q_w h0 ht hl rfl) hnamed hmethM hstatic hkP hinitP hy (g := F0 m pc ls ((as.reverse ++ rest).map (q_cv (q_g E)))) rfl (argsL := as.map (q_cv (q_g E))) (rest := rest.map (q_cv (q_g E))) (by rw [List.length_map]; exact hl2) (by show (as.reverse ++ rest).map _ = _; rw [List.map_append, List.map_reverse]) (by rw [hb]; exact hd)
  exact ⟨vm₁, mk, hnamed, X₁, hstep₁⟩
theorem q_invSN {host : String} (hd : decode M.1 pc = .ok (.invokestatic idx, 3)) (hl : Cond.methodLinkNest M.2.2.2.1 idx y host ∈ lw_tbl) (hs : Cond.static y ∈ lw_tbl) (hi : Cond.initialized y.cls ∈ lw_tbl) (hc : q_hd y Y ∈ lw_tbl) (hy : y.cls ≠ "java/lang/invoke/MethodHandle" ∧ y.cls ≠ "java/lang/invoke/VarHandle") (hlen : (parseMethodDescriptor y.desc).map (fun d => d.parameters.length) = some as.length) : q_Inv E R M ws pc y as rest := by
  intro p e s m args below meth c T locs ce sl ls hC X hP
  obtain ⟨h0, ht, hx, hb, hml, hr, hlk, hh, hown, hnm, hn0⟩ := id hC
  obtain ⟨mk, methM, cM, hnamed, hmethM, -, -, -, -, -, -, hsigM⟩ := q_hd_spec (q_w (args := args) h0 ht hc q_hd_good)
  have hstatic : methM.isStatic = true := Cond.static_spec hnamed hmethM (q_w (args := args) h0 ht hs rfl)
  obtain ⟨kP, hkP, -⟩ := className_of_methodNamed hnamed
  have hinitP : kP.init = .initialized := Cond.initialized_spec (findClass_of_methodNamed hnamed) hkP (q_w (args := args) h0 ht hi rfl)
  have hl2 : as.length = methM.sig.parameters.length := by rw [hsigM] at hlen; exact (Option.some.inj hlen).symm
  obtain ⟨vm₁, X₁, hstep₁⟩ := X.invokestaticNest hx hown (q_wM (args := args) h0 ht hl) hnamed hmethM hstatic hkP hinitP hy (g := F0 m pc ls ((as.reverse ++ rest).map (q_cv (q_g E)))) rfl (argsL := as.map (q_cv (q_g E))) (rest := rest.map (q_cv (q_g E))) (by rw [List.length_map]; exact hl2) (by show (as.reverse ++ rest).map _ = _; rw [List.map_append, List.map_reverse]) (by rw [hb]; exact hd)
  exact ⟨vm₁, mk, hnamed, X₁, hstep₁⟩
theorem q_invV {q0 ci N : Nat} {fs : List Value} {T0 : u_T} (hd : decode M.1 pc = .ok (.invokevirtual idx, 3)) (hl : Cond.methodLink M.2.2.2.1 idx y ∈ lw_tbl) (hs : Cond.instanceMethod y ∈ lw_tbl) (hse : Cond.selects y.cls y y ∈ lw_tbl) (hc : q_hd y Y ∈ lw_tbl) (hy : y.cls ≠ "java/lang/invoke/MethodHandle" ∧ y.cls ≠ "java/lang/invoke/VarHandle") (hlen : (parseMethodDescriptor y.desc).map (fun d => d.parameters.length) = some as.length) (hq : q0 < 900) (he : ws[q0]? = some (.inr (ci, fs))) (hcl : q_cl[ci]? = some (y.cls, T0, N)) : q_Inv E R M ws pc y (.ref q0 :: as) rest := by
  intro p e s m args below meth c T locs ce sl ls hC X hP
  obtain ⟨h0, ht, hx, hb, hml, hr, hlk, hh, hown, hnm, hn0⟩ := id hC
  obtain ⟨mk, methM, cM, hnamed, hmethM, -, -, -, -, -, -, hsigM⟩ := q_hd_spec (q_w (args := args) h0 ht hc q_hd_good)
  obtain ⟨mk', methM', hnamed', hmethM', hstM, habM⟩ := Cond.instanceMethod_spec (q_w (args := args) h0 ht hs rfl)
  cases hnamed.symm.trans hnamed'
  cases hmethM.symm.trans hmethM'
  obtain ⟨cellB, hcell, hobj, hcls⟩ := va_recv (ht.K h0) hP hcl (q_wz_at he)
  obtain ⟨c2, r2, m2, q1, q2, q3, q4, kP, hkP, hkPi⟩ := Cond.selects_spec (q_w (args := args) h0 ht hse rfl)
  cases hcls.symm.trans q1
  cases (State.methodFound?_of_named hnamed hy).symm.trans q2
  cases hnamed.symm.trans q3
  have hselP : selectMethod e.platform s.vm cellB.cls mk = .method mk := by rw [Launch.admits_selectMethod X.admits]; exact q4
  have hl2 : as.length = methM.sig.parameters.length := by rw [hsigM] at hlen; exact (Option.some.inj hlen).symm
  have est : ((.ref q0 :: as).reverse ++ rest).map (q_cv (q_g E)) = (as.map (q_cv (q_g E))).reverse ++ .ref ((q_g E).1 + q0) :: rest.map (q_cv (q_g E)) := by
    simp [q_ref hq]
  have eas : (.ref q0 :: as).map (q_cv (q_g E)) = .ref ((q_g E).1 + q0) :: as.map (q_cv (q_g E)) := by
    simp [q_ref hq]
  obtain ⟨vm₁, X₁, hstep₁⟩ := X.invokevirtual hx hown (q_w h0 ht hl rfl) hnamed hmethM hstM hkP hkPi hy (a := (q_g E).1 + q0) (cell := cellB) hcell
    (fun z h => by rw [h] at hobj; cases hobj) hselP hmethM habM hkP hkPi (g := F0 m pc ls ((as.map (q_cv (q_g E))).reverse ++ .ref ((q_g E).1 + q0) :: rest.map (q_cv (q_g E)))) rfl (argsL := as.map (q_cv (q_g E))) (rest := rest.map (q_cv (q_g E))) (by rw [List.length_map]; exact hl2) rfl (by rw [hb]; exact hd)
  refine ⟨vm₁, mk, hnamed, X₁, fun target h => ?_⟩
  rw [est]
  rw [eas] at h
  exact hstep₁ target h
theorem q_invVN {q0 ci N : Nat} {fs : List Value} {T0 : u_T} {host : String} (hd : decode M.1 pc = .ok (.invokevirtual idx, 3)) (hl : Cond.methodLinkNest M.2.2.2.1 idx y host ∈ lw_tbl) (hs : Cond.instanceMethod y ∈ lw_tbl) (hse : Cond.selects y.cls y y ∈ lw_tbl) (hc : q_hd y Y ∈ lw_tbl) (hy : y.cls ≠ "java/lang/invoke/MethodHandle" ∧ y.cls ≠ "java/lang/invoke/VarHandle") (hlen : (parseMethodDescriptor y.desc).map (fun d => d.parameters.length) = some as.length) (hq : q0 < 900) (he : ws[q0]? = some (.inr (ci, fs))) (hcl : q_cl[ci]? = some (y.cls, T0, N)) : q_Inv E R M ws pc y (.ref q0 :: as) rest := by
  intro p e s m args below meth c T locs ce sl ls hC X hP
  obtain ⟨h0, ht, hx, hb, hml, hr, hlk, hh, hown, hnm, hn0⟩ := id hC
  obtain ⟨mk, methM, cM, hnamed, hmethM, -, -, -, -, -, -, hsigM⟩ := q_hd_spec (q_w (args := args) h0 ht hc q_hd_good)
  obtain ⟨mk', methM', hnamed', hmethM', hstM, habM⟩ := Cond.instanceMethod_spec (q_w (args := args) h0 ht hs rfl)
  cases hnamed.symm.trans hnamed'
  cases hmethM.symm.trans hmethM'
  obtain ⟨cellB, hcell, hobj, hcls⟩ := va_recv (ht.K h0) hP hcl (q_wz_at he)
  obtain ⟨c2, r2, m2, q1, q2, q3, q4, kP, hkP, hkPi⟩ := Cond.selects_spec (q_w (args := args) h0 ht hse rfl)
  cases hcls.symm.trans q1
  cases (State.methodFound?_of_named hnamed hy).symm.trans q2
  cases hnamed.symm.trans q3
  have hselP : selectMethod e.platform s.vm cellB.cls mk = .method mk := by rw [Launch.admits_selectMethod X.admits]; exact q4
  have hl2 : as.length = methM.sig.parameters.length := by rw [hsigM] at hlen; exact (Option.some.inj hlen).symm
  have est : ((.ref q0 :: as).reverse ++ rest).map (q_cv (q_g E)) = (as.map (q_cv (q_g E))).reverse ++ .ref ((q_g E).1 + q0) :: rest.map (q_cv (q_g E)) := by
    simp [q_ref hq]
  have eas : (.ref q0 :: as).map (q_cv (q_g E)) = .ref ((q_g E).1 + q0) :: as.map (q_cv (q_g E)) := by
    simp [q_ref hq]
  obtain ⟨vm₁, X₁, hstep₁⟩ := X.invokevirtualNest hx hown (q_wM (args := args) h0 ht hl) hnamed hmethM hstM hkP hkPi hy (a := (q_g E).1 + q0) (cell := cellB) hcell
    (fun z h => by rw [h] at hobj; cases hobj) hselP hmethM habM hkP hkPi (g := F0 m pc ls ((as.map (q_cv (q_g E))).reverse ++ .ref ((q_g E).1 + q0) :: rest.map (q_cv (q_g E)))) rfl (argsL := as.map (q_cv (q_g E))) (rest := rest.map (q_cv (q_g E))) (by rw [List.length_map]; exact hl2) rfl (by rw [hb]; exact hd)
  refine ⟨vm₁, mk, hnamed, X₁, fun target h => ?_⟩
  rw [est]
  rw [eas] at h
  exact hstep₁ target h
theorem q_invI {q0 mL : Nat} {bytes : ByteArray} (hd : decode M.1 pc = .ok (.invokespecial idx, 3)) (hl : Cond.methodLink M.2.2.2.1 idx y ∈ lw_tbl) (hs : Cond.instanceMethod y ∈ lw_tbl) (hc : Cond.code y bytes mL none ∈ lw_tbl) (hyi : y.name = "<init>") (hy : y.cls ≠ "java/lang/invoke/MethodHandle" ∧ y.cls ≠ "java/lang/invoke/VarHandle") (hlen : (parseMethodDescriptor y.desc).map (fun d => d.parameters.length) = some as.length) (hq : q0 < 900) : q_Inv E R M ws pc y (.ref q0 :: as) rest := by
  intro p e s m args below meth c T locs ce sl ls hC X hP
  obtain ⟨h0, ht, hx, hb, hml, hr, hlk, hh, hown, hnm, hn0⟩ := id hC
  have hpl : e.platform.magicAccessors = ({} : Platform).magicAccessors := by rw [X.admits.platform]
  have est : ((.ref q0 :: as).reverse ++ rest).map (q_cv (q_g E)) = (as.map (q_cv (q_g E))).reverse ++ .ref ((q_g E).1 + q0) :: rest.map (q_cv (q_g E)) := by
    simp [q_ref hq]
  have eas : (.ref q0 :: as).map (q_cv (q_g E)) = .ref ((q_g E).1 + q0) :: as.map (q_cv (q_g E)) := by
    simp [q_ref hq]
  obtain ⟨mk, methM, cM, kP, vm₁, hnamed, -, -, -, -, -, -, -, hW₁, hstep₁⟩ := Steps.initColdArgs (e := e) X.here hx X.warmed hpl hown hyi hy (q_w (args := args) h0 ht hl rfl) (q_w (args := args) h0 ht hs rfl) (q_w (args := args) h0 ht hc rfl)
    (f := F0 m pc ls ((as.map (q_cv (q_g E))).reverse ++ .ref ((q_g E).1 + q0) :: rest.map (q_cv (q_g E)))) rfl (a := (q_g E).1 + q0) (argsL := as.map (q_cv (q_g E))) (rest := rest.map (q_cv (q_g E))) (fun sig h => by rw [h] at hlen; rw [List.length_map]; exact (Option.some.inj hlen).symm) rfl (by rw [hb]; exact hd)
  refine ⟨vm₁, mk, hnamed, X.noted hW₁, fun target h => ?_⟩
  rw [est]
  rw [eas] at h
  exact hstep₁ target h
end QI
def q_resume (U : State) (g : JFrame) (o : Outcome) : State := match o with
  | .returned v => U.setTop { g with pc := g.pc + 3, stack := v.toList ++ g.stack }
  | .threw a => (U.setTop g).pushFrame (.throwing a)
set_option maxHeartbeats 4000000 in
theorem q_res {E : q_E} {R : Room} {M Y : q_M} {ws : List va_E} {pc ce sl : Nat} {y : MethodName} {as rest : List Value} {rm : Room} {r0 : q_R} (hM : q_Ct E y Y rm ws as r0) (hI : q_Inv E R M ws pc y as rest) (hcd : q_hd y Y ∈ lw_tbl) (hini : Cond.initialized y.cls ∈ lw_tbl)
    (hfr : rm.frames + 1 ≤ R.frames) (hlo : 8 + (Y.2.1 + 11) + rm.locals ≤ R.locals) (hce : ce + rm.cells ≤ R.cells) (hsl : sl + rm.slots ≤ R.slots) (hst : (rest.map fun v => v.category).sum ≤ 8) {ig : Instr} (hd : decode M.1 pc = .ok (ig, 3))
    (hy0 : Y.2.2.2.2.2.2 = none ∨ ∃ k0, M.2.2.2.2.2.2 = some k0 ∧ k0 + ce = ws.length ∧ Y.2.2.2.2.2.2 = some ws.length)
    {p : Program} {e : Env} {s : State} {m : MethodId} {args : Array Value} {below : List Frame} {meth : Method} {c : Code} {T : State} {locs : List Loc} {ls : Array Slot} (hC : q_Cx E M p s m meth c) (X : Stand p (q_l E) e R s m args below meth c T locs ce sl) (hP : va_P (q_DD E) q_cl (q_wz (q_g E) ws) T.heap) (hS : va_S (q_A (q_g E)) s.heap T.heap locs) (hls : ls.size = M.2.1) :
    ∃ (o : Outcome) (B : State) (Lc : List Loc), Stand p (q_l E) e R s m args below meth c B (locs ++ Lc) (ce + r0.2.2.1) (sl + r0.2.2.2) ∧ q_Out E r0.1 o s B ∧ va_P (q_DD E) q_cl (q_wz (q_g E) r0.2.1) B.heap ∧ va_S (q_A (q_g E)) s.heap B.heap (locs ++ Lc) ∧
      ∀ target, Steps p.tables e below (q_resume B (F0 m pc ls (rest.map (q_cv (q_g E)))) o) target → Steps p.tables e below (T.setTop (F0 m pc ls ((as.reverse ++ rest).map (q_cv (q_g E))))) target := by
  obtain ⟨h0, ht, hx, hb, hml, hr, hlk, hh, hown, hnm, hn0⟩ := id hC
  obtain ⟨vm₁, mk, hnamed, X₁, hstep⟩ := hI p e s m args below meth c T locs ce sl ls hC X hP
  have htU : q_St E (T.setVm vm₁) := ht.to hS rfl X₁.warmed
  obtain ⟨mk', methY, cY, hnY, hmY, hcY, -, hlY, -, -, -, -⟩ := q_hd_spec (q_w (args := (as.map (q_cv (q_g E))).toArray) h0 htU hcd q_hd_good)
  have hnU : (T.setVm vm₁).methodNamed? y = some mk := X₁.named hnamed
  cases hnU.symm.trans hnY
  obtain ⟨kY, hkY, -⟩ := className_of_methodNamed hnU
  have hinitY : kY.init = .initialized := Cond.initialized_spec (findClass_of_methodNamed hnU) hkY (q_w (args := #[]) h0 htU hini rfl)
  have hsz : T.heap.size ≤ s.heap.size + ce := X.heapSize
  have hPre : q_Pre E Y ws as (as.map (q_cv (q_g E))).toArray ((T.setVm vm₁).calling (F0 m pc ls (rest.map (q_cv (q_g E)))) mk (as.map (q_cv (q_g E))).toArray) := by
    refine ⟨rfl, h0, htU, hP, fun k hk => ?_⟩
    rcases hy0 with hy0 | ⟨k0, hk0, hce0, hyk⟩
    · rw [hy0] at hk; cases hk
    · rw [hyk] at hk
      cases hk
      exact q_exact ht hP hS (hn0 _ hk0) hce0 hsz
  have hw0 : ((rest.map (q_cv (q_g E))).map fun v => v.category).sum ≤ 8 := by
    rw [List.map_map]
    have e0 : ((fun v : Value => v.category) ∘ q_cv (q_g E)) = fun v => v.category := by
      funext v
      exact q_cv_cat _ v
    rw [e0]
    exact hst
  generalize hg : F0 m pc ls (rest.map (q_cv (q_g E))) = g at *
  have hgm : g.method = m := by rw [← hg]
  have hgs : g.locals.size = c.maxLocals := by rw [← hg, hml]; exact hls
  have hgd : decode c.code g.pc = .ok (ig, 3) := by rw [← hg, hb]; exact hd
  have hgw : 2 * g.monitorRoom + (g.stack.map fun v => v.category).sum ≤ 8 := by
    rw [← hg]
    show 2 * 0 + _ ≤ 8
    simpa using hw0
  generalize ha : (as.map (q_cv (q_g E))).toArray = a at *
  have h : At (T.setVm vm₁) g.method c below := by rw [hgm]; exact X₁.here
  have happ : (headSpec [q_hd y Y] rm).appliesLoose y e.platform ((T.setVm vm₁).calling g mk a) = true :=
    Spec.appliesLoose_calling (g := g) h hgd hnU hkY hinitY
      (X₁.room_calling (g := g) (R' := rm) hgs hmY hcY hfr (by rw [hlY]; omega) hce hsl) (atoms_intro (ws := [q_hd y Y]) (fun w hw => by
        rw [List.mem_singleton.mp hw]
        exact q_w h0 htU hcd q_hd_good))
  obtain ⟨mid, hmid⟩ := h.above
  have hfr0 : ((T.setVm vm₁).setTop g).frames = (.java g :: mid) ++ below := by rw [State.frames_setTop' g h.top, hmid]; rfl
  obtain ⟨o, s₂, hsteps, -, hend, hq⟩ := Steps.callFree hM p X.admits X.cas X.clock (acts := []) hfr0 happ hPre trivial
  have hq' : q_Q E r0 ((T.setVm vm₁).calling g mk a) o s₂ := hq
  rw [State.frames_setTop' g h.top] at hend
  obtain ⟨hout, hP2, hF2, hW₂, L, hsame0, hL⟩ := hq'
  obtain ⟨e2, q2, q3, q4, q5, q6⟩ := hsame0
  have e3 : s₂ = ({ ((T.setVm vm₁).calling g mk a).setFrames s₂.frames with heap := s₂.heap, slotsUsed := s₂.slotsUsed } : State).setVm s₂.vm := by
    have : s₂ = ({ s₂ with vm := ((T.setVm vm₁).calling g mk a).vm } : State).setVm s₂.vm := rfl
    rw [e2] at this
    exact this
  have hW' : (T.setVm vm₁).WarmedH s₂.vm := hW₂
  generalize hU : T.setVm vm₁ = U at *
  obtain ⟨g₀, hg0⟩ := Option.isSome_iff_exists.mp h.top
  obtain ⟨r, hr0⟩ := State.topJava?_eq_some.mp hg0
  have hr' : (({ U with heap := s₂.heap, slotsUsed := s₂.slotsUsed } : State).setVm s₂.vm).frames = .java g₀ :: r := hr0
  have hsame : U.sameButNew ({ U with heap := s₂.heap, slotsUsed := s₂.slotsUsed } : State) L r0.2.2.1 r0.2.2.2 := by
    refine ⟨?_, q2, q3, q4, q5, q6⟩
    obtain ⟨t, ht', -⟩ := State.frames_cons hr0
    show ({ U with heap := s₂.heap, slotsUsed := s₂.slotsUsed } : State) = { U.setFrames U.frames with heap := s₂.heap, slotsUsed := s₂.slotsUsed }
    rw [State.setFrames_self ht']
  have hUh : U.heap = T.heap := by rw [← hU]; rfl
  have hFU : va_F (q_A (q_g E)) U s₂ := hF2
  have hres : s₂ = q_resume (({ U with heap := s₂.heap, slotsUsed := s₂.slotsUsed } : State).setVm s₂.vm) g o := by
    cases o with
    | returned v =>
      obtain ⟨c₂, i₂, len₂, hc₂, hd₂, hf₂⟩ := hend
      have hcc : c₂ = c := by
        have h1 : s₂.code? g.method = U.code? g.method := by
          rw [State.code?_eq, State.code?_eq, hW'.alike.method?]
        exact Option.some.inj (hc₂.symm.trans (h1.trans h.code))
      subst hcc
      have hlen : len₂ = 3 := by rw [hgd] at hd₂; cases hd₂; rfl
      subst hlen
      refine e3.trans ?_
      show _ = (({ U with heap := s₂.heap, slotsUsed := s₂.slotsUsed } : State).setVm s₂.vm).setTop { g with pc := g.pc + 3, stack := v.toList ++ g.stack }
      rw [hf₂, State.calling_eq h.top, State.setFrames_setFrames, State.setTop_of_frames _ hr', hr0]
      rfl
    | threw v =>
      have hf₂ : s₂.frames = .throwing v :: .java g :: U.frames.tail := hend
      refine e3.trans ?_
      show _ = ((({ U with heap := s₂.heap, slotsUsed := s₂.slotsUsed } : State).setVm s₂.vm).setTop g).pushFrame (.throwing v)
      rw [hf₂, State.calling_eq h.top, State.setFrames_setFrames, State.pushFrame, State.frames_setTop _ hr', State.setTop_of_frames _ hr', State.setFrames_setFrames, hr0]
      rfl
  subst hgm
  refine ⟨o, ({ U with heap := s₂.heap, slotsUsed := s₂.slotsUsed } : State).setVm s₂.vm, L,
    ⟨X.admits, X.cas, X.clock, X.frames, X.room, X.hears, X.method, X.code, (X₁.here.setHeapUsed s₂.heap s₂.slotsUsed).setVm hW'.alike, X₁.tail, State.WarmedH.trans X₁.warmed hW', X₁.limits, X₁.bytes, X₁.same.trans (hsame.setVm s.vm)⟩, ?_, hP2, ?_, fun target hT => hstep target (fun acts => ?_)⟩
  · cases hx0 : r0.1 with
    | inl v => rw [hx0] at hout; exact hout
    | inr k =>
      rw [hx0] at hout
      obtain ⟨a', cell, g1, g3, g4, g5, g6⟩ := hout
      refine ⟨a', cell, g1, g3, g4, ?_, ?_⟩
      · have : U.vm.findClass (q_ex k) = some cell.cls := g5
        rwa [X₁.warmed.alike.findClass] at this
      · have : U.vm.assignable cell.cls cell.cls = true := g6
        rwa [X₁.warmed.alike.assignable] at this
  · refine ⟨Nat.le_trans hS.1 (by rw [← hUh]; exact hFU.1), fun q h1 h2 => ?_, fun l hl => ?_⟩
    · have h3 : q < U.heap.size := by rw [hUh]; exact Nat.lt_of_lt_of_le h1 hS.1
      exact (hFU.2 q h3 h2).trans (by rw [hUh]; exact hS.2.1 q h1 h2)
    · rcases List.mem_append.mp hl with h1 | h1
      · exact hS.2.2 l h1
      · exact hL l h1
  · rw [doInvoke_state]
    rw [← hres] at hT
    exact hsteps.trans hT
section QK
variable {E : q_E} {R : Room} {M Y : q_M} {ws ws' : List va_E} {pc ce sl mc ms : Nat} {y : MethodName} {as rest : List Value} {rm : Room} {r : q_R} {lv : List (Nat × Value)} {ig : Instr}
theorem q_call {v : Option Value} (n : Nat) (hM : q_Ct E y Y rm ws as (.inl v, ws', mc, ms)) (hI : q_Inv E R M ws pc y as rest) (hk : q_hd y Y ∈ lw_tbl ∧ Cond.initialized y.cls ∈ lw_tbl) (hro : rm.frames + 1 ≤ R.frames ∧ 8 + (Y.2.1 + 11) + rm.locals ≤ R.locals ∧ ce + rm.cells ≤ R.cells ∧ sl + rm.slots ≤ R.slots) (hst : (rest.map fun v => v.category).sum ≤ 8) (hd : decode M.1 pc = .ok (ig, 3)) (hn : pc + 3 = n)
    (hy0 : Y.2.2.2.2.2.2 = none ∨ ∃ k0, M.2.2.2.2.2.2 = some k0 ∧ k0 + ce = ws.length ∧ Y.2.2.2.2.2.2 = some ws.length)
    (k : AW E R M ws' (ce + mc) (sl + ms) n lv (v.toList ++ rest) r) : AW E R M ws ce sl pc lv (as.reverse ++ rest) r := by
  subst hn
  intro p e s m args below meth c H locs ls hC hP hS hl T hT X
  subst hT
  obtain ⟨o, B, Lc, XB, ho, hPB, hSB, hgo⟩ := q_res hM hI hk.1 hk.2 hro.1 hro.2.1 hro.2.2.1 hro.2.2.2 hst hd hy0 hC X hP hS hl.1
  have ho' : o = .returned (v.map (q_cv (q_g E))) := ho
  subst ho'
  obtain ⟨t, a1, b1⟩ := k p e s m args below meth c B.heap (locs ++ Lc) ls hC hPB hSB hl B rfl XB
  refine ⟨t, hgo t ?_, b1⟩
  have e1 : q_resume B (F0 m pc ls (rest.map (q_cv (q_g E)))) (.returned (v.map (q_cv (q_g E)))) = B.setTop (F0 m (pc + 3) ls ((v.toList ++ rest).map (q_cv (q_g E)))) := by cases v <;> rfl
  rw [e1]
  exact a1
theorem q_callT {kx mc' ms' : Nat} (hM : q_Ct E y Y rm ws as (.inr kx, ws', mc, ms)) (hI : q_Inv E R M ws pc y as rest) (hk : q_hd y Y ∈ lw_tbl ∧ Cond.initialized y.cls ∈ lw_tbl) (hro : rm.frames + 1 ≤ R.frames ∧ 8 + (Y.2.1 + 11) + rm.locals ≤ R.locals ∧ ce + rm.cells ≤ R.cells ∧ sl + rm.slots ≤ R.slots) (hst : (rest.map fun v => v.category).sum ≤ 8) (hd : decode M.1 pc = .ok (ig, 3))
    (hy0 : Y.2.2.2.2.2.2 = none ∨ ∃ k0, M.2.2.2.2.2.2 = some k0 ∧ k0 + ce = ws.length ∧ Y.2.2.2.2.2.2 = some ws.length)
    (hno : ∀ h ∈ M.2.2.2.2.2.1, (decide (h.1 ≤ pc) && decide (pc < h.2.1)) = false) (hmc : ce + mc ≤ mc') (hms : sl + ms ≤ ms') : AW E R M ws ce sl pc lv (as.reverse ++ rest) (.inr kx, ws', mc', ms') := by
  intro p e s m args below meth c H locs ls hC hP hS hl T hT X
  subst hT
  obtain ⟨h0, ht, hx, hb, hml, hr, hlk, hh, hown, hnm, hn0⟩ := id hC
  obtain ⟨o, B, Lc, XB, ho, hPB, hSB, hgo⟩ := q_res hM hI hk.1 hk.2 hro.1 hro.2.1 hro.2.2.1 hro.2.2.2 hst hd hy0 hC X hP hS hl.1
  obtain ⟨a, cell, rfl, g3, g4, g5, g6⟩ := ho
  have hout : ∀ x ∈ c.exceptionTable.toList, covers x pc = false := fun x hx0 => hno _ (by rw [← hh]; exact List.mem_map.mpr ⟨x, hx0, rfl⟩)
  obtain ⟨hw, hrun, hend, hWm, hsm⟩ := XB.leaveThrown a (g := F0 m pc ls (rest.map (q_cv (q_g E)))) rfl rfl rfl hout (hlocks := hlk)
  exact ⟨_, hgo _ hw, _, hrun, hend, ⟨a, cell, rfl, g3, g4, g5, g6⟩, hPB, hSB.F rfl, hWm, locs ++ Lc, hsm.mono hmc hms, hSB.2.2⟩
end QK
