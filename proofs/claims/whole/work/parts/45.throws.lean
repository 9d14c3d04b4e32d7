/-! THROWS: 'throw new E("text")' over the abstract walk -/
def q_exn : List String := ["java/lang/RuntimeException", "java/lang/Exception"]
/-- a word that goes on holding -/
def q_kw (w : Cond) : Bool := (w.onTables && w.keeps) || (match w with
  | .castable _ _ => true
  | .declares _ => true
  | .arrayClass _ => true
  | _ => false)
theorem q_w2 {E : q_E} {s : State} {args : Array Value} (h0 : q_S0 E) (h : q_St E s) {w : Cond} (hw : w ∈ lw_tbl) (hg : q_kw w = true) : w.before args s = true := by
  unfold q_kw at hg
  by_cases h1 : (w.onTables && w.keeps) = true
  · exact q_w h0 h hw h1
  · have h2 : (w.onTables && w.keeps) = false := by simpa using h1
    rw [h2, Bool.false_or] at hg
    split at hg
    · exact va_Nw.use rfl (va_Nw.warmC h.1 (va_Nw.of rfl (h0.1 _ hw)))
    · exact va_Nw.use rfl (va_Nw.warmD h.1 (va_Nw.of rfl (h0.1 _ hw)))
    · exact q_wA h0 h hw
    · cases hg
theorem q_Z {E : q_E} {s : State} (h0 : q_S0 E) (h : q_St E s) {n d : String} (h1 : Cond.laysStatic Bundle.tN n d ∈ lw_tbl) (h2 : Cond.initialized Bundle.tN ∈ lw_tbl) (h3 : Cond.isRef (.static Bundle.tN n d) ∈ flatC (Jvm.Cond.and given_1 narrow_1)) : vx_Zq Bundle.tN n d (q_A (q_g E)) s s.heap := by
  have hz : vx_Zq Bundle.tN n d (q_A (q_g E)) (q_s E) (q_s E).heap := vx_Zqof (h0.1 _ h1) (h0.1 _ h2) (flat_of_before _ h0.2.2.2.2.2.1 _ h3) (fun a ha h' => absurd h' (Nat.not_le.mpr ha))
  exact vx_Zq.moved h.1.alike (hz.kept (fun a ha _ => h.2.2 a ha))
theorem q_str {E : q_E} {s : State} (h0 : q_S0 E) (h : q_St E s) {own tx : String} {k : Nat} (h1 : Cond.stringRef own k tx ∈ lw_tbl) (h2 : Cond.exactly (.string own k) "java/lang/String" ∈ flatC (Jvm.Cond.and given_1 narrow_1)) : ∃ a, vk_R own k tx a s := by
  have hx := flat_of_before _ h0.2.2.2.2.2.1 _ h2
  obtain ⟨a, c, cell, k9, h3, -⟩ := Cond.exactly_spec hx
  have h4 := h0.1 _ h1
  exact ⟨a, vk_R.warm h.1 (vk_R.of h4 h3)⟩
set_option maxHeartbeats 4000000 in
theorem q_throw {E : q_E} {R : Room} {M : q_M} {ws : List va_E} {ce sl pc mc ms ik is ic k : Nat} {text : String} {lv : List (Nat × Value)} {st : List Value} (hcls : Bundle.fit (q_ex k) = true) (hw1 : Cond.classLink M.2.2.2.1 ik (q_ex k) ∈ lw_tbl) (hw2 : Cond.initialized (q_ex k) ∈ lw_tbl) (hw3 : Cond.stringRef M.2.2.2.1 is text ∈ lw_tbl) (hw4 : Cond.exactly (.string M.2.2.2.1 is) "java/lang/String" ∈ flatC (Jvm.Cond.and given_1 narrow_1)) (hw5 : ∀ w ∈ vx_atS M.2.2.2.1 ic (q_ex k) q_exn, w ∈ lw_tbl ∧ q_kw w = true) (hw6 : ∀ w ∈ Cond.classLink M.2.2.2.1 ik (q_ex k) :: Cond.initialized (q_ex k) :: vx_atS M.2.2.2.1 ic (q_ex k) q_exn, vx_ot w = true)
    (d0 : decode M.1 pc = .ok (.new ik, 3)) (d3 : decode M.1 (pc + 3) = .ok (.dup, 1)) (d4 : decode M.1 (pc + 4) = .ok (.ldc is, 2)) (d6 : decode M.1 (pc + 6) = .ok (.invokespecial ic, 3)) (d9 : decode M.1 (pc + 9) = .ok (.athrow, 1)) (hM0 : M.2.2.2.2.2.1 = []) (hR : 5 < R.frames ∧ (st.map fun v => v.category).sum + 82 ≤ R.locals ∧ ce + 1 ≤ R.cells ∧ sl + 6 ≤ R.slots) (hmc : ce + 1 ≤ mc) (hms : sl + 6 ≤ ms)
    (hZ : Cond.laysStatic Bundle.tN "UNASSIGNED_STACK" Bundle.steD ∈ lw_tbl ∧ Cond.laysStatic Bundle.tN "SUPPRESSED_SENTINEL" Bundle.listD ∈ lw_tbl ∧ Cond.initialized Bundle.tN ∈ lw_tbl ∧ Cond.isRef (.static Bundle.tN "UNASSIGNED_STACK" Bundle.steD) ∈ flatC (Jvm.Cond.and given_1 narrow_1) ∧ Cond.isRef (.static Bundle.tN "SUPPRESSED_SENTINEL" Bundle.listD) ∈ flatC (Jvm.Cond.and given_1 narrow_1)) (hca : Cond.castable (q_ex k) (q_ex k) ∈ lw_tbl) :
    AW E R M ws ce sl pc lv st (.inr k, ws, mc, ms) := by
  intro p e s m args below meth c H locs ls hC hP hS hl
  obtain ⟨h0, ht, hx, hb, hml, hr, hlk, hh, hown, hnm, hn0⟩ := id hC
  obtain ⟨sa, hstr⟩ := q_str h0 ht hw3 hw4
  have hU := q_Z h0 ht hZ.1 hZ.2.2.1 hZ.2.2.2.1
  have hN := q_Z h0 ht hZ.2.1 hZ.2.2.1 hZ.2.2.2.2
  have hout : ∀ x ∈ c.exceptionTable.toList, covers x (pc + 9) = false := by
    intro x hx0
    have : (x.startPc, x.endPc, x.handlerPc, x.catchType) ∈ M.2.2.2.2.2.1 := by rw [← hh]; exact List.mem_map.mpr ⟨x, hx0, rfl⟩
    rw [hM0] at this
    cases this
  have hls : (l : Launch) → l = q_l E → l.stackTraces = false := by
    rintro l rfl
    unfold Launch.stackTraces
    rw [h0.2.2.2.2.1]
    decide
  have hw0 : ((st.map (q_cv (q_g E))).map fun v => v.category).sum = (st.map fun v => v.category).sum := by
    rw [List.map_map]
    have e0 : ((fun v : Value => v.category) ∘ q_cv (q_g E)) = fun v => v.category := by
      funext v
      exact q_cv_cat _ v
    rw [e0]
  have hk := vx_throwS (XC := fun E9 _ t => E9 = q_ex k ∧ H.size ≤ t.heap.size ∧ ∀ q : Nat, q < H.size → t.heap[q]? = H[q]?) (Qc := fun _ _ _ _ => False) (free := q_A (q_g E)) (args := args) (below := below) (mc := mc) (ms := ms) (names := q_exn) (ls := ls) (rest := st.map (q_cv (q_g E))) (cells := ce) (slots := sl) (R := R) (e := e) hx hb (hls _ rfl) hown hcls (by decide +kernel) (q_w2 h0 ht hw1 (by simp [q_kw, Cond.onTables, Cond.keeps])) (q_w2 h0 ht hw2 (by simp [q_kw, Cond.onTables, Cond.keeps, Cond.steady])) hstr (fun w hw => q_w2 h0 ht (hw5 w hw).1 (hw5 w hw).2) hw6 hU hN hS (hl.1.trans hml.symm) d0 d3 d4 d6 d9 hout hR.1 (by rw [hw0]; exact hR.2.1) hR.2.2.1 hR.2.2.2 hlk (fun t _ h1 h2 => ⟨rfl, h1, h2⟩) hS.2.2 hmc hms
  refine q_mono (fun t htt => ?_) hk
  obtain ⟨o, g1, g2, g3⟩ := htt
  rcases g3 with ⟨g3, -⟩ | ⟨q, rfl, E9, ce9, L9, ⟨rfl, f1, f2⟩, f3, f4, f5, f6, f7, f8⟩
  · exact g3.elim
  · obtain ⟨c3, c4, hc3, hc4, hasg⟩ := Cond.castable_spec (q_w2 (args := args) h0 ht hca (by simp [q_kw]))
    cases Option.some.inj (hc3.symm.trans f5)
    cases Option.some.inj (hc4.symm.trans f5)
    refine ⟨_, g1, g2, ⟨q, ce9, rfl, f3, f4, f5, hasg⟩, hP.kept (fun j x hx0 => f2 _ ((hP j x hx0).lt)), ⟨Nat.le_trans hS.1 f1, fun q' h1 h2 => ?_⟩, f6, L9, f7, f8⟩
    exact (f2 q' (Nat.lt_of_lt_of_le h1 hS.1)).trans (hS.2.1 q' h1 h2)
