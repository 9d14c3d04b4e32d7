/-! THE CLAIM OUT OF ONE WALK OF THE LAW'S BODY. Your part is whole_start (and what it stands on); all else here is the same for every law, but numbers. -/
def R_law : String := "LassoDeskLaw"
def lw_P (b : Addr) (xs : List Int32) (args : Array Value) (s : State) : Prop := args = #[.ref b] ∧ s.IntsAt b xs ∧ xs.length ≤ 1536 ∧ (Jvm.Cond.and given_1 narrow_1).before args s = true
def lw_Q (_ : Array Value) (s : State) (o : Outcome) (t : State) : Prop := o = .returned (some (.int 1)) ∧ Framed s o t [] 601024 7293034
def lw_Z (below : List Frame) (a : Array Value) (s : State) : State → Prop := fun t => ∃ o, t.status = .running ∧ Ended t below o ∧ lw_Q a s o t
/-- the law's own end, with 1 on the stack, nothing written that was there before, its room as the claim has it -/
theorem lw_ret {p : Program} {l : Launch} {e : Env} {s : State} {m : MethodId} {below : List Frame} {meth : Method} {c : Code} {b : Nat} (hx : p.tables.exec = Jvm.exec) (hb : c.code = code) (hr : meth.sig.returnType = ret) (hlocks : meth.locks = false) {pc : Nat} {H : Heap} {ls : Array Slot} (hdg : decode code pc = .ok (.ireturn, 1)) : W p l e room_1 s m #[Value.ref b] below meth c H [] 601024 7293034 (lw_Z below #[Value.ref b] s) (F0 m pc ls [.int 1]) := by
  intro T hT X
  obtain ⟨fs, hret, hrun, hended, hW, hframe⟩ := X.leave (v := some (.int 1)) (hlocks := hlocks) (fun h => by rw [hr] at h; cases h)
  have hmeth' : T.vm.method? m = some meth := X.method'
  refine ⟨T.setFrames fs, ?_, .returned (some (.int 1)), hrun, hended, rfl, ⟨_, rfl⟩, hW, hframe⟩
  jvm_step X.here [X.here.top, hx, hb, hdg, hmeth', hr, ret, narrow_b1]
  (try refine ⟨rfl, ?_⟩); (try refine ⟨rfl, ?_⟩)
  first | (intro acts; rw [hret _ acts rfl rfl rfl]) | rw [hret _ _ rfl rfl rfl]
  exact Steps.refl _
/-- what holds at the law's entry: the machine, the code, the tables' words (any of lw_tbl by 'hts w (by decide +kernel)'), the script of L ints xs at the cell b, what the Statement gives of the start (any of its parts by flat_of_before) -/
def lw_At (p : Program) (s : State) (m : MethodId) (meth : Method) (c : Code) (b L : Nat) (xs : Nat → Int32) : Prop :=
  p.tables.exec = Jvm.exec ∧ c.code = code ∧ meth.sig.returnType = ret ∧ c.maxLocals = 7 ∧ s.vm.findClass R_law = some m.cls ∧ (∀ w ∈ lw_tbl, w.before #[Value.ref b] s = true) ∧ va_X b L xs s s.heap ∧ b < s.heap.size ∧ meth.locks = false ∧ (Jvm.Cond.and given_1 narrow_1).before #[Value.ref b] s = true
theorem q_arr {s : State} {args : Array Value} {ty : FieldType} (h : (Cond.arrayClass ty).before args s = true) (hp : ty = .int ∨ ty = .boolean ∨ ty = .char ∨ ty = .long) : ∃ cA : ClassId, ArrOfT s cA ty ∧ va_RA s cA ty := by
  obtain ⟨cA, kA, comp, h1, h2, h3⟩ := Cond.arrayClass_spec h
  refine ⟨cA, fun n z => ⟨fun k h => (by cases h), kA, h2, comp, h3⟩, ?_⟩
  rcases hp with rfl | rfl | rfl | rfl <;> exact h1
theorem q_Fr {s t : State} {L : List Loc} {k n : Nat} (h : s.sameButNew ({ t with vm := s.vm } : State) L k n) (hL : ∀ q ∈ L, s.heap.size ≤ q.base) : s.sameButNew ({ t with vm := s.vm } : State) [] k n := by
  obtain ⟨e1, e2, e3, e4, e5, e6⟩ := h
  refine ⟨e1, e2, e3, e4, e5, fun a c hc => ?_⟩
  obtain ⟨c', f1, f2, f3, f4⟩ := e6 a c hc
  refine ⟨c', f1, f2, f3, fun i _ => f4 i fun hm => ?_⟩
  have h1 := hL _ hm
  have h2 : a < s.heap.size := (Array.getElem?_eq_some_iff.mp hc).1
  exact absurd h2 (Nat.not_lt.mpr h1)
def q_f7 {α : Type} (a0 a1 a2 a3 a4 a5 a6 : α) (k : Nat) : α := match k with
  | 0 => a0
  | 1 => a1
  | 2 => a2
  | 3 => a3
  | 4 => a4
  | 5 => a5
  | _ => a6
def q_f4 {α : Type} (a0 a1 a2 a3 : α) (k : Nat) : α := match k with
  | 0 => a0
  | 1 => a1
  | 2 => a2
  | _ => a3
set_option maxHeartbeats 4000000 in
set_option maxRecDepth 100000 in
theorem whole_start {p : Program} {e : Env} {s : State} {m : MethodId} {below : List Frame} {meth : Method} {c : Code} (l : Launch) (hfl : l.flags = flags0) {b L : Nat} {xs : Nat → Int32} (hL : L ≤ 1536) (C0 : lw_At p s m meth c b L xs) (hex : c.exceptionTable.toList = []) (hname : meth.name = "law") : W p l e room_1 s m #[Value.ref b] below meth c s.heap [] 0 0 (lw_Z below #[Value.ref b] s) (entryFrame m ([Value.ref b] : List Value).toArray 7) := by
  obtain ⟨hx, hb, hr, hml, hown, hts, hX, hbl, hlk, hgv⟩ := C0
  obtain ⟨c0, i0, k0⟩ := u_known (args := #[Value.ref b]) (ws := lw_tbl) hts q_in0 (hts (.instantiable "LassoDesk" 8) (q_tb 16 (by decide +kernel)))
  obtain ⟨c1, i1, k1⟩ := u_known (args := #[Value.ref b]) (ws := lw_tbl) hts q_in1 (hts (.instantiable "LassoDesk$Line" 3) (q_tb 24 (by decide +kernel)))
  obtain ⟨c2, i2, k2⟩ := u_known (args := #[Value.ref b]) (ws := lw_tbl) hts q_in2 (hts (.instantiable "LassoDesk$Formula" 10) (q_tb 115 (by decide +kernel)))
  obtain ⟨c3, i3, k3⟩ := u_known (args := #[Value.ref b]) (ws := lw_tbl) hts q_in3 (hts (.instantiable "LassoDesk$Lasting" 10) (q_tb 41 (by decide +kernel)))
  obtain ⟨c4, i4, k4⟩ := u_known (args := #[Value.ref b]) (ws := lw_tbl) hts q_in4 (hts (.instantiable "LassoDesk$Walk" 4) (q_tb 80 (by decide +kernel)))
  obtain ⟨c5, i5, k5⟩ := u_known (args := #[Value.ref b]) (ws := lw_tbl) hts q_in5 (hts (.instantiable "LassoDesk$GivenWord" 3) (q_tb 99 (by decide +kernel)))
  obtain ⟨c6, i6, k6⟩ := u_known (args := #[Value.ref b]) (ws := lw_tbl) hts q_in6 (hts (.instantiable "LassoDeskModel" 40) (q_tb 674 (by decide +kernel)))
  obtain ⟨a0, r0, s0⟩ := q_arr (hts (.arrayClass .int) (q_tb 77 (by decide +kernel))) (Or.inl rfl)
  obtain ⟨a1, r1, s1⟩ := q_arr (hts (.arrayClass .boolean) (q_tb 78 (by decide +kernel))) (Or.inr (Or.inl rfl))
  obtain ⟨a2, r2, s2⟩ := q_arr (hts (.arrayClass .char) (q_tb 39 (by decide +kernel))) (Or.inr (Or.inr (Or.inl rfl)))
  obtain ⟨a3, r3, s3⟩ := q_arr (hts (.arrayClass .long) (q_tb 976 (by decide +kernel))) (Or.inr (Or.inr (Or.inr rfl)))
  obtain ⟨E, hE⟩ : ∃ E : q_E, E = (l, s, (q_f7 c0 c1 c2 c3 c4 c5 c6, q_f7 i0 i1 i2 i3 i4 i5 i6), q_f4 a0 a1 a2 a3, b, L, xs) := ⟨_, rfl⟩
  have hK : va_K (q_DD E) q_cl (q_tys E) s := by
    rw [hE]
    refine ⟨fun k q hq => ?_, fun k q hq => ?_⟩
    · rcases k with _ | _ | _ | _ | _ | _ | _ | k
      · cases hq; exact k0
      · cases hq; exact k1
      · cases hq; exact k2
      · cases hq; exact k3
      · cases hq; exact k4
      · cases hq; exact k5
      · cases hq; exact k6
      · simp at hq
    · rcases k with _ | _ | _ | _ | k
      · cases hq; exact ⟨r0, s0⟩
      · cases hq; exact ⟨r1, s1⟩
      · cases hq; exact ⟨r2, s2⟩
      · cases hq; exact ⟨r3, s3⟩
      · simp [q_tys] at hq
  subst hE
  have h0 : q_S0 (l, s, (q_f7 c0 c1 c2 c3 c4 c5 c6, q_f7 i0 i1 i2 i3 i4 i5 i6), q_f4 a0 a1 a2 a3, b, L, xs) := ⟨hts, hK, hX, hbl, hfl, hgv, hL⟩
  have hC : q_Cx (l, s, (q_f7 c0 c1 c2 c3 c4 c5 c6, q_f7 i0 i1 i2 i3 i4 i5 i6), q_f4 a0 a1 a2 a3, b, L, xs) m_law p s m meth c := ⟨h0, ⟨State.WarmedH.refl s, Nat.le_refl _, fun q _ => rfl⟩, hx, hb, hml, hr, hlk, by rw [hex]; rfl, hown, hname, fun k hk => by cases hk; rfl⟩
  obtain ⟨w, hpure⟩ := law_pure (l, s, (q_f7 c0 c1 c2 c3 c4 c5 c6, q_f7 i0 i1 i2 i3 i4 i5 i6), q_f4 a0 a1 a2 a3, b, L, xs) hL
  have hA := t_law (E := (l, s, (q_f7 c0 c1 c2 c3 c4 c5 c6, q_f7 i0 i1 i2 i3 i4 i5 i6), q_f4 a0 a1 a2 a3, b, L, xs)) hpure
  have hl := lv_entry ([Value.ref b] : List Value) (n := 7) (Nat.le_of_ble_eq_true rfl)
  rw [lg_entry_eq]
  have hw := hA p e s m #[Value.ref b] below meth c s.heap [] _ hC (fun k q hk => by simp [q_wz] at hk) va_S.rf (by exact hl)
  refine q_mono (fun t ht => ?_) hw
  obtain ⟨o, g1, g2, g3, -, -, g4, Lc, g5, g6⟩ := ht
  have g3 : o = .returned (some (.int 1)) := g3
  exact ⟨o, g1, g2, g3, ⟨_, g3⟩, g4, q_Fr g5 g6⟩
set_option maxHeartbeats 4000000 in
theorem lw_walk (l : Launch) (hfl : l.flags = flags0) (b : Addr) (xs : List Int32) : MetFree l x (headSpec (Jvm.Cond.code x code maxLocals ret :: tables_1) room_1) (lw_P b xs) (fun _ _ _ _ _ => True) lw_Q := by
  refine MetFree.of_bodyS (code := code) (maxLocals := maxLocals) (ret := ret) (by decide) ?_ ?_
  · intro args s m h hn
    obtain ⟨meth, c, h1, h2, h3, h4, h5, h6, -, -⟩ := Cond.code_spec hn (atoms_spec (ws := Jvm.Cond.code x code maxLocals ret :: tables_1) h _ List.mem_cons_self)
    exact ⟨meth, c, h1, h2, h3, h4, h5, h6⟩
  · intro p e s m args below meth c s₁ B hml0 hP _
    obtain ⟨rfl, hx, hbd, hgv⟩ := hP
    obtain ⟨scr, harrAt, hlist, hof, hsmall⟩ := hx
    obtain ⟨hcb, hkn, -, -⟩ := State.arrayAt?_spec harrAt
    have hown : s.vm.findClass R_law = some m.cls := findClass_of_methodNamed B.named
    have hts0 : ∀ c ∈ (Jvm.Cond.code x code maxLocals ret :: tables_1), c.before #[Value.ref b] s = true := atoms_spec (ws := Jvm.Cond.code x code maxLocals ret :: tables_1) B.pre
    have hts : ∀ w ∈ lw_tbl, w.before #[Value.ref b] s = true := k2_hts_sels lw_privs (fun w hw => hts0 w (List.mem_cons_of_mem _ hw)) lw_privs_ok
    have hml : c.maxLocals = 7 := B.maxLocals_eq (hts0 _ List.mem_cons_self)
    have X₀ : Stand p l e room_1 s m #[Value.ref b] below meth c s₁ [] 0 0 := Stand.of_body B
    have hh0 : s₁.heap = s.heap := by rw [B.state]; rfl
    have hsz : scr.slots.size = xs.length := by rw [← Array.length_toList, hlist, List.length_map]
    have hval : ∀ j : Nat, j < xs.length → scr.slots[j]? = some (.int (xs.getD j 0)) := fun j hj => by
      rw [← Array.getElem?_toList, hlist]
      simp [hj]
    have hbl : b < s.heap.size := (Array.getElem?_eq_some_iff.mp hcb).1
    have hX : va_X b xs.length (fun j => xs.getD j 0) s s.heap := ⟨scr, hcb, hof, hkn, hsz, hval⟩
    have K : W p l e room_1 s m #[Value.ref b] below meth c s₁.heap [] 0 0 (lw_Z below #[Value.ref b] s) (entryFrame m ([Value.ref b] : List Value).toArray 7) := by
      rw [hh0]
      have z0 : c.exceptionTable.size = 0 := by simpa [Array.isEmpty] using B.noHandlers (hts0 _ List.mem_cons_self)
      have z1 : c.exceptionTable.toList = [] := List.eq_nil_of_length_eq_zero (by simpa using z0)
      exact whole_start l hfl hbd ⟨B.exec, B.bytes, B.returns, hml, hown, hts, hX, hbl, B.notSynchronized, hgv⟩ z1 (name_of_methodNamed B.named B.method).1
    obtain ⟨t, a1, o, b1, b2, b3⟩ := K s₁ rfl X₀
    exact ⟨t, o, a1, b1, b2, b3⟩
theorem lw_pre_spec {args : Array Value} {s : State} (h : (Jvm.Cond.and given_1 narrow_1).before args s = true) (hr : rest_1_c.before args s = true) : ∃ (b : Addr) (xs : List Int32), lw_P b xs args s := by
  have hs := flat_of_before _ h
  have hq := flat_of_before _ hr
  have hc : (Cond.count 1).before args s = true := hs _ (by decide +kernel)
  have harr : (Cond.arrayOf (.arg 0) .int).before args s = true := hs _ (by decide +kernel)
  have hle : (Cond.le (.length (.arg 0)) (.int 1536)).before args s = true := hs _ (by decide +kernel)
  have hlen : (Cond.isInt (.length (.arg 0))).before args s = true := hq _ (by decide +kernel)
  have hall : (Cond.all (.arg 0) (.isInt (.elem (.arg 0) (.index 0)))).before args s = true := hq _ (by decide +kernel)
  obtain ⟨b, xs, hb, hx⟩ := State.ints_of_pre rfl harr hlen hall
  have hsm : xs.length < 2 ^ 31 := hx.choose_spec.2.2.2
  have hev : (Term.length (.arg 0)).eval args s none [] s = some (.int xs.length.toInt32) := hx.length_eval hb
  have hv := Cond.le_ints hev (show (Term.int 1536).eval args s none [] s = some (.int 1536) from rfl)
  have hd : xs.length.toInt32 ≤ 1536 := by
    simpa [Cond.before, Cond.holds, hv] using hle
  have hN : xs.length ≤ 1536 := (Int32.ofNat_le_ofNat hsm (by decide)).mp (show Int32.ofNat xs.length ≤ Int32.ofNat 1536 from hd)
  exact ⟨b, xs, Cond.one_arg hc (show args[0]? = some (.ref b) from hb), hx, hN, h⟩
theorem lw_comes (l : Launch) (hfl : l.flags = flags0) : Comes l x (Jvm.Cond.code x code maxLocals ret :: tables_1) room_1 (fun tb e args s => Calls_1 tb e args s ∧ rest_1 tb e args s ∧ Pre_1 tb e args s)
    (fun _ _ args s o t => lw_Q args s o t) := by
  intro p e ha hc hk s m args below hf hfit hheap happ hpre
  obtain ⟨b, xs, hP⟩ := lw_pre_spec hpre.2.2 hpre.2.1
  obtain ⟨k, o, h1, h2, h3, hQ⟩ := lw_walk l hfl b xs p e ha hc hk s m args below hf ((Spec.applies_iff_loose hf).mp happ).1 hP trivial
  exact ⟨k, o, h1, h2, h3, hQ⟩
theorem lw_frame {s t : State} {o : Outcome} {args : Array Value} (h : Framed s o t [] 601024 7293034) :
    Framed s o t (fieldLocs frame_1_writes args s ++ arrayLocs frame_1_arrays args s ++ staticLocs frame_1_statics s) 601024 7293034 := h
theorem lw_limb (L : Cond) (hL : ∀ (args : Array Value) (s t : State), L.after args s (.returned (some (.int 1))) t = true) :
    ArmFor flags0 classFile x code maxLocals ret World_1 tables_1 room_1 Calls_1 rest_1 Pre_1
      (fun tb e a s o t => postC L tb e a s o t ∧ Framed s o t (fieldLocs frame_1_writes a s ++ arrayLocs frame_1_arrays a s ++ staticLocs frame_1_statics s) 601024 7293034) := by
  intro l hfl _ _ p e ha hc hk s m args below hf hfit hheap happ hpre
  obtain ⟨k, o, h1, h2, h3, rfl, hF⟩ := lw_comes l hfl p e ha hc hk s m args below hf hfit hheap happ hpre
  exact ⟨k, _, h1, h2, h3, hL args s _, lw_frame hF⟩
theorem i_vc : Claimed_1_1 ∧ Claimed_1_2 := ⟨lw_limb limb_1_1 (fun args s t => by simp [limb_1_1, Cond.after, Cond.holds, Cond.value]), lw_limb limb_1_2 (fun args s t => Cond.after_iff.mpr (by
  first | (rw [show limb_1_2 = Cond.eq .result (.int 1) from rfl, Cond.eq_ints (x := 1) (y := 1) rfl rfl]; simp; done) | (simp [limb_1_2, Cond.value, Term.eval]; done)))⟩
