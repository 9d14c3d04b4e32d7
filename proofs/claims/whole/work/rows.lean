section
-- ===== PART A: goes FIRST, ahead of the names: the tables' words, and 'selects' of the private methods out of them =====
/-- a private method of a class that the tables say can be made, by its rows of tables_1 -/
def lw_okq (q : MethodName × Nat) : Prop := (q.1.cls ≠ "java/lang/invoke/MethodHandle" ∧ q.1.cls ≠ "java/lang/invoke/VarHandle") ∧ Cond.instantiable q.1.cls q.2 ∈ tables_1 ∧ Cond.privateMethod q.1 ∈ tables_1 ∧ Cond.instanceMethod q.1 ∈ tables_1
theorem lw_p0 : lw_okq (⟨"java/lang/Throwable", "fillInStackTrace", "(I)Ljava/lang/Throwable;"⟩, 6) := ⟨⟨by decide +kernel, by decide +kernel⟩, List.mem_of_getElem? (i := 232) (by decide +kernel), List.mem_of_getElem? (i := 230) (by decide +kernel), List.mem_of_getElem? (i := 231) (by decide +kernel)⟩
theorem lw_p1 : lw_okq (⟨"LassoDesk$Line", "temporalsBefore", "(I)I"⟩, 3) := ⟨⟨by decide +kernel, by decide +kernel⟩, List.mem_of_getElem? (i := 24) (by decide +kernel), List.mem_of_getElem? (i := 281) (by decide +kernel), List.mem_of_getElem? (i := 282) (by decide +kernel)⟩
theorem lw_p2 : lw_okq (⟨"LassoDesk$Line", "signAt", "(I)I"⟩, 3) := ⟨⟨by decide +kernel, by decide +kernel⟩, List.mem_of_getElem? (i := 24) (by decide +kernel), List.mem_of_getElem? (i := 285) (by decide +kernel), List.mem_of_getElem? (i := 286) (by decide +kernel)⟩
theorem lw_p3 : lw_okq (⟨"LassoDesk$Line", "readLevel", "(LLassoDesk$Formula;II)I"⟩, 3) := ⟨⟨by decide +kernel, by decide +kernel⟩, List.mem_of_getElem? (i := 24) (by decide +kernel), List.mem_of_getElem? (i := 292) (by decide +kernel), List.mem_of_getElem? (i := 293) (by decide +kernel)⟩
theorem lw_p4 : lw_okq (⟨"LassoDesk$Line", "readSimple", "(LLassoDesk$Formula;I)I"⟩, 3) := ⟨⟨by decide +kernel, by decide +kernel⟩, List.mem_of_getElem? (i := 24) (by decide +kernel), List.mem_of_getElem? (i := 296) (by decide +kernel), List.mem_of_getElem? (i := 297) (by decide +kernel)⟩
theorem lw_p5 : lw_okq (⟨"LassoDesk$Line", "readBracket", "(LLassoDesk$Formula;I)I"⟩, 3) := ⟨⟨by decide +kernel, by decide +kernel⟩, List.mem_of_getElem? (i := 24) (by decide +kernel), List.mem_of_getElem? (i := 305) (by decide +kernel), List.mem_of_getElem? (i := 306) (by decide +kernel)⟩
theorem lw_p6 : lw_okq (⟨"LassoDesk", "requireFormula", "()V"⟩, 8) := ⟨⟨by decide +kernel, by decide +kernel⟩, List.mem_of_getElem? (i := 16) (by decide +kernel), List.mem_of_getElem? (i := 333) (by decide +kernel), List.mem_of_getElem? (i := 334) (by decide +kernel)⟩
theorem lw_p7 : lw_okq (⟨"LassoDesk", "requireState", "(I)V"⟩, 8) := ⟨⟨by decide +kernel, by decide +kernel⟩, List.mem_of_getElem? (i := 16) (by decide +kernel), List.mem_of_getElem? (i := 365) (by decide +kernel), List.mem_of_getElem? (i := 366) (by decide +kernel)⟩
theorem lw_p8 : lw_okq (⟨"LassoDesk$Formula", "isPartAt", "(III)Z"⟩, 10) := ⟨⟨by decide +kernel, by decide +kernel⟩, List.mem_of_getElem? (i := 115) (by decide +kernel), List.mem_of_getElem? (i := 389) (by decide +kernel), List.mem_of_getElem? (i := 390) (by decide +kernel)⟩
theorem lw_p9 : lw_okq (⟨"LassoDesk", "settle", "()V"⟩, 8) := ⟨⟨by decide +kernel, by decide +kernel⟩, List.mem_of_getElem? (i := 16) (by decide +kernel), List.mem_of_getElem? (i := 418) (by decide +kernel), List.mem_of_getElem? (i := 419) (by decide +kernel)⟩
theorem lw_p10 : lw_okq (⟨"LassoDesk$Lasting", "lookAtStates", "(LLassoDesk$Formula;)V"⟩, 10) := ⟨⟨by decide +kernel, by decide +kernel⟩, List.mem_of_getElem? (i := 41) (by decide +kernel), List.mem_of_getElem? (i := 426) (by decide +kernel), List.mem_of_getElem? (i := 427) (by decide +kernel)⟩
theorem lw_p11 : lw_okq (⟨"LassoDesk$Formula", "isForOnce", "(I)Z"⟩, 10) := ⟨⟨by decide +kernel, by decide +kernel⟩, List.mem_of_getElem? (i := 115) (by decide +kernel), List.mem_of_getElem? (i := 441) (by decide +kernel), List.mem_of_getElem? (i := 442) (by decide +kernel)⟩
theorem lw_p12 : lw_okq (⟨"LassoDesk$Lasting", "sweepDeadEnds", "()V"⟩, 10) := ⟨⟨by decide +kernel, by decide +kernel⟩, List.mem_of_getElem? (i := 41) (by decide +kernel), List.mem_of_getElem? (i := 450) (by decide +kernel), List.mem_of_getElem? (i := 451) (by decide +kernel)⟩
theorem lw_p13 : lw_okq (⟨"LassoDesk$Lasting", "takeAway", "(I)V"⟩, 10) := ⟨⟨by decide +kernel, by decide +kernel⟩, List.mem_of_getElem? (i := 41) (by decide +kernel), List.mem_of_getElem? (i := 455) (by decide +kernel), List.mem_of_getElem? (i := 456) (by decide +kernel)⟩
theorem lw_p14 : lw_okq (⟨"LassoDesk$Lasting", "countSteps", "(I)V"⟩, 10) := ⟨⟨by decide +kernel, by decide +kernel⟩, List.mem_of_getElem? (i := 41) (by decide +kernel), List.mem_of_getElem? (i := 459) (by decide +kernel), List.mem_of_getElem? (i := 460) (by decide +kernel)⟩
theorem lw_p15 : lw_okq (⟨"LassoDesk$Lasting", "reachBefore", "(III)I"⟩, 10) := ⟨⟨by decide +kernel, by decide +kernel⟩, List.mem_of_getElem? (i := 41) (by decide +kernel), List.mem_of_getElem? (i := 463) (by decide +kernel), List.mem_of_getElem? (i := 464) (by decide +kernel)⟩
def lw_privs_1 : List (MethodName × Nat) := [(⟨"java/lang/Throwable", "fillInStackTrace", "(I)Ljava/lang/Throwable;"⟩, 6), (⟨"LassoDesk$Line", "temporalsBefore", "(I)I"⟩, 3), (⟨"LassoDesk$Line", "signAt", "(I)I"⟩, 3), (⟨"LassoDesk$Line", "readLevel", "(LLassoDesk$Formula;II)I"⟩, 3), (⟨"LassoDesk$Line", "readSimple", "(LLassoDesk$Formula;I)I"⟩, 3), (⟨"LassoDesk$Line", "readBracket", "(LLassoDesk$Formula;I)I"⟩, 3), (⟨"LassoDesk", "requireFormula", "()V"⟩, 8), (⟨"LassoDesk", "requireState", "(I)V"⟩, 8), (⟨"LassoDesk$Formula", "isPartAt", "(III)Z"⟩, 10), (⟨"LassoDesk", "settle", "()V"⟩, 8), (⟨"LassoDesk$Lasting", "lookAtStates", "(LLassoDesk$Formula;)V"⟩, 10), (⟨"LassoDesk$Formula", "isForOnce", "(I)Z"⟩, 10), (⟨"LassoDesk$Lasting", "sweepDeadEnds", "()V"⟩, 10), (⟨"LassoDesk$Lasting", "takeAway", "(I)V"⟩, 10), (⟨"LassoDesk$Lasting", "countSteps", "(I)V"⟩, 10), (⟨"LassoDesk$Lasting", "reachBefore", "(III)I"⟩, 10)]
theorem lw_r1 : ∀ q ∈ lw_privs_1, lw_okq q := List.forall_mem_cons.mpr ⟨lw_p0, List.forall_mem_cons.mpr ⟨lw_p1, List.forall_mem_cons.mpr ⟨lw_p2, List.forall_mem_cons.mpr ⟨lw_p3, List.forall_mem_cons.mpr ⟨lw_p4, List.forall_mem_cons.mpr ⟨lw_p5, List.forall_mem_cons.mpr ⟨lw_p6, List.forall_mem_cons.mpr ⟨lw_p7, List.forall_mem_cons.mpr ⟨lw_p8, List.forall_mem_cons.mpr ⟨lw_p9, List.forall_mem_cons.mpr ⟨lw_p10, List.forall_mem_cons.mpr ⟨lw_p11, List.forall_mem_cons.mpr ⟨lw_p12, List.forall_mem_cons.mpr ⟨lw_p13, List.forall_mem_cons.mpr ⟨lw_p14, List.forall_mem_cons.mpr ⟨lw_p15, fun _ h => absurd h List.not_mem_nil⟩⟩⟩⟩⟩⟩⟩⟩⟩⟩⟩⟩⟩⟩⟩⟩
theorem lw_p16 : lw_okq (⟨"LassoDesk$Lasting", "sweepUnkept", "(I)V"⟩, 10) := ⟨⟨by decide +kernel, by decide +kernel⟩, List.mem_of_getElem? (i := 41) (by decide +kernel), List.mem_of_getElem? (i := 467) (by decide +kernel), List.mem_of_getElem? (i := 468) (by decide +kernel)⟩
theorem lw_p17 : lw_okq (⟨"LassoDesk$Lasting", "stepsFrom", "(II)I"⟩, 10) := ⟨⟨by decide +kernel, by decide +kernel⟩, List.mem_of_getElem? (i := 41) (by decide +kernel), List.mem_of_getElem? (i := 471) (by decide +kernel), List.mem_of_getElem? (i := 472) (by decide +kernel)⟩
theorem lw_p18 : lw_okq (⟨"LassoDesk$Lasting", "isNearer", "(III)Z"⟩, 10) := ⟨⟨by decide +kernel, by decide +kernel⟩, List.mem_of_getElem? (i := 41) (by decide +kernel), List.mem_of_getElem? (i := 494) (by decide +kernel), List.mem_of_getElem? (i := 495) (by decide +kernel)⟩
theorem lw_p19 : lw_okq (⟨"LassoDesk", "requirePlace", "(I)V"⟩, 8) := ⟨⟨by decide +kernel, by decide +kernel⟩, List.mem_of_getElem? (i := 16) (by decide +kernel), List.mem_of_getElem? (i := 626) (by decide +kernel), List.mem_of_getElem? (i := 627) (by decide +kernel)⟩
theorem lw_p20 : lw_okq (⟨"LassoDesk$Formula", "partPlaces", "(ILLassoDesk$GivenWord;)I"⟩, 10) := ⟨⟨by decide +kernel, by decide +kernel⟩, List.mem_of_getElem? (i := 115) (by decide +kernel), List.mem_of_getElem? (i := 650) (by decide +kernel), List.mem_of_getElem? (i := 651) (by decide +kernel)⟩
theorem lw_p21 : lw_okq (⟨"LassoDeskModel", "reads", "(I)Z"⟩, 40) := ⟨⟨by decide +kernel, by decide +kernel⟩, List.mem_of_getElem? (i := 674) (by decide +kernel), List.mem_of_getElem? (i := 813) (by decide +kernel), List.mem_of_getElem? (i := 814) (by decide +kernel)⟩
theorem lw_p22 : lw_okq (⟨"LassoDeskModel", "part", "(IIII)V"⟩, 40) := ⟨⟨by decide +kernel, by decide +kernel⟩, List.mem_of_getElem? (i := 674) (by decide +kernel), List.mem_of_getElem? (i := 820) (by decide +kernel), List.mem_of_getElem? (i := 821) (by decide +kernel)⟩
theorem lw_p23 : lw_okq (⟨"LassoDeskModel", "push", "(I)V"⟩, 40) := ⟨⟨by decide +kernel, by decide +kernel⟩, List.mem_of_getElem? (i := 674) (by decide +kernel), List.mem_of_getElem? (i := 827) (by decide +kernel), List.mem_of_getElem? (i := 828) (by decide +kernel)⟩
theorem lw_p24 : lw_okq (⟨"LassoDeskModel", "settle", "(I)V"⟩, 40) := ⟨⟨by decide +kernel, by decide +kernel⟩, List.mem_of_getElem? (i := 674) (by decide +kernel), List.mem_of_getElem? (i := 834) (by decide +kernel), List.mem_of_getElem? (i := 835) (by decide +kernel)⟩
theorem lw_p25 : lw_okq (⟨"LassoDeskModel", "taken", "()I"⟩, 40) := ⟨⟨by decide +kernel, by decide +kernel⟩, List.mem_of_getElem? (i := 674) (by decide +kernel), List.mem_of_getElem? (i := 841) (by decide +kernel), List.mem_of_getElem? (i := 842) (by decide +kernel)⟩
theorem lw_p26 : lw_okq (⟨"LassoDeskModel", "count", "()I"⟩, 40) := ⟨⟨by decide +kernel, by decide +kernel⟩, List.mem_of_getElem? (i := 674) (by decide +kernel), List.mem_of_getElem? (i := 848) (by decide +kernel), List.mem_of_getElem? (i := 849) (by decide +kernel)⟩
theorem lw_p27 : lw_okq (⟨"LassoDeskModel", "look", "(I)V"⟩, 40) := ⟨⟨by decide +kernel, by decide +kernel⟩, List.mem_of_getElem? (i := 674) (by decide +kernel), List.mem_of_getElem? (i := 852) (by decide +kernel), List.mem_of_getElem? (i := 853) (by decide +kernel)⟩
theorem lw_p28 : lw_okq (⟨"LassoDeskModel", "valueOf", "(IZI)Z"⟩, 40) := ⟨⟨by decide +kernel, by decide +kernel⟩, List.mem_of_getElem? (i := 674) (by decide +kernel), List.mem_of_getElem? (i := 856) (by decide +kernel), List.mem_of_getElem? (i := 857) (by decide +kernel)⟩
theorem lw_p29 : lw_okq (⟨"LassoDeskModel", "takeOut", "()V"⟩, 40) := ⟨⟨by decide +kernel, by decide +kernel⟩, List.mem_of_getElem? (i := 674) (by decide +kernel), List.mem_of_getElem? (i := 860) (by decide +kernel), List.mem_of_getElem? (i := 861) (by decide +kernel)⟩
theorem lw_p30 : lw_okq (⟨"LassoDeskModel", "countSteps", "(I)V"⟩, 40) := ⟨⟨by decide +kernel, by decide +kernel⟩, List.mem_of_getElem? (i := 674) (by decide +kernel), List.mem_of_getElem? (i := 864) (by decide +kernel), List.mem_of_getElem? (i := 865) (by decide +kernel)⟩
theorem lw_p31 : lw_okq (⟨"LassoDeskModel", "noteSome", "()V"⟩, 40) := ⟨⟨by decide +kernel, by decide +kernel⟩, List.mem_of_getElem? (i := 674) (by decide +kernel), List.mem_of_getElem? (i := 868) (by decide +kernel), List.mem_of_getElem? (i := 869) (by decide +kernel)⟩
def lw_privs_2 : List (MethodName × Nat) := [(⟨"LassoDesk$Lasting", "sweepUnkept", "(I)V"⟩, 10), (⟨"LassoDesk$Lasting", "stepsFrom", "(II)I"⟩, 10), (⟨"LassoDesk$Lasting", "isNearer", "(III)Z"⟩, 10), (⟨"LassoDesk", "requirePlace", "(I)V"⟩, 8), (⟨"LassoDesk$Formula", "partPlaces", "(ILLassoDesk$GivenWord;)I"⟩, 10), (⟨"LassoDeskModel", "reads", "(I)Z"⟩, 40), (⟨"LassoDeskModel", "part", "(IIII)V"⟩, 40), (⟨"LassoDeskModel", "push", "(I)V"⟩, 40), (⟨"LassoDeskModel", "settle", "(I)V"⟩, 40), (⟨"LassoDeskModel", "taken", "()I"⟩, 40), (⟨"LassoDeskModel", "count", "()I"⟩, 40), (⟨"LassoDeskModel", "look", "(I)V"⟩, 40), (⟨"LassoDeskModel", "valueOf", "(IZI)Z"⟩, 40), (⟨"LassoDeskModel", "takeOut", "()V"⟩, 40), (⟨"LassoDeskModel", "countSteps", "(I)V"⟩, 40), (⟨"LassoDeskModel", "noteSome", "()V"⟩, 40)]
theorem lw_r2 : ∀ q ∈ lw_privs_2, lw_okq q := List.forall_mem_cons.mpr ⟨lw_p16, List.forall_mem_cons.mpr ⟨lw_p17, List.forall_mem_cons.mpr ⟨lw_p18, List.forall_mem_cons.mpr ⟨lw_p19, List.forall_mem_cons.mpr ⟨lw_p20, List.forall_mem_cons.mpr ⟨lw_p21, List.forall_mem_cons.mpr ⟨lw_p22, List.forall_mem_cons.mpr ⟨lw_p23, List.forall_mem_cons.mpr ⟨lw_p24, List.forall_mem_cons.mpr ⟨lw_p25, List.forall_mem_cons.mpr ⟨lw_p26, List.forall_mem_cons.mpr ⟨lw_p27, List.forall_mem_cons.mpr ⟨lw_p28, List.forall_mem_cons.mpr ⟨lw_p29, List.forall_mem_cons.mpr ⟨lw_p30, List.forall_mem_cons.mpr ⟨lw_p31, fun _ h => absurd h List.not_mem_nil⟩⟩⟩⟩⟩⟩⟩⟩⟩⟩⟩⟩⟩⟩⟩⟩
theorem lw_p32 : lw_okq (⟨"LassoDeskModel", "leadsToOne", "(I)Z"⟩, 40) := ⟨⟨by decide +kernel, by decide +kernel⟩, List.mem_of_getElem? (i := 674) (by decide +kernel), List.mem_of_getElem? (i := 872) (by decide +kernel), List.mem_of_getElem? (i := 873) (by decide +kernel)⟩
theorem lw_p33 : lw_okq (⟨"LassoDeskModel", "goWalk", "()V"⟩, 40) := ⟨⟨by decide +kernel, by decide +kernel⟩, List.mem_of_getElem? (i := 674) (by decide +kernel), List.mem_of_getElem? (i := 876) (by decide +kernel), List.mem_of_getElem? (i := 877) (by decide +kernel)⟩
theorem lw_p34 : lw_okq (⟨"LassoDeskModel", "firstState", "()I"⟩, 40) := ⟨⟨by decide +kernel, by decide +kernel⟩, List.mem_of_getElem? (i := 674) (by decide +kernel), List.mem_of_getElem? (i := 880) (by decide +kernel), List.mem_of_getElem? (i := 881) (by decide +kernel)⟩
theorem lw_p35 : lw_okq (⟨"LassoDeskModel", "dutyAt", "(II)I"⟩, 40) := ⟨⟨by decide +kernel, by decide +kernel⟩, List.mem_of_getElem? (i := 674) (by decide +kernel), List.mem_of_getElem? (i := 884) (by decide +kernel), List.mem_of_getElem? (i := 885) (by decide +kernel)⟩
theorem lw_p36 : lw_okq (⟨"LassoDeskModel", "isDue", "(II)Z"⟩, 40) := ⟨⟨by decide +kernel, by decide +kernel⟩, List.mem_of_getElem? (i := 674) (by decide +kernel), List.mem_of_getElem? (i := 888) (by decide +kernel), List.mem_of_getElem? (i := 889) (by decide +kernel)⟩
theorem lw_p37 : lw_okq (⟨"LassoDeskModel", "nextOf", "(II)I"⟩, 40) := ⟨⟨by decide +kernel, by decide +kernel⟩, List.mem_of_getElem? (i := 674) (by decide +kernel), List.mem_of_getElem? (i := 892) (by decide +kernel), List.mem_of_getElem? (i := 893) (by decide +kernel)⟩
theorem lw_p38 : lw_okq (⟨"LassoDeskModel", "goes", "(II)Z"⟩, 40) := ⟨⟨by decide +kernel, by decide +kernel⟩, List.mem_of_getElem? (i := 674) (by decide +kernel), List.mem_of_getElem? (i := 897) (by decide +kernel), List.mem_of_getElem? (i := 898) (by decide +kernel)⟩
theorem lw_p39 : lw_okq (⟨"LassoDeskModel", "refused", "(Z)Z"⟩, 40) := ⟨⟨by decide +kernel, by decide +kernel⟩, List.mem_of_getElem? (i := 674) (by decide +kernel), List.mem_of_getElem? (i := 905) (by decide +kernel), List.mem_of_getElem? (i := 906) (by decide +kernel)⟩
theorem lw_p40 : lw_okq (⟨"LassoDeskModel", "isState", "(I)Z"⟩, 40) := ⟨⟨by decide +kernel, by decide +kernel⟩, List.mem_of_getElem? (i := 674) (by decide +kernel), List.mem_of_getElem? (i := 913) (by decide +kernel), List.mem_of_getElem? (i := 914) (by decide +kernel)⟩
theorem lw_p41 : lw_okq (⟨"LassoDeskModel", "placeOf", "(I)I"⟩, 40) := ⟨⟨by decide +kernel, by decide +kernel⟩, List.mem_of_getElem? (i := 674) (by decide +kernel), List.mem_of_getElem? (i := 965) (by decide +kernel), List.mem_of_getElem? (i := 966) (by decide +kernel)⟩
theorem lw_p42 : lw_okq (⟨"LassoDeskModel", "spread", "(I)V"⟩, 40) := ⟨⟨by decide +kernel, by decide +kernel⟩, List.mem_of_getElem? (i := 674) (by decide +kernel), List.mem_of_getElem? (i := 973) (by decide +kernel), List.mem_of_getElem? (i := 974) (by decide +kernel)⟩
def lw_privs_3 : List (MethodName × Nat) := [(⟨"LassoDeskModel", "leadsToOne", "(I)Z"⟩, 40), (⟨"LassoDeskModel", "goWalk", "()V"⟩, 40), (⟨"LassoDeskModel", "firstState", "()I"⟩, 40), (⟨"LassoDeskModel", "dutyAt", "(II)I"⟩, 40), (⟨"LassoDeskModel", "isDue", "(II)Z"⟩, 40), (⟨"LassoDeskModel", "nextOf", "(II)I"⟩, 40), (⟨"LassoDeskModel", "goes", "(II)Z"⟩, 40), (⟨"LassoDeskModel", "refused", "(Z)Z"⟩, 40), (⟨"LassoDeskModel", "isState", "(I)Z"⟩, 40), (⟨"LassoDeskModel", "placeOf", "(I)I"⟩, 40), (⟨"LassoDeskModel", "spread", "(I)V"⟩, 40)]
theorem lw_r3 : ∀ q ∈ lw_privs_3, lw_okq q := List.forall_mem_cons.mpr ⟨lw_p32, List.forall_mem_cons.mpr ⟨lw_p33, List.forall_mem_cons.mpr ⟨lw_p34, List.forall_mem_cons.mpr ⟨lw_p35, List.forall_mem_cons.mpr ⟨lw_p36, List.forall_mem_cons.mpr ⟨lw_p37, List.forall_mem_cons.mpr ⟨lw_p38, List.forall_mem_cons.mpr ⟨lw_p39, List.forall_mem_cons.mpr ⟨lw_p40, List.forall_mem_cons.mpr ⟨lw_p41, List.forall_mem_cons.mpr ⟨lw_p42, fun _ h => absurd h List.not_mem_nil⟩⟩⟩⟩⟩⟩⟩⟩⟩⟩⟩
def lw_privs : List (MethodName × Nat) := lw_privs_1 ++ (lw_privs_2 ++ (lw_privs_3))
def lw_tbl : List Cond := k2_sels lw_privs ++ tables_1
theorem lw_privs_ok : ∀ q ∈ lw_privs, lw_okq q := by
  show ∀ q ∈ lw_privs_1 ++ (lw_privs_2 ++ (lw_privs_3)), lw_okq q
  exact List.forall_mem_append.mpr ⟨lw_r1, List.forall_mem_append.mpr ⟨lw_r2, lw_r3⟩⟩
theorem q_tb {w : Cond} (i : Nat) (h : tables_1[i]? = some w) : w ∈ lw_tbl := List.mem_append_right _ (List.mem_of_getElem? h)
theorem q_ts {y : MethodName} {n : Nat} (i : Nat) (h : lw_privs[i]? = some (y, n)) : Cond.selects y.cls y y ∈ lw_tbl := List.mem_append_left _ (List.mem_map.mpr ⟨(y, n), List.mem_of_getElem? h, rfl⟩)
def q_T0 : u_T := fun k => match k with
  | 0 => ("LassoDesk", "line", "LLassoDesk$Line;", true)
  | 1 => ("LassoDesk", "lastingStates", "LLassoDesk$Lasting;", true)
  | 2 => ("LassoDesk", "walk", "LLassoDesk$Walk;", true)
  | 3 => ("LassoDesk", "word", "LLassoDesk$GivenWord;", true)
  | 4 => ("LassoDesk", "current", "LLassoDesk$Formula;", false)
  | 5 => ("LassoDesk", "draft", "LLassoDesk$Formula;", false)
  | 6 => ("LassoDesk", "formed", "Z", false)
  | _ => ("LassoDesk", "settled", "Z", false)
def q_ty0 : Nat → FieldType := fun k => match k with
  | 0 => .object "LassoDesk$Line"
  | 1 => .object "LassoDesk$Lasting"
  | 2 => .object "LassoDesk$Walk"
  | 3 => .object "LassoDesk$GivenWord"
  | 4 => .object "LassoDesk$Formula"
  | 5 => .object "LassoDesk$Formula"
  | 6 => .boolean
  | _ => .boolean
theorem q_tyok0 : ∀ k, k < 8 → parseFieldDescriptor (q_T0 k).2.2.1 = some (q_ty0 k) := by decide +kernel
theorem q_nm0 : ∀ a, a < 8 → ∀ b, b < 8 → a ≠ b → (q_T0 a).2.1 ≠ (q_T0 b).2.1 := by decide +kernel
theorem q_in0 : ∀ w ∈ u_ws "LassoDesk" q_T0 8, w ∈ lw_tbl := fun w hw => by
  have e : u_ws "LassoDesk" q_T0 8 = [159, 161, 163, 165, 167, 169, 171, 173].filterMap (fun i => tables_1[i]?) := by decide +kernel
  rw [e] at hw
  obtain ⟨i, -, hi⟩ := List.mem_filterMap.mp hw
  exact q_tb i hi
def q_T1 : u_T := fun k => match k with
  | 0 => ("LassoDesk$Line", "characters", "[C", true)
  | 1 => ("LassoDesk$Line", "length", "I", false)
  | _ => ("LassoDesk$Line", "at", "I", false)
def q_ty1 : Nat → FieldType := fun k => match k with
  | 0 => .array .char
  | 1 => .int
  | _ => .int
theorem q_tyok1 : ∀ k, k < 3 → parseFieldDescriptor (q_T1 k).2.2.1 = some (q_ty1 k) := by decide +kernel
theorem q_nm1 : ∀ a, a < 3 → ∀ b, b < 3 → a ≠ b → (q_T1 a).2.1 ≠ (q_T1 b).2.1 := by decide +kernel
theorem q_in1 : ∀ w ∈ u_ws "LassoDesk$Line" q_T1 3, w ∈ lw_tbl := fun w hw => by
  have e : u_ws "LassoDesk$Line" q_T1 3 = [32, 34, 36].filterMap (fun i => tables_1[i]?) := by decide +kernel
  rw [e] at hw
  obtain ⟨i, -, hi⟩ := List.mem_filterMap.mp hw
  exact q_tb i hi
def q_T2 : u_T := fun k => match k with
  | 0 => ("LassoDesk$Formula", "sign", "[I", true)
  | 1 => ("LassoDesk$Formula", "left", "[I", true)
  | 2 => ("LassoDesk$Formula", "right", "[I", true)
  | 3 => ("LassoDesk$Formula", "number", "[I", true)
  | 4 => ("LassoDesk$Formula", "temporalPart", "[I", true)
  | 5 => ("LassoDesk$Formula", "promisePart", "[I", true)
  | 6 => ("LassoDesk$Formula", "places", "[I", true)
  | 7 => ("LassoDesk$Formula", "size", "I", false)
  | 8 => ("LassoDesk$Formula", "temporals", "I", false)
  | _ => ("LassoDesk$Formula", "promised", "I", false)
def q_ty2 : Nat → FieldType := fun k => match k with
  | 0 => .array .int
  | 1 => .array .int
  | 2 => .array .int
  | 3 => .array .int
  | 4 => .array .int
  | 5 => .array .int
  | 6 => .array .int
  | 7 => .int
  | 8 => .int
  | _ => .int
theorem q_tyok2 : ∀ k, k < 10 → parseFieldDescriptor (q_T2 k).2.2.1 = some (q_ty2 k) := by decide +kernel
theorem q_nm2 : ∀ a, a < 10 → ∀ b, b < 10 → a ≠ b → (q_T2 a).2.1 ≠ (q_T2 b).2.1 := by decide +kernel
theorem q_in2 : ∀ w ∈ u_ws "LassoDesk$Formula" q_T2 10, w ∈ lw_tbl := fun w hw => by
  have e : u_ws "LassoDesk$Formula" q_T2 10 = [130, 132, 134, 136, 138, 140, 142, 144, 146, 148].filterMap (fun i => tables_1[i]?) := by decide +kernel
  rw [e] at hw
  obtain ⟨i, -, hi⟩ := List.mem_filterMap.mp hw
  exact q_tb i hi
def q_T3 : u_T := fun k => match k with
  | 0 => ("LassoDesk$Lasting", "needed", "[I", true)
  | 1 => ("LassoDesk$Lasting", "kept", "[I", true)
  | 2 => ("LassoDesk$Lasting", "pending", "[I", true)
  | 3 => ("LassoDesk$Lasting", "whole", "[Z", true)
  | 4 => ("LassoDesk$Lasting", "inSet", "[Z", true)
  | 5 => ("LassoDesk$Lasting", "steps", "[I", true)
  | 6 => ("LassoDesk$Lasting", "queue", "[I", true)
  | 7 => ("LassoDesk$Lasting", "states", "I", false)
  | 8 => ("LassoDesk$Lasting", "promised", "I", false)
  | _ => ("LassoDesk$Lasting", "count", "I", false)
def q_ty3 : Nat → FieldType := fun k => match k with
  | 0 => .array .int
  | 1 => .array .int
  | 2 => .array .int
  | 3 => .array .boolean
  | 4 => .array .boolean
  | 5 => .array .int
  | 6 => .array .int
  | 7 => .int
  | 8 => .int
  | _ => .int
theorem q_tyok3 : ∀ k, k < 10 → parseFieldDescriptor (q_T3 k).2.2.1 = some (q_ty3 k) := by decide +kernel
theorem q_nm3 : ∀ a, a < 10 → ∀ b, b < 10 → a ≠ b → (q_T3 a).2.1 ≠ (q_T3 b).2.1 := by decide +kernel
theorem q_in3 : ∀ w ∈ u_ws "LassoDesk$Lasting" q_T3 10, w ∈ lw_tbl := fun w hw => by
  have e : u_ws "LassoDesk$Lasting" q_T3 10 = [56, 58, 60, 62, 64, 66, 68, 70, 72, 74].filterMap (fun i => tables_1[i]?) := by decide +kernel
  rw [e] at hw
  obtain ⟨i, -, hi⟩ := List.mem_filterMap.mp hw
  exact q_tb i hi
def q_T4 : u_T := fun k => match k with
  | 0 => ("LassoDesk$Walk", "row", "[I", true)
  | 1 => ("LassoDesk$Walk", "cameAt", "[I", true)
  | 2 => ("LassoDesk$Walk", "stemLength", "I", false)
  | _ => ("LassoDesk$Walk", "loopLength", "I", false)
def q_ty4 : Nat → FieldType := fun k => match k with
  | 0 => .array .int
  | 1 => .array .int
  | 2 => .int
  | _ => .int
theorem q_tyok4 : ∀ k, k < 4 → parseFieldDescriptor (q_T4 k).2.2.1 = some (q_ty4 k) := by decide +kernel
theorem q_nm4 : ∀ a, a < 4 → ∀ b, b < 4 → a ≠ b → (q_T4 a).2.1 ≠ (q_T4 b).2.1 := by decide +kernel
theorem q_in4 : ∀ w ∈ u_ws "LassoDesk$Walk" q_T4 4, w ∈ lw_tbl := fun w hw => by
  have e : u_ws "LassoDesk$Walk" q_T4 4 = [89, 91, 93, 95].filterMap (fun i => tables_1[i]?) := by decide +kernel
  rw [e] at hw
  obtain ⟨i, -, hi⟩ := List.mem_filterMap.mp hw
  exact q_tb i hi
def q_T5 : u_T := fun k => match k with
  | 0 => ("LassoDesk$GivenWord", "letters", "[I", true)
  | 1 => ("LassoDesk$GivenWord", "stemLength", "I", false)
  | _ => ("LassoDesk$GivenWord", "loopLength", "I", false)
def q_ty5 : Nat → FieldType := fun k => match k with
  | 0 => .array .int
  | 1 => .int
  | _ => .int
theorem q_tyok5 : ∀ k, k < 3 → parseFieldDescriptor (q_T5 k).2.2.1 = some (q_ty5 k) := by decide +kernel
theorem q_nm5 : ∀ a, a < 3 → ∀ b, b < 3 → a ≠ b → (q_T5 a).2.1 ≠ (q_T5 b).2.1 := by decide +kernel
theorem q_in5 : ∀ w ∈ u_ws "LassoDesk$GivenWord" q_T5 3, w ∈ lw_tbl := fun w hw => by
  have e : u_ws "LassoDesk$GivenWord" q_T5 3 = [107, 109, 111].filterMap (fun i => tables_1[i]?) := by decide +kernel
  rw [e] at hw
  obtain ⟨i, -, hi⟩ := List.mem_filterMap.mp hw
  exact q_tb i hi
def q_T6 : u_T := fun k => match k with
  | 0 => ("LassoDeskModel", "thrown", "I", false)
  | 1 => ("LassoDeskModel", "line", "[I", true)
  | 2 => ("LassoDeskModel", "typed", "I", false)
  | 3 => ("LassoDeskModel", "is", "Z", false)
  | 4 => ("LassoDeskModel", "parts", "I", false)
  | 5 => ("LassoDeskModel", "kinds", "[I", true)
  | 6 => ("LassoDeskModel", "lefts", "[I", true)
  | 7 => ("LassoDeskModel", "rights", "[I", true)
  | 8 => ("LassoDeskModel", "numbers", "[I", true)
  | 9 => ("LassoDeskModel", "temporals", "I", false)
  | 10 => ("LassoDeskModel", "temporal", "[I", true)
  | 11 => ("LassoDeskModel", "promised", "I", false)
  | 12 => ("LassoDeskModel", "promise", "[I", true)
  | 13 => ("LassoDeskModel", "newParts", "I", false)
  | 14 => ("LassoDeskModel", "newKinds", "[I", true)
  | 15 => ("LassoDeskModel", "newLefts", "[I", true)
  | 16 => ("LassoDeskModel", "newRights", "[I", true)
  | 17 => ("LassoDeskModel", "newNumbers", "[I", true)
  | 18 => ("LassoDeskModel", "newTemporals", "I", false)
  | 19 => ("LassoDeskModel", "loose", "[I", true)
  | 20 => ("LassoDeskModel", "looseCount", "I", false)
  | 21 => ("LassoDeskModel", "open", "[I", true)
  | 22 => ("LassoDeskModel", "opens", "I", false)
  | 23 => ("LassoDeskModel", "wants", "[I", true)
  | 24 => ("LassoDeskModel", "so", "[Z", true)
  | 25 => ("LassoDeskModel", "openAt", "[I", true)
  | 26 => ("LassoDeskModel", "keptAt", "[I", true)
  | 27 => ("LassoDeskModel", "values", "[Z", true)
  | 28 => ("LassoDeskModel", "lasting", "[Z", true)
  | 29 => ("LassoDeskModel", "comes", "[Z", true)
  | 30 => ("LassoDeskModel", "some", "[Z", true)
  | 31 => ("LassoDeskModel", "steps", "[I", true)
  | 32 => ("LassoDeskModel", "stemOf", "I", false)
  | 33 => ("LassoDeskModel", "loopOf", "I", false)
  | 34 => ("LassoDeskModel", "walk", "[I", true)
  | 35 => ("LassoDeskModel", "seen", "[I", true)
  | 36 => ("LassoDeskModel", "stemLength", "I", false)
  | 37 => ("LassoDeskModel", "loopLength", "I", false)
  | 38 => ("LassoDeskModel", "letters", "[I", true)
  | _ => ("LassoDeskModel", "at", "[Z", true)
def q_ty6 : Nat → FieldType := fun k => match k with
  | 0 => .int
  | 1 => .array .int
  | 2 => .int
  | 3 => .boolean
  | 4 => .int
  | 5 => .array .int
  | 6 => .array .int
  | 7 => .array .int
  | 8 => .array .int
  | 9 => .int
  | 10 => .array .int
  | 11 => .int
  | 12 => .array .int
  | 13 => .int
  | 14 => .array .int
  | 15 => .array .int
  | 16 => .array .int
  | 17 => .array .int
  | 18 => .int
  | 19 => .array .int
  | 20 => .int
  | 21 => .array .int
  | 22 => .int
  | 23 => .array .int
  | 24 => .array .boolean
  | 25 => .array .int
  | 26 => .array .int
  | 27 => .array .boolean
  | 28 => .array .boolean
  | 29 => .array .boolean
  | 30 => .array .boolean
  | 31 => .array .int
  | 32 => .int
  | 33 => .int
  | 34 => .array .int
  | 35 => .array .int
  | 36 => .int
  | 37 => .int
  | 38 => .array .int
  | _ => .array .boolean
theorem q_tyok6 : ∀ k, k < 40 → parseFieldDescriptor (q_T6 k).2.2.1 = some (q_ty6 k) := by decide +kernel
theorem q_nm6 : ∀ a, a < 40 → ∀ b, b < 40 → a ≠ b → (q_T6 a).2.1 ≠ (q_T6 b).2.1 := by decide +kernel
theorem q_in6 : ∀ w ∈ u_ws "LassoDeskModel" q_T6 40, w ∈ lw_tbl := fun w hw => by
  have e : u_ws "LassoDeskModel" q_T6 40 = [719, 721, 723, 725, 727, 729, 731, 733, 735, 737, 739, 741, 743, 745, 747, 749, 751, 753, 755, 757, 759, 761, 763, 765, 767, 769, 771, 773, 775, 777, 779, 781, 783, 785, 787, 789, 791, 793, 795, 797].filterMap (fun i => tables_1[i]?) := by decide +kernel
  rw [e] at hw
  obtain ⟨i, -, hi⟩ := List.mem_filterMap.mp hw
  exact q_tb i hi
abbrev q_cl : List vw_C := [("LassoDesk", q_T0, 8), ("LassoDesk$Line", q_T1, 3), ("LassoDesk$Formula", q_T2, 10), ("LassoDesk$Lasting", q_T3, 10), ("LassoDesk$Walk", q_T4, 4), ("LassoDesk$GivenWord", q_T5, 3), ("LassoDeskModel", q_T6, 40)]
theorem q_cl_ok : ∀ (ci : Nat) (C : String) (T : u_T) (N : Nat), q_cl[ci]? = some (C, T, N) → (∀ w ∈ u_ws C T N, w ∈ lw_tbl) ∧ (∃ ty0 : Nat → FieldType, ∀ k, k < N → parseFieldDescriptor (T k).2.2.1 = some (ty0 k)) ∧ ∀ a, a < N → ∀ b, b < N → a ≠ b → (T a).2.1 ≠ (T b).2.1
  | 0, _, _, _, h => by cases h; exact ⟨q_in0, ⟨q_ty0, q_tyok0⟩, q_nm0⟩
  | 1, _, _, _, h => by cases h; exact ⟨q_in1, ⟨q_ty1, q_tyok1⟩, q_nm1⟩
  | 2, _, _, _, h => by cases h; exact ⟨q_in2, ⟨q_ty2, q_tyok2⟩, q_nm2⟩
  | 3, _, _, _, h => by cases h; exact ⟨q_in3, ⟨q_ty3, q_tyok3⟩, q_nm3⟩
  | 4, _, _, _, h => by cases h; exact ⟨q_in4, ⟨q_ty4, q_tyok4⟩, q_nm4⟩
  | 5, _, _, _, h => by cases h; exact ⟨q_in5, ⟨q_ty5, q_tyok5⟩, q_nm5⟩
  | 6, _, _, _, h => by cases h; exact ⟨q_in6, ⟨q_ty6, q_tyok6⟩, q_nm6⟩
  | _ + 7, _, _, _, h => by simp at h
def q_ftl : List (List (FieldType × Bool)) := [[(.object "LassoDesk$Line", true), (.object "LassoDesk$Lasting", true), (.object "LassoDesk$Walk", true), (.object "LassoDesk$GivenWord", true), (.object "LassoDesk$Formula", false), (.object "LassoDesk$Formula", false), (.boolean, false), (.boolean, false)], [(.array .char, true), (.int, false), (.int, false)], [(.array .int, true), (.array .int, true), (.array .int, true), (.array .int, true), (.array .int, true), (.array .int, true), (.array .int, true), (.int, false), (.int, false), (.int, false)], [(.array .int, true), (.array .int, true), (.array .int, true), (.array .boolean, true), (.array .boolean, true), (.array .int, true), (.array .int, true), (.int, false), (.int, false), (.int, false)], [(.array .int, true), (.array .int, true), (.int, false), (.int, false)], [(.array .int, true), (.int, false), (.int, false)], [(.int, false), (.array .int, true), (.int, false), (.boolean, false), (.int, false), (.array .int, true), (.array .int, true), (.array .int, true), (.array .int, true), (.int, false), (.array .int, true), (.int, false), (.array .int, true), (.int, false), (.array .int, true), (.array .int, true), (.array .int, true), (.array .int, true), (.int, false), (.array .int, true), (.int, false), (.array .int, true), (.int, false), (.array .int, true), (.array .boolean, true), (.array .int, true), (.array .int, true), (.array .boolean, true), (.array .boolean, true), (.array .boolean, true), (.array .boolean, true), (.array .int, true), (.int, false), (.int, false), (.array .int, true), (.array .int, true), (.int, false), (.int, false), (.array .int, true), (.array .boolean, true)]]
def q_fty (ci f : Nat) : Option (FieldType × Bool) := (q_ftl[ci]?).bind fun l => l[f]?
theorem q_ftok0 : ∀ f, f < 8 → ∀ q, q_fty 0 f = some q → (q_T0 f).2.2.2 = q.2 ∧ parseFieldDescriptor (q_T0 f).2.2.1 = some q.1 := by
  intro f hf q hq
  have h : ∀ f, f < 8 → q_fty 0 f = some (q_ty0 f, (q_T0 f).2.2.2) := by decide +kernel
  rw [h f hf] at hq
  cases hq
  exact ⟨rfl, q_tyok0 f hf⟩
theorem q_ftok1 : ∀ f, f < 3 → ∀ q, q_fty 1 f = some q → (q_T1 f).2.2.2 = q.2 ∧ parseFieldDescriptor (q_T1 f).2.2.1 = some q.1 := by
  intro f hf q hq
  have h : ∀ f, f < 3 → q_fty 1 f = some (q_ty1 f, (q_T1 f).2.2.2) := by decide +kernel
  rw [h f hf] at hq
  cases hq
  exact ⟨rfl, q_tyok1 f hf⟩
theorem q_ftok2 : ∀ f, f < 10 → ∀ q, q_fty 2 f = some q → (q_T2 f).2.2.2 = q.2 ∧ parseFieldDescriptor (q_T2 f).2.2.1 = some q.1 := by
  intro f hf q hq
  have h : ∀ f, f < 10 → q_fty 2 f = some (q_ty2 f, (q_T2 f).2.2.2) := by decide +kernel
  rw [h f hf] at hq
  cases hq
  exact ⟨rfl, q_tyok2 f hf⟩
theorem q_ftok3 : ∀ f, f < 10 → ∀ q, q_fty 3 f = some q → (q_T3 f).2.2.2 = q.2 ∧ parseFieldDescriptor (q_T3 f).2.2.1 = some q.1 := by
  intro f hf q hq
  have h : ∀ f, f < 10 → q_fty 3 f = some (q_ty3 f, (q_T3 f).2.2.2) := by decide +kernel
  rw [h f hf] at hq
  cases hq
  exact ⟨rfl, q_tyok3 f hf⟩
theorem q_ftok4 : ∀ f, f < 4 → ∀ q, q_fty 4 f = some q → (q_T4 f).2.2.2 = q.2 ∧ parseFieldDescriptor (q_T4 f).2.2.1 = some q.1 := by
  intro f hf q hq
  have h : ∀ f, f < 4 → q_fty 4 f = some (q_ty4 f, (q_T4 f).2.2.2) := by decide +kernel
  rw [h f hf] at hq
  cases hq
  exact ⟨rfl, q_tyok4 f hf⟩
theorem q_ftok5 : ∀ f, f < 3 → ∀ q, q_fty 5 f = some q → (q_T5 f).2.2.2 = q.2 ∧ parseFieldDescriptor (q_T5 f).2.2.1 = some q.1 := by
  intro f hf q hq
  have h : ∀ f, f < 3 → q_fty 5 f = some (q_ty5 f, (q_T5 f).2.2.2) := by decide +kernel
  rw [h f hf] at hq
  cases hq
  exact ⟨rfl, q_tyok5 f hf⟩
theorem q_ftok6 : ∀ f, f < 40 → ∀ q, q_fty 6 f = some q → (q_T6 f).2.2.2 = q.2 ∧ parseFieldDescriptor (q_T6 f).2.2.1 = some q.1 := by
  intro f hf q hq
  have h : ∀ f, f < 40 → q_fty 6 f = some (q_ty6 f, (q_T6 f).2.2.2) := by decide +kernel
  rw [h f hf] at hq
  cases hq
  exact ⟨rfl, q_tyok6 f hf⟩
theorem q_fty_ok : ∀ {ci f : Nat} {C : String} {T : u_T} {N : Nat} {ty : FieldType} {b : Bool}, q_cl[ci]? = some (C, T, N) → f < N → q_fty ci f = some (ty, b) → (T f).2.2.2 = b ∧ parseFieldDescriptor (T f).2.2.1 = some ty
  | 0, _, _, _, _, _, _, h, hf, hq => by cases h; exact q_ftok0 _ hf _ hq
  | 1, _, _, _, _, _, _, h, hf, hq => by cases h; exact q_ftok1 _ hf _ hq
  | 2, _, _, _, _, _, _, h, hf, hq => by cases h; exact q_ftok2 _ hf _ hq
  | 3, _, _, _, _, _, _, h, hf, hq => by cases h; exact q_ftok3 _ hf _ hq
  | 4, _, _, _, _, _, _, h, hf, hq => by cases h; exact q_ftok4 _ hf _ hq
  | 5, _, _, _, _, _, _, h, hf, hq => by cases h; exact q_ftok5 _ hf _ hq
  | 6, _, _, _, _, _, _, h, hf, hq => by cases h; exact q_ftok6 _ hf _ hq
  | _ + 7, _, _, _, _, _, _, h, _, _ => by simp at h
def q_NT : Nat := 60
def q_PO : Nat := 59
def q_ex (k : Nat) : String := match k with
  | 0 => "java/lang/IllegalArgumentException"
  | 1 => "java/lang/IllegalStateException"
  | _ => "java/lang/IndexOutOfBoundsException"
end
section
/-! THE ABSTRACT WALK. A world is a list of cells, the k-th of them at the address g.1 + k (g.1: the heap's size at the law's entry; nothing else is made while the world is made); references in it, on the stack and in the locals are places. AW: from this point of a method the machine comes to the method's end with the result r. -/
def q_cv (g : Nat × Nat) (v : Value) : Value := match v with
  | .ref k => .ref (if k < 900 then g.1 + k else g.2)
  | w => w
theorem q_cv_cat (g : Nat × Nat) (v : Value) : (q_cv g v).category = v.category := by cases v <;> rfl
def q_ce (g : Nat × Nat) (e : va_E) : va_E := match e with
  | .inl a => .inl a
  | .inr o => .inr (o.1, o.2.map (q_cv g))
def q_wz (g : Nat × Nat) (ws : List va_E) : va_W := ws.mapIdx fun k e => (g.1 + k, q_ce g e)
theorem q_wz_at {g : Nat × Nat} {ws : List va_E} {k : Nat} {e : va_E} (h : ws[k]? = some e) : (q_wz g ws)[k]? = some (g.1 + k, q_ce g e) := by
  simp [q_wz, List.getElem?_mapIdx, h]
theorem q_wz_set {g : Nat × Nat} {ws : List va_E} {k : Nat} {e : va_E} : (q_wz g ws).set k (g.1 + k, q_ce g e) = q_wz g (ws.set k e) := by
  apply List.ext_getElem?
  intro i
  by_cases h : k = i
  · subst h
    by_cases h2 : k < ws.length
    · simp [q_wz, List.getElem?_mapIdx, List.getElem?_set, h2]
    · simp [q_wz, List.getElem?_mapIdx, List.getElem?_set, h2]
  · simp [q_wz, List.getElem?_mapIdx, List.getElem?_set, h]
theorem q_wz_push {g : Nat × Nat} {ws : List va_E} {e : va_E} : q_wz g ws ++ [(g.1 + ws.length, q_ce g e)] = q_wz g (ws ++ [e]) := by
  simp [q_wz, List.mapIdx_append]
abbrev q_A (g : Nat × Nat) : Nat → Prop := fun q => g.1 ≤ q
theorem q_D (g : Nat × Nat) (ws : List va_E) : va_D (q_A g) (q_wz g ws) := by
  refine ⟨fun i j p q hi hj e => ?_, fun k q hk => ?_⟩
  · simp only [q_wz, List.getElem?_mapIdx, Option.map_eq_some_iff] at hi hj
    obtain ⟨a, -, rfl⟩ := hi
    obtain ⟨b, -, rfl⟩ := hj
    have e' : g.1 + i = g.1 + j := e
    omega
  · simp only [q_wz, List.getElem?_mapIdx, Option.map_eq_some_iff] at hk
    obtain ⟨a, -, rfl⟩ := hk
    exact Nat.le_add_right _ _
def q_lv (g : Nat × Nat) (lv : List (Nat × Value)) : List (Nat × Value) := lv.map fun q => (q.1, q_cv g q.2)
theorem q_lv_at {g : Nat × Nat} {lv : List (Nat × Value)} {k i : Nat} {v : Value} (h : lv[k]? = some (i, v)) : (q_lv g lv)[k]? = some (i, q_cv g v) := by
  simp [q_lv, h]
theorem q_lv_put (g : Nat × Nat) (lv : List (Nat × Value)) (i : Nat) (v : Value) :
    (i, q_cv g v) :: (q_lv g lv).filter (fun q => !(q.1 == i) && !(q.1 + 1 == i && q.2.category == 2)) = q_lv g ((i, v) :: lv.filter (fun q => !(q.1 == i) && !(q.1 + 1 == i && q.2.category == 2))) := by
  simp only [q_lv, List.map_cons, List.filter_map]
  congr 2
  apply List.filter_congr
  intro q _
  simp [q_cv_cat]
theorem q_lv_pick (g : Nat × Nat) (lv : List (Nat × Value)) (ks : List Nat) : lv_pick (q_lv g lv) ks = q_lv g (lv_pick lv ks) := by
  simp only [lv_pick, q_lv, List.map_filterMap, List.getElem?_map]
/-- the law's entry: the launch, the state there, the classes' numbers and slots, the array classes, the script -/
abbrev q_E : Type := Launch × State × va_G × (Nat → ClassId) × Nat × Nat × (Nat → Int32)
abbrev q_l (E : q_E) : Launch := E.1
abbrev q_s (E : q_E) : State := E.2.1
abbrev q_DD (E : q_E) : va_G := E.2.2.1
abbrev q_kA (E : q_E) : Nat → ClassId := E.2.2.2.1
abbrev q_g (E : q_E) : Nat × Nat := (E.2.1.heap.size, E.2.2.2.2.1)
abbrev q_L (E : q_E) : Nat := E.2.2.2.2.2.1
abbrev q_xs (E : q_E) : Nat → Int32 := E.2.2.2.2.2.2
def q_tys (E : q_E) : List (ClassId × FieldType) := [(q_kA E 0, .int), (q_kA E 1, .boolean), (q_kA E 2, .char), (q_kA E 3, .long)]
/-- what holds of the law's entry -/
def q_S0 (E : q_E) : Prop := (∀ w ∈ lw_tbl, w.before #[Value.ref (q_g E).2] (q_s E) = true) ∧ va_K (q_DD E) q_cl (q_tys E) (q_s E) ∧ va_X (q_g E).2 (q_L E) (q_xs E) (q_s E) (q_s E).heap ∧ (q_g E).2 < (q_g E).1 ∧ (q_l E).flags = flags0 ∧ (Jvm.Cond.and given_1 narrow_1).before #[Value.ref (q_g E).2] (q_s E) = true ∧ q_L E ≤ 1536
/-- a later state: warmer tables, the old cells as they were -/
def q_St (E : q_E) (s : State) : Prop := (q_s E).WarmedH s.vm ∧ (q_s E).heap.size ≤ s.heap.size ∧ ∀ q : Nat, q < (q_s E).heap.size → s.heap[q]? = (q_s E).heap[q]?
theorem q_St.K {E : q_E} {s : State} (h : q_St E s) (h0 : q_S0 E) : va_K (q_DD E) q_cl (q_tys E) s := va_K.moved h.1.alike h0.2.1
theorem q_w {E : q_E} {s : State} {args : Array Value} (h0 : q_S0 E) (h : q_St E s) {w : Cond} (hw : w ∈ lw_tbl) (hg : (w.onTables && w.keeps) = true) : w.before args s = true := word_at h.1 (Or.inl hg) (h0.1 w hw)
theorem q_wA {E : q_E} {s : State} {args : Array Value} (h0 : q_S0 E) (h : q_St E s) {ty : FieldType} (hw : Cond.arrayClass ty ∈ lw_tbl) : (Cond.arrayClass ty).before args s = true := word_at h.1 (Or.inr ⟨ty, rfl⟩) (h0.1 _ hw)
theorem q_wM {E : q_E} {s : State} {args : Array Value} (h0 : q_S0 E) (h : q_St E s) {a : String} {i : Nat} {x : MethodName} {ho : String} (hw : Cond.methodLinkNest a i x ho ∈ lw_tbl) : (Cond.methodLinkNest a i x ho).before args s = true := va_Nw.use rfl (va_Nw.warmM h.1 (va_Nw.of rfl (h0.1 _ hw)))
theorem q_St.to {E : q_E} {s U : State} {H : Heap} {locs : List Loc} (h : q_St E s) (hS : va_S (q_A (q_g E)) s.heap H locs) (hU : U.heap = H) (hW : s.WarmedH U.vm) : q_St E U := by
  refine ⟨State.WarmedH.trans h.1 hW, by rw [hU]; exact Nat.le_trans h.2.1 hS.1, fun q hq => ?_⟩
  rw [hU, hS.2.1 q (Nat.lt_of_lt_of_le hq h.2.1) (fun h' => absurd h' (Nat.not_le.mpr hq))]
  exact h.2.2 q hq
/-- a world's cells lie in the heap -/
theorem q_len {D : va_G} {cl : List vw_C} {g : Nat × Nat} {ws : List va_E} {H : Heap} (h : va_P D cl (q_wz g ws) H) (h0 : g.1 ≤ H.size) : g.1 + ws.length ≤ H.size := by
  by_cases hz : ws.length = 0
  · omega
  · obtain ⟨e, he⟩ : ∃ e, ws[ws.length - 1]? = some e := ⟨_, List.getElem?_eq_getElem (by omega)⟩
    have h1 : g.1 + (ws.length - 1) < H.size := (h _ _ (q_wz_at he)).lt
    omega
/-- an end: returned, or threw an object of the k-th kind -/
def q_Out (E : q_E) (x : Option Value ⊕ Nat) (o : Outcome) (s t : State) : Prop := match x with
  | .inl v => o = .returned (v.map (q_cv (q_g E)))
  | .inr k => ∃ (a : Addr) (cell : Cell), o = .threw a ∧ (q_g E).1 ≤ a ∧ t.heap[a]? = some cell ∧ cell.vm = .none ∧ s.vm.findClass (q_ex k) = some cell.cls ∧ s.vm.assignable cell.cls cell.cls = true
/-- a result: the end, the world behind it, how many cells and slots at the most were made -/
abbrev q_R : Type := (Option Value ⊕ Nat) × List va_E × Nat × Nat
def q_Q (E : q_E) (r : q_R) (s : State) (o : Outcome) (t : State) : Prop :=
  q_Out E r.1 o s t ∧ va_P (q_DD E) q_cl (q_wz (q_g E) r.2.1) t.heap ∧ va_F (q_A (q_g E)) s t ∧ s.WarmedH t.vm ∧ ∃ Lc : List Loc, s.sameButNew ({ t with vm := s.vm } : State) Lc r.2.2.1 r.2.2.2 ∧ ∀ q ∈ Lc, q_A (q_g E) q.base
def q_End (E : q_E) (r : q_R) (s : State) (below : List Frame) (t : State) : Prop := ∃ o, t.status = .running ∧ Ended t below o ∧ q_Q E r s o t
/-- a method: code, locals, result type, class, name, handlers; and, while the world is being made, how many cells of it are there at the method's entry -/
abbrev q_M : Type := ByteArray × Nat × Option FieldType × String × String × List (Nat × Nat × Nat × Nat) × Option Nat
def q_Cx (E : q_E) (M : q_M) (p : Program) (s : State) (m : MethodId) (meth : Method) (c : Code) : Prop :=
  q_S0 E ∧ q_St E s ∧ p.tables.exec = Jvm.exec ∧ c.code = M.1 ∧ c.maxLocals = M.2.1 ∧ meth.sig.returnType = M.2.2.1 ∧ meth.locks = false ∧ c.exceptionTable.toList.map (fun h => (h.startPc, h.endPc, h.handlerPc, h.catchType)) = M.2.2.2.2.2.1 ∧ s.vm.findClass M.2.2.2.1 = some m.cls ∧ meth.name = M.2.2.2.2.1 ∧ ∀ k, M.2.2.2.2.2.2 = some k → s.heap.size = (q_g E).1 + k
def AW (E : q_E) (R : Room) (M : q_M) (ws : List va_E) (ce sl pc : Nat) (lv : List (Nat × Value)) (st : List Value) (r : q_R) : Prop :=
  ∀ (p : Program) (e : Env) (s : State) (m : MethodId) (args : Array Value) (below : List Frame) (meth : Method) (c : Code) (H : Heap) (locs : List Loc) (ls : Array Slot),
    q_Cx E M p s m meth c → va_P (q_DD E) q_cl (q_wz (q_g E) ws) H → va_S (q_A (q_g E)) s.heap H locs → lv_has ls M.2.1 (q_lv (q_g E) lv) →
    W p (q_l E) e R s m args below meth c H locs ce sl (q_End E r s below) (F0 m pc ls (st.map (q_cv (q_g E))))
theorem q_mono {p : Program} {l : Launch} {e : Env} {R : Room} {s : State} {m : MethodId} {args : Array Value} {below : List Frame} {meth : Method} {c : Code} {H : Heap} {locs : List Loc} {cells slots : Nat} {Q Q' : State → Prop} {g : JFrame} (h : ∀ t, Q t → Q' t) (k : W p l e R s m args below meth c H locs cells slots Q g) : W p l e R s m args below meth c H locs cells slots Q' g :=
  fun T hT X => let ⟨t, a, b⟩ := k T hT X; ⟨t, a, h t b⟩
/-- the heap is no larger than the cells made say -/
theorem q_size {p : Program} {l : Launch} {e : Env} {R : Room} {s : State} {m : MethodId} {args : Array Value} {below : List Frame} {meth : Method} {c : Code} {H : Heap} {locs : List Loc} {cells slots : Nat} {Q : State → Prop} {g : JFrame} (k : H.size ≤ s.heap.size + cells → W p l e R s m args below meth c H locs cells slots Q g) : W p l e R s m args below meth c H locs cells slots Q g :=
  fun T hT X => k (by rw [← hT]; exact X.heapSize) T hT X
section QR
variable {E : q_E} {R : Room} {M : q_M} {ws : List va_E} {ce sl pc : Nat} {lv : List (Nat × Value)} {st : List Value} {r : q_R}
theorem q_iadd {x y : Int32} (n : Nat) (hd : decode M.1 pc = .ok (.iadd, 1)) (hn : pc + 1 = n) (k : AW E R M ws ce sl n lv (.int (x + y) :: st) r) : AW E R M ws ce sl pc lv (.int y :: .int x :: st) r := by
  subst hn
  intro p e s m args below meth c H locs ls hC hP hS hl
  obtain ⟨h0, ht, hx, hb, hml, hr, hlk, hh, hown, hnm, hn0⟩ := id hC
  exact lv_iadd hx hb hd (k p e s m args below meth c H locs ls hC hP hS hl)
theorem q_isub {x y : Int32} (n : Nat) (hd : decode M.1 pc = .ok (.isub, 1)) (hn : pc + 1 = n) (k : AW E R M ws ce sl n lv (.int (x - y) :: st) r) : AW E R M ws ce sl pc lv (.int y :: .int x :: st) r := by
  subst hn
  intro p e s m args below meth c H locs ls hC hP hS hl
  obtain ⟨h0, ht, hx, hb, hml, hr, hlk, hh, hown, hnm, hn0⟩ := id hC
  exact lv_isub hx hb hd (k p e s m args below meth c H locs ls hC hP hS hl)
theorem q_imul {x y : Int32} (n : Nat) (hd : decode M.1 pc = .ok (.imul, 1)) (hn : pc + 1 = n) (k : AW E R M ws ce sl n lv (.int (x * y) :: st) r) : AW E R M ws ce sl pc lv (.int y :: .int x :: st) r := by
  subst hn
  intro p e s m args below meth c H locs ls hC hP hS hl
  obtain ⟨h0, ht, hx, hb, hml, hr, hlk, hh, hown, hnm, hn0⟩ := id hC
  exact lv_imul hx hb hd (k p e s m args below meth c H locs ls hC hP hS hl)
theorem q_iand {x y : Int32} (n : Nat) (hd : decode M.1 pc = .ok (.iand, 1)) (hn : pc + 1 = n) (k : AW E R M ws ce sl n lv (.int (x &&& y) :: st) r) : AW E R M ws ce sl pc lv (.int y :: .int x :: st) r := by
  subst hn
  intro p e s m args below meth c H locs ls hC hP hS hl
  obtain ⟨h0, ht, hx, hb, hml, hr, hlk, hh, hown, hnm, hn0⟩ := id hC
  exact lv_iand hx hb hd (k p e s m args below meth c H locs ls hC hP hS hl)
theorem q_ior {x y : Int32} (n : Nat) (hd : decode M.1 pc = .ok (.ior, 1)) (hn : pc + 1 = n) (k : AW E R M ws ce sl n lv (.int (x ||| y) :: st) r) : AW E R M ws ce sl pc lv (.int y :: .int x :: st) r := by
  subst hn
  intro p e s m args below meth c H locs ls hC hP hS hl
  obtain ⟨h0, ht, hx, hb, hml, hr, hlk, hh, hown, hnm, hn0⟩ := id hC
  exact lv_ior hx hb hd (k p e s m args below meth c H locs ls hC hP hS hl)
theorem q_ixor {x y : Int32} (n : Nat) (hd : decode M.1 pc = .ok (.ixor, 1)) (hn : pc + 1 = n) (k : AW E R M ws ce sl n lv (.int (x ^^^ y) :: st) r) : AW E R M ws ce sl pc lv (.int y :: .int x :: st) r := by
  subst hn
  intro p e s m args below meth c H locs ls hC hP hS hl
  obtain ⟨h0, ht, hx, hb, hml, hr, hlk, hh, hown, hnm, hn0⟩ := id hC
  exact lv_ixor hx hb hd (k p e s m args below meth c H locs ls hC hP hS hl)
theorem q_ishl {x y : Int32} (n : Nat) (hd : decode M.1 pc = .ok (.ishl, 1)) (hn : pc + 1 = n) (k : AW E R M ws ce sl n lv (.int (x <<< (y &&& 31)) :: st) r) : AW E R M ws ce sl pc lv (.int y :: .int x :: st) r := by
  subst hn
  intro p e s m args below meth c H locs ls hC hP hS hl
  obtain ⟨h0, ht, hx, hb, hml, hr, hlk, hh, hown, hnm, hn0⟩ := id hC
  exact lv_ishl hx hb hd (k p e s m args below meth c H locs ls hC hP hS hl)
theorem q_ishr {x y : Int32} (n : Nat) (hd : decode M.1 pc = .ok (.ishr, 1)) (hn : pc + 1 = n) (k : AW E R M ws ce sl n lv (.int (x >>> (y &&& 31)) :: st) r) : AW E R M ws ce sl pc lv (.int y :: .int x :: st) r := by
  subst hn
  intro p e s m args below meth c H locs ls hC hP hS hl
  obtain ⟨h0, ht, hx, hb, hml, hr, hlk, hh, hown, hnm, hn0⟩ := id hC
  exact lv_ishr hx hb hd (k p e s m args below meth c H locs ls hC hP hS hl)
theorem q_iushr {x y : Int32} (n : Nat) (hd : decode M.1 pc = .ok (.iushr, 1)) (hn : pc + 1 = n) (k : AW E R M ws ce sl n lv (.int ((x.toUInt32 >>> (y.toUInt32 &&& Int32.toUInt32 31)).toInt32) :: st) r) : AW E R M ws ce sl pc lv (.int y :: .int x :: st) r := by
  subst hn
  intro p e s m args below meth c H locs ls hC hP hS hl
  obtain ⟨h0, ht, hx, hb, hml, hr, hlk, hh, hown, hnm, hn0⟩ := id hC
  exact lv_iushr hx hb hd rfl (k p e s m args below meth c H locs ls hC hP hS hl)
theorem q_irem {x y : Int32} (n : Nat) (hd : decode M.1 pc = .ok (.irem, 1)) (hn : pc + 1 = n) (hne : ¬ y = 0) (k : AW E R M ws ce sl n lv (.int (x - x / y * y) :: st) r) : AW E R M ws ce sl pc lv (.int y :: .int x :: st) r := by
  subst hn
  intro p e s m args below meth c H locs ls hC hP hS hl
  obtain ⟨h0, ht, hx, hb, hml, hr, hlk, hh, hown, hnm, hn0⟩ := id hC
  exact lv_irem hx hb hd hne (k p e s m args below meth c H locs ls hC hP hS hl)
theorem q_idiv {x y : Int32} (n : Nat) (hd : decode M.1 pc = .ok (.idiv, 1)) (hn : pc + 1 = n) (hne : ¬ y = 0) (k : AW E R M ws ce sl n lv (.int (x / y) :: st) r) : AW E R M ws ce sl pc lv (.int y :: .int x :: st) r := by
  subst hn
  intro p e s m args below meth c H locs ls hC hP hS hl
  obtain ⟨h0, ht, hx, hb, hml, hr, hlk, hh, hown, hnm, hn0⟩ := id hC
  exact lv_idiv hx hb hd hne (k p e s m args below meth c H locs ls hC hP hS hl)
theorem q_ineg {x : Int32} (n : Nat) (hd : decode M.1 pc = .ok (.ineg, 1)) (hn : pc + 1 = n) (k : AW E R M ws ce sl n lv (.int (-x) :: st) r) : AW E R M ws ce sl pc lv (.int x :: st) r := by
  subst hn
  intro p e s m args below meth c H locs ls hC hP hS hl
  obtain ⟨h0, ht, hx, hb, hml, hr, hlk, hh, hown, hnm, hn0⟩ := id hC
  exact lv_ineg hx hb hd (k p e s m args below meth c H locs ls hC hP hS hl)
theorem q_i2l {x : Int32} (n : Nat) (hd : decode M.1 pc = .ok (.i2l, 1)) (hn : pc + 1 = n) (k : AW E R M ws ce sl n lv (.long x.toInt64 :: st) r) : AW E R M ws ce sl pc lv (.int x :: st) r := by
  subst hn
  intro p e s m args below meth c H locs ls hC hP hS hl
  obtain ⟨h0, ht, hx, hb, hml, hr, hlk, hh, hown, hnm, hn0⟩ := id hC
  exact lv_i2l hx hb hd rfl (k p e s m args below meth c H locs ls hC hP hS hl)
theorem q_i2c {x : Int32} (n : Nat) (hd : decode M.1 pc = .ok (.i2c, 1)) (hn : pc + 1 = n) (k : AW E R M ws ce sl n lv (.int (x.toUInt32 % 65536).toInt32 :: st) r) : AW E R M ws ce sl pc lv (.int x :: st) r := by
  subst hn
  intro p e s m args below meth c H locs ls hC hP hS hl
  obtain ⟨h0, ht, hx, hb, hml, hr, hlk, hh, hown, hnm, hn0⟩ := id hC
  exact lv_i2c hx hb hd rfl (k p e s m args below meth c H locs ls hC hP hS hl)
theorem q_lcmp {x y : Int64} (n : Nat) (hd : decode M.1 pc = .ok (.lcmp, 1)) (hn : pc + 1 = n) (k : AW E R M ws ce sl n lv (.int (lg_cmp x y) :: st) r) : AW E R M ws ce sl pc lv (.long y :: .long x :: st) r := by
  subst hn
  intro p e s m args below meth c H locs ls hC hP hS hl
  obtain ⟨h0, ht, hx, hb, hml, hr, hlk, hh, hown, hnm, hn0⟩ := id hC
  exact W.lcmp hx hb hd (k p e s m args below meth c H locs ls hC hP hS hl)
theorem q_iconst {z : Int} {v : Int32} (n : Nat) (hd : decode M.1 pc = .ok (.iconst z, 1)) (hn : pc + 1 = n) (hv : Int32.ofInt z = v) (k : AW E R M ws ce sl n lv (.int v :: st) r) : AW E R M ws ce sl pc lv (st) r := by
  subst hn
  intro p e s m args below meth c H locs ls hC hP hS hl
  obtain ⟨h0, ht, hx, hb, hml, hr, hlk, hh, hown, hnm, hn0⟩ := id hC
  exact lv_iconst hx hb hd hv (k p e s m args below meth c H locs ls hC hP hS hl)
theorem q_bipush {z : Int} {v : Int32} (n : Nat) (hd : decode M.1 pc = .ok (.bipush z, 2)) (hn : pc + 2 = n) (hv : (Int8.ofInt z).toInt32 = v) (k : AW E R M ws ce sl n lv (.int v :: st) r) : AW E R M ws ce sl pc lv (st) r := by
  subst hn
  intro p e s m args below meth c H locs ls hC hP hS hl
  obtain ⟨h0, ht, hx, hb, hml, hr, hlk, hh, hown, hnm, hn0⟩ := id hC
  exact lv_bipush hx hb hd hv (k p e s m args below meth c H locs ls hC hP hS hl)
theorem q_sipush {z : Int} {v : Int32} (n : Nat) (hd : decode M.1 pc = .ok (.sipush z, 3)) (hn : pc + 3 = n) (hv : (Int16.ofInt z).toInt32 = v) (k : AW E R M ws ce sl n lv (.int v :: st) r) : AW E R M ws ce sl pc lv (st) r := by
  subst hn
  intro p e s m args below meth c H locs ls hC hP hS hl
  obtain ⟨h0, ht, hx, hb, hml, hr, hlk, hh, hown, hnm, hn0⟩ := id hC
  exact lv_sipush hx hb hd hv (k p e s m args below meth c H locs ls hC hP hS hl)
theorem q_lconst {z : Fin 2} {v : Int64} (n : Nat) (hd : decode M.1 pc = .ok (.lconst z, 1)) (hn : pc + 1 = n) (hv : Int64.ofNat (z : Nat) = v) (k : AW E R M ws ce sl n lv (.long v :: st) r) : AW E R M ws ce sl pc lv (st) r := by
  subst hn
  intro p e s m args below meth c H locs ls hC hP hS hl
  obtain ⟨h0, ht, hx, hb, hml, hr, hlk, hh, hown, hnm, hn0⟩ := id hC
  exact lv_lconst hx hb hd hv (k p e s m args below meth c H locs ls hC hP hS hl)
theorem q_ldc {idx : Nat} {v : Int32} (n : Nat) (hd : decode M.1 pc = .ok (.ldc idx, 2)) (hn : pc + 2 = n) (hw : Cond.constant M.2.2.2.1 idx v ∈ lw_tbl) (k : AW E R M ws ce sl n lv (.int v :: st) r) : AW E R M ws ce sl pc lv (st) r := by
  subst hn
  intro p e s m args below meth c H locs ls hC hP hS hl
  obtain ⟨h0, ht, hx, hb, hml, hr, hlk, hh, hown, hnm, hn0⟩ := id hC
  exact lv_ldc hx hb hown (q_w h0 ht hw rfl) hd (k p e s m args below meth c H locs ls hC hP hS hl)
theorem q_dup {v : Value} (n : Nat) (hd : decode M.1 pc = .ok (.dup, 1)) (hn : pc + 1 = n) (hc : v.category = 1) (k : AW E R M ws ce sl n lv (v :: v :: st) r) : AW E R M ws ce sl pc lv (v :: st) r := by
  subst hn
  intro p e s m args below meth c H locs ls hC hP hS hl
  obtain ⟨h0, ht, hx, hb, hml, hr, hlk, hh, hown, hnm, hn0⟩ := id hC
  exact lv_dup hx hb hd ((q_cv_cat _ _).trans hc) (k p e s m args below meth c H locs ls hC hP hS hl)
theorem q_pop {v : Value} (n : Nat) (hd : decode M.1 pc = .ok (.pop, 1)) (hn : pc + 1 = n) (hc : v.category = 1) (k : AW E R M ws ce sl n lv (st) r) : AW E R M ws ce sl pc lv (v :: st) r := by
  subst hn
  intro p e s m args below meth c H locs ls hC hP hS hl
  obtain ⟨h0, ht, hx, hb, hml, hr, hlk, hh, hown, hnm, hn0⟩ := id hC
  exact lv_pop hx hb hd ((q_cv_cat _ _).trans hc) (k p e s m args below meth c H locs ls hC hP hS hl)
theorem q_dup_x1 {v u : Value} (n : Nat) (hd : decode M.1 pc = .ok (.dup_x1, 1)) (hn : pc + 1 = n) (hc : v.category = 1) (hc2 : u.category = 1) (k : AW E R M ws ce sl n lv (v :: u :: v :: st) r) : AW E R M ws ce sl pc lv (v :: u :: st) r := by
  subst hn
  intro p e s m args below meth c H locs ls hC hP hS hl
  obtain ⟨h0, ht, hx, hb, hml, hr, hlk, hh, hown, hnm, hn0⟩ := id hC
  exact lv_dup_x1 hx hb hd ((q_cv_cat _ _).trans hc) ((q_cv_cat _ _).trans hc2) (k p e s m args below meth c H locs ls hC hP hS hl)
theorem q_dup2 {v u : Value} (n : Nat) (hd : decode M.1 pc = .ok (.dup2, 1)) (hn : pc + 1 = n) (hc : v.category = 1) (hc2 : u.category = 1) (k : AW E R M ws ce sl n lv (v :: u :: v :: u :: st) r) : AW E R M ws ce sl pc lv (v :: u :: st) r := by
  subst hn
  intro p e s m args below meth c H locs ls hC hP hS hl
  obtain ⟨h0, ht, hx, hb, hml, hr, hlk, hh, hown, hnm, hn0⟩ := id hC
  exact lv_dup2_11 hx hb hd ((q_cv_cat _ _).trans hc) ((q_cv_cat _ _).trans hc2) (k p e s m args below meth c H locs ls hC hP hS hl)
theorem q_iloadn {z : Fin 4} {x : Int32} (n : Nat) (hd : decode M.1 pc = .ok (.iload_n z, 1)) (hn : pc + 1 = n) (j : Nat) (hj : lv[j]? = some ((z : Nat), .int x)) (k : AW E R M ws ce sl n lv (.int x :: st) r) : AW E R M ws ce sl pc lv (st) r := by
  subst hn
  intro p e s m args below meth c H locs ls hC hP hS hl
  obtain ⟨h0, ht, hx, hb, hml, hr, hlk, hh, hown, hnm, hn0⟩ := id hC
  exact lv_iload_n hx hb hd rfl (lv_at hl j (q_lv_at hj)) (k p e s m args below meth c H locs ls hC hP hS hl)
theorem q_iload {z : Nat} {x : Int32} (n : Nat) (hd : decode M.1 pc = .ok (.iload z, 2)) (hn : pc + 2 = n) (j : Nat) (hj : lv[j]? = some (z, .int x)) (k : AW E R M ws ce sl n lv (.int x :: st) r) : AW E R M ws ce sl pc lv (st) r := by
  subst hn
  intro p e s m args below meth c H locs ls hC hP hS hl
  obtain ⟨h0, ht, hx, hb, hml, hr, hlk, hh, hown, hnm, hn0⟩ := id hC
  exact lv_iload hx hb hd (lv_at hl j (q_lv_at hj)) (k p e s m args below meth c H locs ls hC hP hS hl)
theorem q_aloadn {z : Fin 4} {x : Nat} (n : Nat) (hd : decode M.1 pc = .ok (.aload_n z, 1)) (hn : pc + 1 = n) (j : Nat) (hj : lv[j]? = some ((z : Nat), .ref x)) (k : AW E R M ws ce sl n lv (.ref x :: st) r) : AW E R M ws ce sl pc lv (st) r := by
  subst hn
  intro p e s m args below meth c H locs ls hC hP hS hl
  obtain ⟨h0, ht, hx, hb, hml, hr, hlk, hh, hown, hnm, hn0⟩ := id hC
  exact lv_aload_n hx hb hd rfl (lv_at hl j (q_lv_at hj)) (k p e s m args below meth c H locs ls hC hP hS hl)
theorem q_aload {z : Nat} {x : Nat} (n : Nat) (hd : decode M.1 pc = .ok (.aload z, 2)) (hn : pc + 2 = n) (j : Nat) (hj : lv[j]? = some (z, .ref x)) (k : AW E R M ws ce sl n lv (.ref x :: st) r) : AW E R M ws ce sl pc lv (st) r := by
  subst hn
  intro p e s m args below meth c H locs ls hC hP hS hl
  obtain ⟨h0, ht, hx, hb, hml, hr, hlk, hh, hown, hnm, hn0⟩ := id hC
  exact lv_aload hx hb hd (lv_at hl j (q_lv_at hj)) (k p e s m args below meth c H locs ls hC hP hS hl)
theorem q_istoren {z : Fin 4} {x : Int32} {lv' : List (Nat × Value)} (n : Nat) (hd : decode M.1 pc = .ok (.istore_n z, 1)) (hn : pc + 1 = n) (hz1 : (z : Nat) < M.2.1) (hlv : ((z : Nat), Value.int x) :: lv.filter (fun q => !(q.1 == (z : Nat)) && !(q.1 + 1 == (z : Nat) && q.2.category == 2)) = lv') (k : AW E R M ws ce sl n lv' (st) r) : AW E R M ws ce sl pc lv (.int x :: st) r := by
  subst hn
  subst hlv
  intro p e s m args below meth c H locs ls hC hP hS hl
  obtain ⟨h0, ht, hx, hb, hml, hr, hlk, hh, hown, hnm, hn0⟩ := id hC
  exact lv_istore_n hx hb hd rfl hl hz1 (q_lv_put _ lv (z : Nat) (.int x)) (fun ls' hl' => k p e s m args below meth c H locs ls' hC hP hS hl')
theorem q_istore {z : Nat} {x : Int32} {lv' : List (Nat × Value)} (n : Nat) (hd : decode M.1 pc = .ok (.istore z, 2)) (hn : pc + 2 = n) (hz1 : z < M.2.1) (hlv : (z, Value.int x) :: lv.filter (fun q => !(q.1 == z) && !(q.1 + 1 == z && q.2.category == 2)) = lv') (k : AW E R M ws ce sl n lv' (st) r) : AW E R M ws ce sl pc lv (.int x :: st) r := by
  subst hn
  subst hlv
  intro p e s m args below meth c H locs ls hC hP hS hl
  obtain ⟨h0, ht, hx, hb, hml, hr, hlk, hh, hown, hnm, hn0⟩ := id hC
  exact lv_istore hx hb hd hl hz1 (q_lv_put _ lv z (.int x)) (fun ls' hl' => k p e s m args below meth c H locs ls' hC hP hS hl')
theorem q_astoren {z : Fin 4} {x : Nat} {lv' : List (Nat × Value)} (n : Nat) (hd : decode M.1 pc = .ok (.astore_n z, 1)) (hn : pc + 1 = n) (hz1 : (z : Nat) < M.2.1) (hlv : ((z : Nat), Value.ref x) :: lv.filter (fun q => !(q.1 == (z : Nat)) && !(q.1 + 1 == (z : Nat) && q.2.category == 2)) = lv') (k : AW E R M ws ce sl n lv' (st) r) : AW E R M ws ce sl pc lv (.ref x :: st) r := by
  subst hn
  subst hlv
  intro p e s m args below meth c H locs ls hC hP hS hl
  obtain ⟨h0, ht, hx, hb, hml, hr, hlk, hh, hown, hnm, hn0⟩ := id hC
  exact lv_astore_n hx hb hd rfl hl hz1 (q_lv_put _ lv (z : Nat) (.ref x)) (fun ls' hl' => k p e s m args below meth c H locs ls' hC hP hS hl')
theorem q_astore {z : Nat} {x : Nat} {lv' : List (Nat × Value)} (n : Nat) (hd : decode M.1 pc = .ok (.astore z, 2)) (hn : pc + 2 = n) (hz1 : z < M.2.1) (hlv : (z, Value.ref x) :: lv.filter (fun q => !(q.1 == z) && !(q.1 + 1 == z && q.2.category == 2)) = lv') (k : AW E R M ws ce sl n lv' (st) r) : AW E R M ws ce sl pc lv (.ref x :: st) r := by
  subst hn
  subst hlv
  intro p e s m args below meth c H locs ls hC hP hS hl
  obtain ⟨h0, ht, hx, hb, hml, hr, hlk, hh, hown, hnm, hn0⟩ := id hC
  exact lv_astore hx hb hd hl hz1 (q_lv_put _ lv z (.ref x)) (fun ls' hl' => k p e s m args below meth c H locs ls' hC hP hS hl')
theorem q_iinc {i : Nat} {z : Int} {x v : Int32} {lv' : List (Nat × Value)} (n : Nat) (hd : decode M.1 pc = .ok (.iinc i z, 3)) (hn : pc + 3 = n) (j : Nat) (hj : lv[j]? = some (i, .int x)) (hv : x + Int32.ofInt z = v) (hz1 : i < M.2.1) (hlv : (i, Value.int v) :: lv.filter (fun q => !(q.1 == i) && !(q.1 + 1 == i && q.2.category == 2)) = lv') (k : AW E R M ws ce sl n lv' (st) r) : AW E R M ws ce sl pc lv (st) r := by
  subst hn
  subst hlv
  intro p e s m args below meth c H locs ls hC hP hS hl
  obtain ⟨h0, ht, hx, hb, hml, hr, hlk, hh, hown, hnm, hn0⟩ := id hC
  exact lv_iinc (k := j) hx hb hd hl (q_lv_at hj) hv hz1 (q_lv_put _ lv i (.int v)) (fun ls' hl' => k p e s m args below meth c H locs ls' hC hP hS hl')
theorem q_sub (ks : List Nat) {lv' : List (Nat × Value)} (hk : lv_pick lv ks = lv') (k : AW E R M ws ce sl pc lv' (st) r) : AW E R M ws ce sl pc lv (st) r := by
  subst hk
  intro p e s m args below meth c H locs ls hC hP hS hl
  obtain ⟨h0, ht, hx, hb, hml, hr, hlk, hh, hown, hnm, hn0⟩ := id hC
  exact k p e s m args below meth c H locs ls hC hP hS (lv_sub hl ks (q_lv_pick _ lv ks))
theorem q_at {pc' : Nat} (h : pc = pc') (k : AW E R M ws ce sl pc' lv (st) r) : AW E R M ws ce sl pc lv (st) r := h ▸ k
theorem q_goto {off : Int} (n : Nat) (hd : decode M.1 pc = .ok (.goto off, 3)) (hn : (pc : Int) + off = (n : Int)) (k : AW E R M ws ce sl n lv (st) r) : AW E R M ws ce sl pc lv (st) r := by
  intro p e s m args below meth c H locs ls hC hP hS hl
  obtain ⟨h0, ht, hx, hb, hml, hr, hlk, hh, hown, hnm, hn0⟩ := id hC
  exact lv_goto hx hb hd hn (k p e s m args below meth c H locs ls hC hP hS hl)
theorem q_if_eq_t {x : Int32} {off : Int} (n : Nat) (hd : decode M.1 pc = .ok (.ifCond .eq off, 3)) (hn : (pc : Int) + off = (n : Int)) (hc : x = 0) (k : AW E R M ws ce sl n lv (st) r) : AW E R M ws ce sl pc lv (.int x :: st) r := by
  intro p e s m args below meth c H locs ls hC hP hS hl
  obtain ⟨h0, ht, hx, hb, hml, hr, hlk, hh, hown, hnm, hn0⟩ := id hC
  exact lv_if_eq hx hb hd hn (fun _ => (k p e s m args below meth c H locs ls hC hP hS hl)) (fun h => absurd hc h)
theorem q_if_eq_f {x : Int32} {off : Int} (n : Nat) (hd : decode M.1 pc = .ok (.ifCond .eq off, 3)) (hn : pc + 3 = n) (m : Nat) (hm : (pc : Int) + off = (m : Int)) (hc : ¬ x = 0) (k : AW E R M ws ce sl n lv (st) r) : AW E R M ws ce sl pc lv (.int x :: st) r := by
  subst hn
  intro p e s mm args below meth c H locs ls hC hP hS hl
  obtain ⟨h0, ht, hx, hb, hml, hr, hlk, hh, hown, hnm, hn0⟩ := id hC
  exact lv_if_eq hx hb hd hm (fun h => absurd h hc) (fun _ => (k p e s mm args below meth c H locs ls hC hP hS hl))
theorem q_icmp_eq_t {x y : Int32} {off : Int} (n : Nat) (hd : decode M.1 pc = .ok (.if_icmp .eq off, 3)) (hn : (pc : Int) + off = (n : Int)) (hc : x = y) (k : AW E R M ws ce sl n lv (st) r) : AW E R M ws ce sl pc lv (.int y :: .int x :: st) r := by
  intro p e s m args below meth c H locs ls hC hP hS hl
  obtain ⟨h0, ht, hx, hb, hml, hr, hlk, hh, hown, hnm, hn0⟩ := id hC
  exact lv_icmp_eq hx hb hd hn (fun _ => (k p e s m args below meth c H locs ls hC hP hS hl)) (fun h => absurd hc h)
theorem q_icmp_eq_f {x y : Int32} {off : Int} (n : Nat) (hd : decode M.1 pc = .ok (.if_icmp .eq off, 3)) (hn : pc + 3 = n) (m : Nat) (hm : (pc : Int) + off = (m : Int)) (hc : ¬ x = y) (k : AW E R M ws ce sl n lv (st) r) : AW E R M ws ce sl pc lv (.int y :: .int x :: st) r := by
  subst hn
  intro p e s mm args below meth c H locs ls hC hP hS hl
  obtain ⟨h0, ht, hx, hb, hml, hr, hlk, hh, hown, hnm, hn0⟩ := id hC
  exact lv_icmp_eq hx hb hd hm (fun h => absurd h hc) (fun _ => (k p e s mm args below meth c H locs ls hC hP hS hl))
theorem q_if_ne_t {x : Int32} {off : Int} (n : Nat) (hd : decode M.1 pc = .ok (.ifCond .ne off, 3)) (hn : (pc : Int) + off = (n : Int)) (hc : ¬ x = 0) (k : AW E R M ws ce sl n lv (st) r) : AW E R M ws ce sl pc lv (.int x :: st) r := by
  intro p e s m args below meth c H locs ls hC hP hS hl
  obtain ⟨h0, ht, hx, hb, hml, hr, hlk, hh, hown, hnm, hn0⟩ := id hC
  exact lv_if_ne hx hb hd hn (fun _ => (k p e s m args below meth c H locs ls hC hP hS hl)) (fun h => absurd h hc)
theorem q_if_ne_f {x : Int32} {off : Int} (n : Nat) (hd : decode M.1 pc = .ok (.ifCond .ne off, 3)) (hn : pc + 3 = n) (m : Nat) (hm : (pc : Int) + off = (m : Int)) (hc : x = 0) (k : AW E R M ws ce sl n lv (st) r) : AW E R M ws ce sl pc lv (.int x :: st) r := by
  subst hn
  intro p e s mm args below meth c H locs ls hC hP hS hl
  obtain ⟨h0, ht, hx, hb, hml, hr, hlk, hh, hown, hnm, hn0⟩ := id hC
  exact lv_if_ne hx hb hd hm (fun h => absurd hc h) (fun _ => (k p e s mm args below meth c H locs ls hC hP hS hl))
theorem q_icmp_ne_t {x y : Int32} {off : Int} (n : Nat) (hd : decode M.1 pc = .ok (.if_icmp .ne off, 3)) (hn : (pc : Int) + off = (n : Int)) (hc : ¬ x = y) (k : AW E R M ws ce sl n lv (st) r) : AW E R M ws ce sl pc lv (.int y :: .int x :: st) r := by
  intro p e s m args below meth c H locs ls hC hP hS hl
  obtain ⟨h0, ht, hx, hb, hml, hr, hlk, hh, hown, hnm, hn0⟩ := id hC
  exact lv_icmp_ne hx hb hd hn (fun _ => (k p e s m args below meth c H locs ls hC hP hS hl)) (fun h => absurd h hc)
theorem q_icmp_ne_f {x y : Int32} {off : Int} (n : Nat) (hd : decode M.1 pc = .ok (.if_icmp .ne off, 3)) (hn : pc + 3 = n) (m : Nat) (hm : (pc : Int) + off = (m : Int)) (hc : x = y) (k : AW E R M ws ce sl n lv (st) r) : AW E R M ws ce sl pc lv (.int y :: .int x :: st) r := by
  subst hn
  intro p e s mm args below meth c H locs ls hC hP hS hl
  obtain ⟨h0, ht, hx, hb, hml, hr, hlk, hh, hown, hnm, hn0⟩ := id hC
  exact lv_icmp_ne hx hb hd hm (fun h => absurd hc h) (fun _ => (k p e s mm args below meth c H locs ls hC hP hS hl))
theorem q_if_lt_t {x : Int32} {off : Int} (n : Nat) (hd : decode M.1 pc = .ok (.ifCond .lt off, 3)) (hn : (pc : Int) + off = (n : Int)) (hc : x < 0) (k : AW E R M ws ce sl n lv (st) r) : AW E R M ws ce sl pc lv (.int x :: st) r := by
  intro p e s m args below meth c H locs ls hC hP hS hl
  obtain ⟨h0, ht, hx, hb, hml, hr, hlk, hh, hown, hnm, hn0⟩ := id hC
  exact lv_if_lt hx hb hd hn (fun _ => (k p e s m args below meth c H locs ls hC hP hS hl)) (fun h => absurd hc h)
theorem q_if_lt_f {x : Int32} {off : Int} (n : Nat) (hd : decode M.1 pc = .ok (.ifCond .lt off, 3)) (hn : pc + 3 = n) (m : Nat) (hm : (pc : Int) + off = (m : Int)) (hc : ¬ x < 0) (k : AW E R M ws ce sl n lv (st) r) : AW E R M ws ce sl pc lv (.int x :: st) r := by
  subst hn
  intro p e s mm args below meth c H locs ls hC hP hS hl
  obtain ⟨h0, ht, hx, hb, hml, hr, hlk, hh, hown, hnm, hn0⟩ := id hC
  exact lv_if_lt hx hb hd hm (fun h => absurd h hc) (fun _ => (k p e s mm args below meth c H locs ls hC hP hS hl))
theorem q_icmp_lt_t {x y : Int32} {off : Int} (n : Nat) (hd : decode M.1 pc = .ok (.if_icmp .lt off, 3)) (hn : (pc : Int) + off = (n : Int)) (hc : x < y) (k : AW E R M ws ce sl n lv (st) r) : AW E R M ws ce sl pc lv (.int y :: .int x :: st) r := by
  intro p e s m args below meth c H locs ls hC hP hS hl
  obtain ⟨h0, ht, hx, hb, hml, hr, hlk, hh, hown, hnm, hn0⟩ := id hC
  exact lv_icmp_lt hx hb hd hn (fun _ => (k p e s m args below meth c H locs ls hC hP hS hl)) (fun h => absurd hc h)
theorem q_icmp_lt_f {x y : Int32} {off : Int} (n : Nat) (hd : decode M.1 pc = .ok (.if_icmp .lt off, 3)) (hn : pc + 3 = n) (m : Nat) (hm : (pc : Int) + off = (m : Int)) (hc : ¬ x < y) (k : AW E R M ws ce sl n lv (st) r) : AW E R M ws ce sl pc lv (.int y :: .int x :: st) r := by
  subst hn
  intro p e s mm args below meth c H locs ls hC hP hS hl
  obtain ⟨h0, ht, hx, hb, hml, hr, hlk, hh, hown, hnm, hn0⟩ := id hC
  exact lv_icmp_lt hx hb hd hm (fun h => absurd h hc) (fun _ => (k p e s mm args below meth c H locs ls hC hP hS hl))
theorem q_if_ge_t {x : Int32} {off : Int} (n : Nat) (hd : decode M.1 pc = .ok (.ifCond .ge off, 3)) (hn : (pc : Int) + off = (n : Int)) (hc : 0 ≤ x) (k : AW E R M ws ce sl n lv (st) r) : AW E R M ws ce sl pc lv (.int x :: st) r := by
  intro p e s m args below meth c H locs ls hC hP hS hl
  obtain ⟨h0, ht, hx, hb, hml, hr, hlk, hh, hown, hnm, hn0⟩ := id hC
  exact lv_if_ge hx hb hd hn (fun _ => (k p e s m args below meth c H locs ls hC hP hS hl)) (fun h => absurd hc h)
theorem q_if_ge_f {x : Int32} {off : Int} (n : Nat) (hd : decode M.1 pc = .ok (.ifCond .ge off, 3)) (hn : pc + 3 = n) (m : Nat) (hm : (pc : Int) + off = (m : Int)) (hc : ¬ 0 ≤ x) (k : AW E R M ws ce sl n lv (st) r) : AW E R M ws ce sl pc lv (.int x :: st) r := by
  subst hn
  intro p e s mm args below meth c H locs ls hC hP hS hl
  obtain ⟨h0, ht, hx, hb, hml, hr, hlk, hh, hown, hnm, hn0⟩ := id hC
  exact lv_if_ge hx hb hd hm (fun h => absurd h hc) (fun _ => (k p e s mm args below meth c H locs ls hC hP hS hl))
theorem q_icmp_ge_t {x y : Int32} {off : Int} (n : Nat) (hd : decode M.1 pc = .ok (.if_icmp .ge off, 3)) (hn : (pc : Int) + off = (n : Int)) (hc : y ≤ x) (k : AW E R M ws ce sl n lv (st) r) : AW E R M ws ce sl pc lv (.int y :: .int x :: st) r := by
  intro p e s m args below meth c H locs ls hC hP hS hl
  obtain ⟨h0, ht, hx, hb, hml, hr, hlk, hh, hown, hnm, hn0⟩ := id hC
  exact lv_icmp_ge hx hb hd hn (fun _ => (k p e s m args below meth c H locs ls hC hP hS hl)) (fun h => absurd hc h)
theorem q_icmp_ge_f {x y : Int32} {off : Int} (n : Nat) (hd : decode M.1 pc = .ok (.if_icmp .ge off, 3)) (hn : pc + 3 = n) (m : Nat) (hm : (pc : Int) + off = (m : Int)) (hc : ¬ y ≤ x) (k : AW E R M ws ce sl n lv (st) r) : AW E R M ws ce sl pc lv (.int y :: .int x :: st) r := by
  subst hn
  intro p e s mm args below meth c H locs ls hC hP hS hl
  obtain ⟨h0, ht, hx, hb, hml, hr, hlk, hh, hown, hnm, hn0⟩ := id hC
  exact lv_icmp_ge hx hb hd hm (fun h => absurd h hc) (fun _ => (k p e s mm args below meth c H locs ls hC hP hS hl))
theorem q_if_gt_t {x : Int32} {off : Int} (n : Nat) (hd : decode M.1 pc = .ok (.ifCond .gt off, 3)) (hn : (pc : Int) + off = (n : Int)) (hc : 0 < x) (k : AW E R M ws ce sl n lv (st) r) : AW E R M ws ce sl pc lv (.int x :: st) r := by
  intro p e s m args below meth c H locs ls hC hP hS hl
  obtain ⟨h0, ht, hx, hb, hml, hr, hlk, hh, hown, hnm, hn0⟩ := id hC
  exact lv_if_gt hx hb hd hn (fun _ => (k p e s m args below meth c H locs ls hC hP hS hl)) (fun h => absurd hc h)
theorem q_if_gt_f {x : Int32} {off : Int} (n : Nat) (hd : decode M.1 pc = .ok (.ifCond .gt off, 3)) (hn : pc + 3 = n) (m : Nat) (hm : (pc : Int) + off = (m : Int)) (hc : ¬ 0 < x) (k : AW E R M ws ce sl n lv (st) r) : AW E R M ws ce sl pc lv (.int x :: st) r := by
  subst hn
  intro p e s mm args below meth c H locs ls hC hP hS hl
  obtain ⟨h0, ht, hx, hb, hml, hr, hlk, hh, hown, hnm, hn0⟩ := id hC
  exact lv_if_gt hx hb hd hm (fun h => absurd h hc) (fun _ => (k p e s mm args below meth c H locs ls hC hP hS hl))
theorem q_icmp_gt_t {x y : Int32} {off : Int} (n : Nat) (hd : decode M.1 pc = .ok (.if_icmp .gt off, 3)) (hn : (pc : Int) + off = (n : Int)) (hc : y < x) (k : AW E R M ws ce sl n lv (st) r) : AW E R M ws ce sl pc lv (.int y :: .int x :: st) r := by
  intro p e s m args below meth c H locs ls hC hP hS hl
  obtain ⟨h0, ht, hx, hb, hml, hr, hlk, hh, hown, hnm, hn0⟩ := id hC
  exact lv_icmp_gt hx hb hd hn (fun _ => (k p e s m args below meth c H locs ls hC hP hS hl)) (fun h => absurd hc h)
theorem q_icmp_gt_f {x y : Int32} {off : Int} (n : Nat) (hd : decode M.1 pc = .ok (.if_icmp .gt off, 3)) (hn : pc + 3 = n) (m : Nat) (hm : (pc : Int) + off = (m : Int)) (hc : ¬ y < x) (k : AW E R M ws ce sl n lv (st) r) : AW E R M ws ce sl pc lv (.int y :: .int x :: st) r := by
  subst hn
  intro p e s mm args below meth c H locs ls hC hP hS hl
  obtain ⟨h0, ht, hx, hb, hml, hr, hlk, hh, hown, hnm, hn0⟩ := id hC
  exact lv_icmp_gt hx hb hd hm (fun h => absurd h hc) (fun _ => (k p e s mm args below meth c H locs ls hC hP hS hl))
theorem q_if_le_t {x : Int32} {off : Int} (n : Nat) (hd : decode M.1 pc = .ok (.ifCond .le off, 3)) (hn : (pc : Int) + off = (n : Int)) (hc : x ≤ 0) (k : AW E R M ws ce sl n lv (st) r) : AW E R M ws ce sl pc lv (.int x :: st) r := by
  intro p e s m args below meth c H locs ls hC hP hS hl
  obtain ⟨h0, ht, hx, hb, hml, hr, hlk, hh, hown, hnm, hn0⟩ := id hC
  exact lv_if_le hx hb hd hn (fun _ => (k p e s m args below meth c H locs ls hC hP hS hl)) (fun h => absurd hc h)
theorem q_if_le_f {x : Int32} {off : Int} (n : Nat) (hd : decode M.1 pc = .ok (.ifCond .le off, 3)) (hn : pc + 3 = n) (m : Nat) (hm : (pc : Int) + off = (m : Int)) (hc : ¬ x ≤ 0) (k : AW E R M ws ce sl n lv (st) r) : AW E R M ws ce sl pc lv (.int x :: st) r := by
  subst hn
  intro p e s mm args below meth c H locs ls hC hP hS hl
  obtain ⟨h0, ht, hx, hb, hml, hr, hlk, hh, hown, hnm, hn0⟩ := id hC
  exact lv_if_le hx hb hd hm (fun h => absurd h hc) (fun _ => (k p e s mm args below meth c H locs ls hC hP hS hl))
theorem q_icmp_le_t {x y : Int32} {off : Int} (n : Nat) (hd : decode M.1 pc = .ok (.if_icmp .le off, 3)) (hn : (pc : Int) + off = (n : Int)) (hc : x ≤ y) (k : AW E R M ws ce sl n lv (st) r) : AW E R M ws ce sl pc lv (.int y :: .int x :: st) r := by
  intro p e s m args below meth c H locs ls hC hP hS hl
  obtain ⟨h0, ht, hx, hb, hml, hr, hlk, hh, hown, hnm, hn0⟩ := id hC
  exact lv_icmp_le hx hb hd hn (fun _ => (k p e s m args below meth c H locs ls hC hP hS hl)) (fun h => absurd hc h)
theorem q_icmp_le_f {x y : Int32} {off : Int} (n : Nat) (hd : decode M.1 pc = .ok (.if_icmp .le off, 3)) (hn : pc + 3 = n) (m : Nat) (hm : (pc : Int) + off = (m : Int)) (hc : ¬ x ≤ y) (k : AW E R M ws ce sl n lv (st) r) : AW E R M ws ce sl pc lv (.int y :: .int x :: st) r := by
  subst hn
  intro p e s mm args below meth c H locs ls hC hP hS hl
  obtain ⟨h0, ht, hx, hb, hml, hr, hlk, hh, hown, hnm, hn0⟩ := id hC
  exact lv_icmp_le hx hb hd hm (fun h => absurd h hc) (fun _ => (k p e s mm args below meth c H locs ls hC hP hS hl))
theorem q_lookup {dflt : Int} {ps : Array (Int × Int)} {len : Nat} {x : Int32} {off : Int} (n : Nat) (hd : decode M.1 pc = .ok (.lookupswitch dflt ps, len)) (hp : (ps.toList.zip (ps.toList.drop 1)).all (fun (a, next) => a.1 < next.1) = true) (ho : Op.lookupswitch.offset ps.toList dflt x.toInt = off) (hn : (pc : Int) + off = (n : Int)) (k : AW E R M ws ce sl n lv (st) r) : AW E R M ws ce sl pc lv (.int x :: st) r := by
  intro p e s m args below meth c H locs ls hC hP hS hl
  obtain ⟨h0, ht, hx, hb, hml, hr, hlk, hh, hown, hnm, hn0⟩ := id hC
  exact lv_lookup hx hb hd hp ho hn (k p e s m args below meth c H locs ls hC hP hS hl)
theorem q_tableOut {dflt lo hi : Int} {offs : Array Int} {len : Nat} {x : Int32} (n : Nat) (hd : decode M.1 pc = .ok (.tableswitch dflt lo hi offs, len)) (h : x.toInt < lo ∨ hi < x.toInt) (hn : (pc : Int) + dflt = (n : Int)) (k : AW E R M ws ce sl n lv (st) r) : AW E R M ws ce sl pc lv (.int x :: st) r := by
  intro p e s m args below meth c H locs ls hC hP hS hl
  obtain ⟨h0, ht, hx, hb, hml, hr, hlk, hh, hown, hnm, hn0⟩ := id hC
  exact lv_tableOut hx hb hd h hn (k p e s m args below meth c H locs ls hC hP hS hl)
theorem q_tableIn {dflt lo hi : Int} {offs : Array Int} {len : Nat} {x : Int32} {off : Int} (n : Nat) (hd : decode M.1 pc = .ok (.tableswitch dflt lo hi offs, len)) (h1 : ¬ x.toInt < lo) (h2 : ¬ hi < x.toInt) (ho : offs[(x.toInt - lo).toNat]? = some off) (hn : (pc : Int) + off = (n : Int)) (k : AW E R M ws ce sl n lv (st) r) : AW E R M ws ce sl pc lv (.int x :: st) r := by
  intro p e s m args below meth c H locs ls hC hP hS hl
  obtain ⟨h0, ht, hx, hb, hml, hr, hlk, hh, hown, hnm, hn0⟩ := id hC
  exact lv_tableIn hx hb hd h1 h2 ho hn (k p e s m args below meth c H locs ls hC hP hS hl)
/-- the pool's entry idx of the class own names field k of class ci -/
def q_FL (own : String) (idx ci k : Nat) : Prop := ∃ (C : String) (T : u_T) (N : Nat), q_cl[ci]? = some (C, T, N) ∧ k < N ∧ Cond.fieldLink own idx (T k).1 (T k).2.1 (T k).2.2.1 ∈ lw_tbl
theorem q_lay_good {C : String} {T : u_T} {N : Nat} : ∀ w ∈ u_ws C T N, (w.onTables && w.keeps) = true := by
  intro w hw
  obtain ⟨k, -, rfl⟩ := List.mem_map.mp hw
  unfold u_lay
  split <;> rfl
theorem q_hts {E : q_E} {s : State} {args : Array Value} (h0 : q_S0 E) (ht : q_St E s) {ci : Nat} {C : String} {T : u_T} {N : Nat} (hc : q_cl[ci]? = some (C, T, N)) : ∀ w ∈ u_ws C T N, w.before args s = true :=
  fun w hw => q_w h0 ht ((q_cl_ok ci C T N hc).1 w hw) (q_lay_good w hw)
theorem q_ref {g : Nat × Nat} {q : Nat} (h : q < 900) : q_cv g (.ref q) = .ref (g.1 + q) := by simp [q_cv, h]
theorem q_get {idx ci f q0 : Nat} {fs : List Value} {v : Value} (n : Nat) (hd : decode M.1 pc = .ok (.getfield idx, 3)) (hn : pc + 3 = n) (hf : q_FL M.2.2.2.1 idx ci f) (hq : q0 < 900) (he : ws[q0]? = some (.inr (ci, fs))) (hv : fs[f]? = some v) (k : AW E R M ws ce sl n lv (v :: st) r) : AW E R M ws ce sl pc lv (.ref q0 :: st) r := by
  subst hn
  obtain ⟨C, T, N, hc, hfN, hlk0⟩ := hf
  intro p e s m args below meth c H locs ls hC hP hS hl
  obtain ⟨h0, ht, hx, hb, hml, hr, hlk, hh, hown, hnm, hn0⟩ := id hC
  have hg : W p (q_l E) e R s m args below meth c H locs ce sl (q_End E r s below) (F0 m pc ls (.ref ((q_g E).1 + q0) :: st.map (q_cv (q_g E)))) :=
    va_get (D := q_DD E) (ci := ci) (C := C) (T := T) (N := N) (ref := (T f).1) (index := idx) hx hb (q_hts h0 ht hc) (fun w hw => hw) hown (ht.K h0) hP q0 (q_wz_at he) hc f hfN (q_w h0 ht hlk0 rfl) (fun _ h => h) (v := q_cv (q_g E) v) (by simp [hv]) hd (k p e s m args below meth c H locs ls hC hP hS hl)
  rw [List.map_cons, q_ref hq]
  exact hg
theorem q_put {idx ci f q0 : Nat} {fs : List Value} {v : Value} {ty : FieldType} {ws' : List va_E} (n : Nat) (hd : decode M.1 pc = .ok (.putfield idx, 3)) (hn : pc + 3 = n) (hf : q_FL M.2.2.2.1 idx ci f) (hq : q0 < 900) (he : ws[q0]? = some (.inr (ci, fs))) (hty : q_fty ci f = some (ty, false)) (hna : narrow ty (q_cv (q_g E) v) = q_cv (q_g E) v) (hfit : fits ty (q_cv (q_g E) v) = true) (hl0 : f < fs.length) (hw : ws.set q0 (.inr (ci, fs.set f v)) = ws') (k : AW E R M ws' ce sl n lv st r) : AW E R M ws ce sl pc lv (v :: .ref q0 :: st) r := by
  subst hn
  subst hw
  obtain ⟨C, T, N, hc, hfN, hlk0⟩ := hf
  obtain ⟨-, ⟨ty0, hty0⟩, hnm0⟩ := q_cl_ok ci C T N hc
  obtain ⟨hfin, hpd⟩ := q_fty_ok hc hfN hty
  intro p e s m args below meth c H locs ls hC hP hS hl
  obtain ⟨h0, ht, hx, hb, hml, hr, hlk, hh, hown, hnm, hn0⟩ := id hC
  have hg : W p (q_l E) e R s m args below meth c H locs ce sl (q_End E r s below) (F0 m pc ls (q_cv (q_g E) v :: .ref ((q_g E).1 + q0) :: st.map (q_cv (q_g E)))) := by
    refine va_put (D := q_DD E) (ci := ci) (C := C) (T := T) (N := N) (ref := (T f).1) (index := idx) (v := q_cv (q_g E) v) (ty := ty) hx hb (q_hts h0 ht hc) (fun w hw => hw) ty0 hty0 hnm0 hown (ht.K h0) hP (q_D _ _) hS q0 (q_wz_at he) hc f hfN (q_w h0 ht hlk0 rfl) (fun _ h => h) hfin hpd hna hfit (by simpa using hl0) hd (fun H1 locs1 hP1 _ hS1 => ?_)
    have e1 : (q_wz (q_g E) ws).set q0 ((q_g E).1 + q0, .inr (ci, (fs.map (q_cv (q_g E))).set f (q_cv (q_g E) v))) = q_wz (q_g E) (ws.set q0 (.inr (ci, fs.set f v))) := by
      rw [← q_wz_set]
      simp [q_ce, List.map_set]
    rw [e1] at hP1
    exact k p e s m args below meth c H1 locs1 ls hC hP1 hS1 hl
  rw [List.map_cons, List.map_cons, q_ref hq]
  exact hg
theorem q_putF {idx ci f q0 : Nat} {fs : List Value} {v : Value} {ty : FieldType} {ws' : List va_E} (n : Nat) (hd : decode M.1 pc = .ok (.putfield idx, 3)) (hn : pc + 3 = n) (hf : q_FL M.2.2.2.1 idx ci f) (hq : q0 < 900) (he : ws[q0]? = some (.inr (ci, fs))) (hty : q_fty ci f = some (ty, true)) (hnI : M.2.2.2.2.1 = "<init>") (hdc : ∀ C T N, q_cl[ci]? = some (C, T, N) → (T f).1 = M.2.2.2.1) (hna : narrow ty (q_cv (q_g E) v) = q_cv (q_g E) v) (hfit : fits ty (q_cv (q_g E) v) = true) (hl0 : f < fs.length) (hw : ws.set q0 (.inr (ci, fs.set f v)) = ws') (k : AW E R M ws' ce sl n lv st r) : AW E R M ws ce sl pc lv (v :: .ref q0 :: st) r := by
  subst hn
  subst hw
  obtain ⟨C, T, N, hc, hfN, hlk0⟩ := hf
  obtain ⟨-, ⟨ty0, hty0⟩, hnm0⟩ := q_cl_ok ci C T N hc
  obtain ⟨hfin, hpd⟩ := q_fty_ok hc hfN hty
  intro p e s m args below meth c H locs ls hC hP hS hl
  obtain ⟨h0, ht, hx, hb, hml, hr, hlk, hh, hown, hnm, hn0⟩ := id hC
  have hg : W p (q_l E) e R s m args below meth c H locs ce sl (q_End E r s below) (F0 m pc ls (q_cv (q_g E) v :: .ref ((q_g E).1 + q0) :: st.map (q_cv (q_g E)))) := by
    refine va_putF (D := q_DD E) (ci := ci) (C := C) (T := T) (N := N) (ref := (T f).1) (index := idx) (v := q_cv (q_g E) v) (ty := ty) hx hb (q_hts h0 ht hc) (fun w hw => hw) ty0 hty0 hnm0 hown (ht.K h0) hP (q_D _ _) hS q0 (q_wz_at he) hc f hfN (q_w h0 ht hlk0 rfl) (fun _ h => h) hfin (hnm.trans hnI) (hdc C T N hc) hpd hna hfit (by simpa using hl0) hd (fun H1 locs1 hP1 _ hS1 => ?_)
    have e1 : (q_wz (q_g E) ws).set q0 ((q_g E).1 + q0, .inr (ci, (fs.map (q_cv (q_g E))).set f (q_cv (q_g E) v))) = q_wz (q_g E) (ws.set q0 (.inr (ci, fs.set f v))) := by
      rw [← q_wz_set]
      simp [q_ce, List.map_set]
    rw [e1] at hP1
    exact k p e s m args below meth c H1 locs1 ls hC hP1 hS1 hl
  rw [List.map_cons, List.map_cons, q_ref hq]
  exact hg
theorem q_iald {q0 : Nat} {len : Nat} {f : Nat → Int32} {i : Int32} (n : Nat) (hd : decode M.1 pc = .ok (.iaload, 1)) (hn : pc + 1 = n) (hq : q0 < 900) (he : ws[q0]? = some (.inl (q_kA E 0, len, .inl f))) (hin : vp_in i len) (k : AW E R M ws ce sl n lv (.int (f i.toNatClampNeg) :: st) r) : AW E R M ws ce sl pc lv (.int i :: .ref q0 :: st) r := by
  subst hn
  intro p e s m args below meth c H locs ls hC hP hS hl
  obtain ⟨h0, ht, hx, hb, hml, hr, hlk, hh, hown, hnm, hn0⟩ := id hC
  have hg : W p (q_l E) e R s m args below meth c H locs ce sl (q_End E r s below) (F0 m pc ls (.int i :: .ref ((q_g E).1 + q0) :: st.map (q_cv (q_g E)))) :=
    va_iald hx hb (ht.K h0) hP q0 0 (q_wz_at he) rfl hin hd (k p e s m args below meth c H locs ls hC hP hS hl)
  rw [List.map_cons, List.map_cons, q_ref hq]
  exact hg
theorem q_iast {q0 : Nat} {len : Nat} {f : Nat → Int32} {i x : Int32} {ws' : List va_E} (n : Nat) (hd : decode M.1 pc = .ok (.iastore, 1)) (hn : pc + 1 = n) (hq : q0 < 900) (he : ws[q0]? = some (.inl (q_kA E 0, len, .inl f))) (hin : vp_in i len) (hw : ws.set q0 (.inl (q_kA E 0, len, .inl (upd f i.toNatClampNeg (x)))) = ws') (k : AW E R M ws' ce sl n lv st r) : AW E R M ws ce sl pc lv (.int x :: .int i :: .ref q0 :: st) r := by
  subst hn
  subst hw
  intro p e s m args below meth c H locs ls hC hP hS hl
  obtain ⟨h0, ht, hx, hb, hml, hr, hlk, hh, hown, hnm, hn0⟩ := id hC
  have hg : W p (q_l E) e R s m args below meth c H locs ce sl (q_End E r s below) (F0 m pc ls (.int x :: .int i :: .ref ((q_g E).1 + q0) :: st.map (q_cv (q_g E)))) := by
    refine va_iast hx hb (ht.K h0) hP (q_D _ _) hS q0 0 (q_wz_at he) rfl hin hd (fun H1 locs1 hP1 _ hS1 => ?_)
    have e1 : (q_wz (q_g E) ws).set q0 ((q_g E).1 + q0, .inl (q_kA E 0, len, .inl (upd f i.toNatClampNeg (x)))) = q_wz (q_g E) (ws.set q0 (.inl (q_kA E 0, len, .inl (upd f i.toNatClampNeg (x))))) := by
      rw [← q_wz_set]
      rfl
    rw [e1] at hP1
    exact k p e s m args below meth c H1 locs1 ls hC hP1 hS1 hl
  rw [List.map_cons, List.map_cons, List.map_cons, q_ref hq]
  exact hg
theorem q_zald {q0 : Nat} {len : Nat} {f : Nat → Int32} {i : Int32} (n : Nat) (hd : decode M.1 pc = .ok (.baload, 1)) (hn : pc + 1 = n) (hq : q0 < 900) (he : ws[q0]? = some (.inl (q_kA E 1, len, .inl f))) (hin : vp_in i len) (k : AW E R M ws ce sl n lv (.int (f i.toNatClampNeg) :: st) r) : AW E R M ws ce sl pc lv (.int i :: .ref q0 :: st) r := by
  subst hn
  intro p e s m args below meth c H locs ls hC hP hS hl
  obtain ⟨h0, ht, hx, hb, hml, hr, hlk, hh, hown, hnm, hn0⟩ := id hC
  have hg : W p (q_l E) e R s m args below meth c H locs ce sl (q_End E r s below) (F0 m pc ls (.int i :: .ref ((q_g E).1 + q0) :: st.map (q_cv (q_g E)))) :=
    va_zald hx hb (ht.K h0) hP q0 1 (q_wz_at he) rfl hin hd (k p e s m args below meth c H locs ls hC hP hS hl)
  rw [List.map_cons, List.map_cons, q_ref hq]
  exact hg
theorem q_zast {q0 : Nat} {len : Nat} {f : Nat → Int32} {i x : Int32} {ws' : List va_E} (n : Nat) (hd : decode M.1 pc = .ok (.bastore, 1)) (hn : pc + 1 = n) (hq : q0 < 900) (he : ws[q0]? = some (.inl (q_kA E 1, len, .inl f))) (hin : vp_in i len) (hw : ws.set q0 (.inl (q_kA E 1, len, .inl (upd f i.toNatClampNeg (vp_nar .boolean x)))) = ws') (k : AW E R M ws' ce sl n lv st r) : AW E R M ws ce sl pc lv (.int x :: .int i :: .ref q0 :: st) r := by
  subst hn
  subst hw
  intro p e s m args below meth c H locs ls hC hP hS hl
  obtain ⟨h0, ht, hx, hb, hml, hr, hlk, hh, hown, hnm, hn0⟩ := id hC
  have hg : W p (q_l E) e R s m args below meth c H locs ce sl (q_End E r s below) (F0 m pc ls (.int x :: .int i :: .ref ((q_g E).1 + q0) :: st.map (q_cv (q_g E)))) := by
    refine va_zast hx hb (ht.K h0) hP (q_D _ _) hS q0 1 (q_wz_at he) rfl hin hd (fun H1 locs1 hP1 _ hS1 => ?_)
    have e1 : (q_wz (q_g E) ws).set q0 ((q_g E).1 + q0, .inl (q_kA E 1, len, .inl (upd f i.toNatClampNeg (vp_nar .boolean x)))) = q_wz (q_g E) (ws.set q0 (.inl (q_kA E 1, len, .inl (upd f i.toNatClampNeg (vp_nar .boolean x))))) := by
      rw [← q_wz_set]
      rfl
    rw [e1] at hP1
    exact k p e s m args below meth c H1 locs1 ls hC hP1 hS1 hl
  rw [List.map_cons, List.map_cons, List.map_cons, q_ref hq]
  exact hg
theorem q_cald {q0 : Nat} {len : Nat} {f : Nat → Int32} {i : Int32} (n : Nat) (hd : decode M.1 pc = .ok (.caload, 1)) (hn : pc + 1 = n) (hq : q0 < 900) (he : ws[q0]? = some (.inl (q_kA E 2, len, .inl f))) (hin : vp_in i len) (k : AW E R M ws ce sl n lv (.int (f i.toNatClampNeg) :: st) r) : AW E R M ws ce sl pc lv (.int i :: .ref q0 :: st) r := by
  subst hn
  intro p e s m args below meth c H locs ls hC hP hS hl
  obtain ⟨h0, ht, hx, hb, hml, hr, hlk, hh, hown, hnm, hn0⟩ := id hC
  have hg : W p (q_l E) e R s m args below meth c H locs ce sl (q_End E r s below) (F0 m pc ls (.int i :: .ref ((q_g E).1 + q0) :: st.map (q_cv (q_g E)))) :=
    va_cald hx hb (ht.K h0) hP q0 2 (q_wz_at he) rfl hin hd (k p e s m args below meth c H locs ls hC hP hS hl)
  rw [List.map_cons, List.map_cons, q_ref hq]
  exact hg
theorem q_cast {q0 : Nat} {len : Nat} {f : Nat → Int32} {i x : Int32} {ws' : List va_E} (n : Nat) (hd : decode M.1 pc = .ok (.castore, 1)) (hn : pc + 1 = n) (hq : q0 < 900) (he : ws[q0]? = some (.inl (q_kA E 2, len, .inl f))) (hin : vp_in i len) (hw : ws.set q0 (.inl (q_kA E 2, len, .inl (upd f i.toNatClampNeg (vp_nar .char x)))) = ws') (k : AW E R M ws' ce sl n lv st r) : AW E R M ws ce sl pc lv (.int x :: .int i :: .ref q0 :: st) r := by
  subst hn
  subst hw
  intro p e s m args below meth c H locs ls hC hP hS hl
  obtain ⟨h0, ht, hx, hb, hml, hr, hlk, hh, hown, hnm, hn0⟩ := id hC
  have hg : W p (q_l E) e R s m args below meth c H locs ce sl (q_End E r s below) (F0 m pc ls (.int x :: .int i :: .ref ((q_g E).1 + q0) :: st.map (q_cv (q_g E)))) := by
    refine va_cast hx hb (ht.K h0) hP (q_D _ _) hS q0 2 (q_wz_at he) rfl hin hd (fun H1 locs1 hP1 _ hS1 => ?_)
    have e1 : (q_wz (q_g E) ws).set q0 ((q_g E).1 + q0, .inl (q_kA E 2, len, .inl (upd f i.toNatClampNeg (vp_nar .char x)))) = q_wz (q_g E) (ws.set q0 (.inl (q_kA E 2, len, .inl (upd f i.toNatClampNeg (vp_nar .char x))))) := by
      rw [← q_wz_set]
      rfl
    rw [e1] at hP1
    exact k p e s m args below meth c H1 locs1 ls hC hP1 hS1 hl
  rw [List.map_cons, List.map_cons, List.map_cons, q_ref hq]
  exact hg
theorem q_lald {q0 : Nat} {len : Nat} {f : Nat → Int64} {i : Int32} (n : Nat) (hd : decode M.1 pc = .ok (.laload, 1)) (hn : pc + 1 = n) (hq : q0 < 900) (he : ws[q0]? = some (.inl (q_kA E 3, len, .inr (.inl f)))) (hin : vp_in i len) (k : AW E R M ws ce sl n lv (.long (f i.toNatClampNeg) :: st) r) : AW E R M ws ce sl pc lv (.int i :: .ref q0 :: st) r := by
  subst hn
  intro p e s m args below meth c H locs ls hC hP hS hl
  obtain ⟨h0, ht, hx, hb, hml, hr, hlk, hh, hown, hnm, hn0⟩ := id hC
  have hg : W p (q_l E) e R s m args below meth c H locs ce sl (q_End E r s below) (F0 m pc ls (.int i :: .ref ((q_g E).1 + q0) :: st.map (q_cv (q_g E)))) :=
    va_lald hx hb (ht.K h0) hP q0 3 (q_wz_at he) rfl hin hd (k p e s m args below meth c H locs ls hC hP hS hl)
  rw [List.map_cons, List.map_cons, q_ref hq]
  exact hg
theorem q_last {q0 : Nat} {len : Nat} {f : Nat → Int64} {i : Int32} {x : Int64} {ws' : List va_E} (n : Nat) (hd : decode M.1 pc = .ok (.lastore, 1)) (hn : pc + 1 = n) (hq : q0 < 900) (he : ws[q0]? = some (.inl (q_kA E 3, len, .inr (.inl f)))) (hin : vp_in i len) (hw : ws.set q0 (.inl (q_kA E 3, len, .inr (.inl (vp_updL f i.toNatClampNeg x)))) = ws') (k : AW E R M ws' ce sl n lv st r) : AW E R M ws ce sl pc lv (.long x :: .int i :: .ref q0 :: st) r := by
  subst hn
  subst hw
  intro p e s m args below meth c H locs ls hC hP hS hl
  obtain ⟨h0, ht, hx, hb, hml, hr, hlk, hh, hown, hnm, hn0⟩ := id hC
  have hg : W p (q_l E) e R s m args below meth c H locs ce sl (q_End E r s below) (F0 m pc ls (.long x :: .int i :: .ref ((q_g E).1 + q0) :: st.map (q_cv (q_g E)))) := by
    refine va_last hx hb (ht.K h0) hP (q_D _ _) hS q0 3 (q_wz_at he) rfl hin hd (fun H1 locs1 hP1 _ hS1 => ?_)
    have e1 : (q_wz (q_g E) ws).set q0 ((q_g E).1 + q0, .inl (q_kA E 3, len, .inr (.inl (vp_updL f i.toNatClampNeg x)))) = q_wz (q_g E) (ws.set q0 (.inl (q_kA E 3, len, .inr (.inl (vp_updL f i.toNatClampNeg x))))) := by
      rw [← q_wz_set]
      rfl
    rw [e1] at hP1
    exact k p e s m args below meth c H1 locs1 ls hC hP1 hS1 hl
  rw [List.map_cons, List.map_cons, List.map_cons, q_ref hq]
  exact hg
theorem q_alen {q0 : Nat} {t : Nat} {ty : FieldType} {x : vp_A} {v : Int32} (n : Nat) (hd : decode M.1 pc = .ok (.arraylength, 1)) (hn : pc + 1 = n) (hq : q0 < 900) (he : ws[q0]? = some (.inl (q_kA E t, x))) (ht0 : (q_tys E)[t]? = some (q_kA E t, ty)) (hv : Int32.ofNat x.1 = v) (k : AW E R M ws ce sl n lv (.int v :: st) r) : AW E R M ws ce sl pc lv (.ref q0 :: st) r := by
  subst hn
  intro p e s m args below meth c H locs ls hC hP hS hl
  obtain ⟨h0, ht, hx, hb, hml, hr, hlk, hh, hown, hnm, hn0⟩ := id hC
  have hg : W p (q_l E) e R s m args below meth c H locs ce sl (q_End E r s below) (F0 m pc ls (.ref ((q_g E).1 + q0) :: st.map (q_cv (q_g E)))) :=
    va_alen hx hb (ht.K h0) hP q0 t (q_wz_at he) ht0 hv hd (k p e s m args below meth c H locs ls hC hP hS hl)
  rw [List.map_cons, q_ref hq]
  exact hg
/-- the script: place 900 -/
theorem q_sX {s : State} (h0 : q_S0 E) (ht : q_St E s) : va_X (q_g E).2 (q_L E) (q_xs E) s s.heap ∧ (q_g E).2 < s.heap.size ∧ ¬ q_A (q_g E) (q_g E).2 :=
  ⟨(va_X.moved ht.1.alike h0.2.2.1).kept (ht.2.2 _ h0.2.2.2.1), Nat.lt_of_lt_of_le h0.2.2.2.1 ht.2.1, Nat.not_le.mpr h0.2.2.2.1⟩
theorem q_sld {i : Int32} (n : Nat) (hd : decode M.1 pc = .ok (.iaload, 1)) (hn : pc + 1 = n) (hin : vp_in i (q_L E)) (k : AW E R M ws ce sl n lv (.int (q_xs E i.toNatClampNeg) :: st) r) : AW E R M ws ce sl pc lv (.int i :: .ref 900 :: st) r := by
  subst hn
  intro p e s m args below meth c H locs ls hC hP hS hl
  obtain ⟨h0, ht, hx, hb, hml, hr, hlk, hh, hown, hnm, hn0⟩ := id hC
  obtain ⟨hX, hbl, hbA⟩ := q_sX h0 ht
  exact va_sld hx hb hX hbl hbA hS hin hd (k p e s m args below meth c H locs ls hC hP hS hl)
theorem q_slen (n : Nat) (hd : decode M.1 pc = .ok (.arraylength, 1)) (hn : pc + 1 = n) (k : AW E R M ws ce sl n lv (.int (Int32.ofNat (q_L E)) :: st) r) : AW E R M ws ce sl pc lv (.ref 900 :: st) r := by
  subst hn
  intro p e s m args below meth c H locs ls hC hP hS hl
  obtain ⟨h0, ht, hx, hb, hml, hr, hlk, hh, hown, hnm, hn0⟩ := id hC
  obtain ⟨hX, hbl, hbA⟩ := q_sX h0 ht
  exact va_slen hx hb hX hbl hbA hS hd (k p e s m args below meth c H locs ls hC hP hS hl)
theorem q_exact {s : State} {H : Heap} {locs : List Loc} {k0 : Nat} (ht : q_St E s) (hP : va_P (q_DD E) q_cl (q_wz (q_g E) ws) H) (hS : va_S (q_A (q_g E)) s.heap H locs) (hs : s.heap.size = (q_g E).1 + k0) (hce : k0 + ce = ws.length) (hsz : H.size ≤ s.heap.size + ce) : H.size = (q_g E).1 + ws.length := by
  have h1 := q_len hP (Nat.le_trans ht.2.1 hS.1)
  omega
theorem q_new {idx ci k0 N : Nat} {C : String} {T : u_T} {fs : List Value} (n : Nat) (hd : decode M.1 pc = .ok (.new idx, 3)) (hn : pc + 3 = n) (hN : M.2.2.2.2.2.2 = some k0) (hce : k0 + ce = ws.length) (hq : ws.length < 900) (hc : q_cl[ci]? = some (C, T, N)) (hw1 : Cond.classLink M.2.2.2.1 idx C ∈ lw_tbl) (hw2 : Cond.instantiable C N ∈ lw_tbl) (hw3 : Cond.initialized C ∈ lw_tbl) (ty : Nat → FieldType) (hty : ∀ k, k < N → parseFieldDescriptor (T k).2.2.1 = some (ty k)) (hfs : ∀ j, j < N → defaultValue (ty j) = vp_V (fs.map (q_cv (q_g E))) j) (hcells : ce + 1 ≤ R.cells) (hslots : sl + N ≤ R.slots) (k : AW E R M (ws ++ [.inr (ci, fs)]) (ce + 1) (sl + N) n lv (.ref ws.length :: st) r) : AW E R M ws ce sl pc lv (st) r := by
  subst hn
  intro p e s m args below meth c H locs ls hC hP hS hl
  obtain ⟨h0, ht, hx, hb, hml, hr, hlk, hh, hown, hnm, hn0⟩ := id hC
  refine q_size (fun hsz => ?_)
  have hH := q_exact ht hP hS (hn0 _ hN) hce hsz
  have hKn := (ht.K h0).1 ci _ hc
  refine W.newcK (h := (q_g E).1 + ws.length) hx hb hown (q_w h0 ht hw1 rfl) (q_w h0 ht hw2 rfl) (q_w h0 ht hw3 rfl) rfl hd hcells hslots hKn.2.1 hH fun H1 kC hkC e1 z1 o1 => ?_
  have hk : ∀ (k : Nat) (x : Nat × va_E), (q_wz (q_g E) ws)[k]? = some x → H1[x.1]? = H[x.1]? := fun k x hx => o1 x.1 (by have := (hP k x hx).lt; omega)
  have hnew : va_at (q_DD E) q_cl ((q_g E).1 + ws.length, q_ce (q_g E) (.inr (ci, fs))) H1 := ⟨_, hc, (u_born ty (q_hts (args := args) h0 ht hc) (fun w h => h) hKn hkC e1 hty).to hfs⟩
  have hP1 : va_P (q_DD E) q_cl (q_wz (q_g E) (ws ++ [.inr (ci, fs)])) H1 := by
    rw [← q_wz_push]
    refine (hP.kept hk).app (fun j x hx => ?_)
    have hz : j < 1 := (List.getElem?_eq_some_iff.mp hx).1
    rw [show j = 0 by omega] at hx
    cases hx
    exact hnew
  have hS1 : va_S (q_A (q_g E)) s.heap H1 locs := ⟨Nat.le_trans hS.1 (by omega), fun x h1 h2 => (o1 x (by have := hS.1; omega)).trans (hS.2.1 x h1 h2), hS.2.2⟩
  have hg := k p e s m args below meth c H1 locs ls hC hP1 hS1 hl
  rw [List.map_cons, q_ref hq] at hg
  exact hg
theorem q_newa {at0 : ArrayType} {t k0 N : Nat} {z : Int32} {a0 : vp_A} {ty : FieldType} (n : Nat) (hd : decode M.1 pc = .ok (.newarray at0, 2)) (hn : pc + 2 = n) (hN : M.2.2.2.2.2.2 = some k0) (hce : k0 + ce = ws.length) (hq : ws.length < 900) (hty : newarray.typeOf at0 = ty) (ht0 : (q_tys E)[t]? = some (q_kA E t, ty)) (hnr : (∃ c, ty = .object c) → False) (hw1 : Cond.arrayClass ty ∈ lw_tbl) (ha : ∀ cA : ClassId, vp_cell cA a0 = arrV cA N (fun _ => defaultValue ty)) (hz0 : ¬ z < 0) (hzN : z.toNatClampNeg = N) (hby : N * componentBytes ty ≤ 536870912) (hcells : ce + 1 ≤ R.cells) (hslots : sl + N ≤ R.slots) (k : AW E R M (ws ++ [.inl (q_kA E t, a0)]) (ce + 1) (sl + N) n lv (.ref ws.length :: st) r) : AW E R M ws ce sl pc lv (.int z :: st) r := by
  subst hn
  subst hty
  intro p e s m args below meth c H locs ls hC hP hS hl
  obtain ⟨h0, ht, hx, hb, hml, hr, hlk, hh, hown, hnm, hn0⟩ := id hC
  refine q_size (fun hsz => ?_)
  have hH := q_exact ht hP hS (hn0 _ hN) hce hsz
  have hKA := ((ht.K h0).2 t _ ht0).2
  refine va_newaK (h := (q_g E).1 + ws.length) hx hb (q_wA h0 ht hw1) rfl hd rfl hz0 hzN hby hcells hslots hH fun H1 cA e1 z1 o1 _ hNm => ?_
  have hcA : cA = q_kA E t := by
    have h2 : s.vm.findClass ("[" ++ (newarray.typeOf at0).toString) = some (q_kA E t) := by
      cases at0 <;> exact hKA
    exact Option.some.inj (hNm.symm.trans h2)
  subst hcA
  have hk : ∀ (k : Nat) (x : Nat × va_E), (q_wz (q_g E) ws)[k]? = some x → H1[x.1]? = H[x.1]? := fun k x hx => o1 x.1 (by have := (hP k x hx).lt; omega)
  have hnew : va_at (q_DD E) q_cl ((q_g E).1 + ws.length, q_ce (q_g E) (.inl (q_kA E t, a0))) H1 := by
    show H1[(q_g E).1 + ws.length]? = some (vp_cell _ _)
    rw [ha]
    exact e1
  have hP1 : va_P (q_DD E) q_cl (q_wz (q_g E) (ws ++ [.inl (q_kA E t, a0)])) H1 := by
    rw [← q_wz_push]
    refine (hP.kept hk).app (fun j x hx => ?_)
    have hz : j < 1 := (List.getElem?_eq_some_iff.mp hx).1
    rw [show j = 0 by omega] at hx
    cases hx
    exact hnew
  have hS1 : va_S (q_A (q_g E)) s.heap H1 locs := ⟨Nat.le_trans hS.1 (by omega), fun x h1 h2 => (o1 x (by have := hS.1; omega)).trans (hS.2.1 x h1 h2), hS.2.2⟩
  have hg := k p e s m args below meth c H1 locs ls hC hP1 hS1 hl
  rw [List.map_cons, q_ref hq] at hg
  exact hg
theorem q_ofMQ {below : List Frame} {args : Array Value} {s : State} {H : Heap} {locs : List Loc} {mc ms : Nat} {o : Outcome} {x : Option Value ⊕ Nat} (hP : va_P (q_DD E) q_cl (q_wz (q_g E) ws) H) (hS : va_S (q_A (q_g E)) s.heap H locs) (ho : ∀ t : State, t.heap = H → q_Out E x o s t) (hm : ce ≤ mc) (hn : sl ≤ ms) :
    ∀ t, MQ below (fun _ _ o' t' => o' = o ∧ t'.heap = H) args s ce sl (q_A (q_g E)) t → q_End E (x, ws, mc, ms) s below t := by
  rintro t ⟨o', h1, h2, ⟨rfl, h4⟩, L, ⟨-, h5, h6⟩, h7⟩
  exact ⟨_, h1, h2, ho t h4, by rw [h4]; exact hP, hS.F h4, h5, L, h6.mono hm hn, h7⟩
theorem q_iret {v : Int32} {mc ms : Nat} (hd : decode M.1 pc = .ok (.ireturn, 1)) (hrt : M.2.2.1 = some .int) (hm : ce ≤ mc) (hn : sl ≤ ms) : AW E R M ws ce sl pc lv [.int v] (.inl (some (.int v)), ws, mc, ms) := by
  intro p e s m args below meth c H locs ls hC hP hS hl
  obtain ⟨h0, ht, hx, hb, hml, hr, hlk, hh, hown, hnm, hn0⟩ := id hC
  refine q_mono (q_ofMQ (args := args) hP hS (o := .returned (some (.int v))) (fun t _ => rfl) hm hn) ?_
  exact W.iret hx hb (hr.trans hrt) (fun t ht _ => ⟨rfl, ht⟩) hS.2.2 hd
theorem q_vret {mc ms : Nat} (hd : decode M.1 pc = .ok (.return_, 1)) (hrt : M.2.2.1 = none) (hm : ce ≤ mc) (hn : sl ≤ ms) : AW E R M ws ce sl pc lv [] (.inl none, ws, mc, ms) := by
  intro p e s m args below meth c H locs ls hC hP hS hl
  obtain ⟨h0, ht, hx, hb, hml, hr, hlk, hh, hown, hnm, hn0⟩ := id hC
  refine q_mono (q_ofMQ (args := args) hP hS (o := .returned none) (fun t _ => rfl) hm hn) ?_
  exact W.vret hx hb (hr.trans hrt) (fun t ht _ => ⟨rfl, ht⟩) hS.2.2 hd
/-- a boolean answer: its lowest bit -/
def q_nb (v : Int32) : Int32 := vp_nar .boolean v
theorem q_nb_narrow (v : Int32) : narrow .boolean (.int v) = .int (q_nb v) := rfl
theorem q_zret {v : Int32} {mc ms : Nat} (hd : decode M.1 pc = .ok (.ireturn, 1)) (hrt : M.2.2.1 = some .boolean) (hm : ce ≤ mc) (hn : sl ≤ ms) : AW E R M ws ce sl pc lv [.int v] (.inl (some (.int (q_nb v))), ws, mc, ms) := by
  intro p e s m args below meth c H locs ls hC hP hS hl
  obtain ⟨h0, ht, hx, hb, hml, hr, hlk, hh, hown, hnm, hn0⟩ := id hC
  have hn' := q_nb_narrow v
  have hr' := hr.trans hrt
  intro T hT X
  obtain ⟨fs, hret, hrun, hended, hW, hframe⟩ := X.leave (v := some (.int (q_nb v))) (hlocks := hlk) (fun h => by rw [hr'] at h; cases h)
  have hmeth' : T.vm.method? m = some meth := X.method'
  have hend : q_End E (.inl (some (.int (q_nb v))), ws, mc, ms) s below (T.setFrames fs) := ⟨_, hrun, hended, rfl, by rw [show (T.setFrames fs).heap = H from hT]; exact hP, hS.F hT, hW, locs, hframe.mono hm hn, hS.2.2⟩
  refine ⟨T.setFrames fs, ?_, hend⟩
  show Steps p.tables e below (T.setTop (F0 m pc ls [.int v])) _
  jvm_step X.here [X.here.top, hx, hb, hd, hmeth', hr', hn']
  (try refine ⟨rfl, ?_⟩); (try refine ⟨rfl, ?_⟩)
  first | (intro acts; rw [hret _ acts rfl rfl rfl]) | rw [hret _ _ rfl rfl rfl]
  exact Steps.refl _
end QR
end
section
def q_of (o : Int64) : Nat → Int64 := fun j => if j = 0 then o else 0
/-- the cell at place p of the made world -/
def q_mk (E : q_E) (c d : Nat) (o : Int64) (p : Nat) (f : Nat → Int32) : va_E := match p with
  | 0 => .inr (0, [.ref 1, .ref 3, .ref 11, .ref 14, .ref c, .ref d, .int (f 6), .int (f 7)])
  | 1 => .inr (1, [.ref 2, .int (f 1), .int (f 2)])
  | 2 => .inl (q_kA E 2, 18, .inl f)
  | 3 => .inr (3, [.ref 4, .ref 5, .ref 6, .ref 7, .ref 8, .ref 9, .ref 10, .int (f 7), .int (f 8), .int (f 9)])
  | 4 => .inl (q_kA E 0, 256, .inl f)
  | 5 => .inl (q_kA E 0, 256, .inl f)
  | 6 => .inl (q_kA E 0, 256, .inl f)
  | 7 => .inl (q_kA E 1, 256, .inl f)
  | 8 => .inl (q_kA E 1, 256, .inl f)
  | 9 => .inl (q_kA E 0, 1280, .inl f)
  | 10 => .inl (q_kA E 0, 256, .inl f)
  | 11 => .inr (4, [.ref 12, .ref 13, .int (f 2), .int (f 3)])
  | 12 => .inl (q_kA E 0, 1281, .inl f)
  | 13 => .inl (q_kA E 0, 1280, .inl f)
  | 14 => .inr (5, [.ref 15, .int (f 1), .int (f 2)])
  | 15 => .inl (q_kA E 0, 16, .inl f)
  | 16 => .inr (2, [.ref 17, .ref 18, .ref 19, .ref 20, .ref 21, .ref 22, .ref 23, .int (f 7), .int (f 8), .int (f 9)])
  | 17 => .inl (q_kA E 0, 18, .inl f)
  | 18 => .inl (q_kA E 0, 18, .inl f)
  | 19 => .inl (q_kA E 0, 18, .inl f)
  | 20 => .inl (q_kA E 0, 18, .inl f)
  | 21 => .inl (q_kA E 0, 5, .inl f)
  | 22 => .inl (q_kA E 0, 5, .inl f)
  | 23 => .inl (q_kA E 0, 18, .inl f)
  | 24 => .inr (2, [.ref 25, .ref 26, .ref 27, .ref 28, .ref 29, .ref 30, .ref 31, .int (f 7), .int (f 8), .int (f 9)])
  | 25 => .inl (q_kA E 0, 18, .inl f)
  | 26 => .inl (q_kA E 0, 18, .inl f)
  | 27 => .inl (q_kA E 0, 18, .inl f)
  | 28 => .inl (q_kA E 0, 18, .inl f)
  | 29 => .inl (q_kA E 0, 5, .inl f)
  | 30 => .inl (q_kA E 0, 5, .inl f)
  | 31 => .inl (q_kA E 0, 18, .inl f)
  | 32 => .inr (6, [.int (f 0), .ref 33, .int (f 2), .int (f 3), .int (f 4), .ref 34, .ref 35, .ref 36, .ref 37, .int (f 9), .ref 38, .int (f 11), .ref 39, .int (f 13), .ref 40, .ref 41, .ref 42, .ref 43, .int (f 18), .ref 44, .int (f 20), .ref 45, .int (f 22), .ref 46, .ref 47, .ref 48, .ref 49, .ref 50, .ref 51, .ref 52, .ref 53, .ref 54, .int (f 32), .int (f 33), .ref 55, .ref 56, .int (f 36), .int (f 37), .ref 57, .ref 58])
  | 33 => .inl (q_kA E 0, 18, .inl f)
  | 34 => .inl (q_kA E 0, 18, .inl f)
  | 35 => .inl (q_kA E 0, 18, .inl f)
  | 36 => .inl (q_kA E 0, 18, .inl f)
  | 37 => .inl (q_kA E 0, 18, .inl f)
  | 38 => .inl (q_kA E 0, 5, .inl f)
  | 39 => .inl (q_kA E 0, 5, .inl f)
  | 40 => .inl (q_kA E 0, 18, .inl f)
  | 41 => .inl (q_kA E 0, 18, .inl f)
  | 42 => .inl (q_kA E 0, 18, .inl f)
  | 43 => .inl (q_kA E 0, 18, .inl f)
  | 44 => .inl (q_kA E 0, 18, .inl f)
  | 45 => .inl (q_kA E 0, 18, .inl f)
  | 46 => .inl (q_kA E 0, 256, .inl f)
  | 47 => .inl (q_kA E 1, 256, .inl f)
  | 48 => .inl (q_kA E 0, 256, .inl f)
  | 49 => .inl (q_kA E 0, 256, .inl f)
  | 50 => .inl (q_kA E 1, 18, .inl f)
  | 51 => .inl (q_kA E 1, 256, .inl f)
  | 52 => .inl (q_kA E 1, 256, .inl f)
  | 53 => .inl (q_kA E 1, 32, .inl f)
  | 54 => .inl (q_kA E 0, 1280, .inl f)
  | 55 => .inl (q_kA E 0, 1280, .inl f)
  | 56 => .inl (q_kA E 0, 1280, .inl f)
  | 57 => .inl (q_kA E 0, 16, .inl f)
  | 58 => .inl (q_kA E 1, 288, .inl f)
  | 59 => .inl (q_kA E 3, 1, .inr (.inl (q_of o)))
  | _ => .inl (q_kA E 0, 0, .inl f)
theorem q_mk_out {E : q_E} {c d : Nat} {o o' : Int64} {f : Nat → Int32} {p : Nat} (h : p ≠ q_PO) : q_mk E c d o p f = q_mk E c d o' p f := by
  unfold q_mk
  split <;> first | rfl | exact absurd rfl h
theorem q_mk_cd {E : q_E} {c d c' d' : Nat} {o : Int64} {f : Nat → Int32} {p : Nat} (h : p ≠ 0) : q_mk E c d o p f = q_mk E c' d' o p f := by
  unfold q_mk
  split <;> first | rfl | exact absurd rfl h
def q_cd (c d : Nat) : Prop := (c = 16 ∧ d = 24) ∨ (c = 24 ∧ d = 16)
end
section
def y_D_type : MethodName := ⟨"LassoDesk", "type", "(I)Z"⟩
abbrev m_D_type : q_M := (prog_1_method_2_code, 3, (Option.some Jvm.ClassFile.FieldType.boolean), "LassoDesk", "type", [], none)
def y_D_formula : MethodName := ⟨"LassoDesk", "formula", "()I"⟩
abbrev m_D_formula : q_M := (prog_1_method_3_code, 3, (Option.some Jvm.ClassFile.FieldType.int), "LassoDesk", "formula", [], none)
def y_D_states : MethodName := ⟨"LassoDesk", "states", "()I"⟩
abbrev m_D_states : q_M := (prog_1_method_4_code, 1, (Option.some Jvm.ClassFile.FieldType.int), "LassoDesk", "states", [], none)
def y_D_isAt : MethodName := ⟨"LassoDesk", "isAt", "(I)Z"⟩
abbrev m_D_isAt : q_M := (prog_1_method_5_code, 2, (Option.some Jvm.ClassFile.FieldType.boolean), "LassoDesk", "isAt", [], none)
def y_D_leads : MethodName := ⟨"LassoDesk", "leads", "(II)Z"⟩
abbrev m_D_leads : q_M := (prog_1_method_6_code, 3, (Option.some Jvm.ClassFile.FieldType.boolean), "LassoDesk", "leads", [], none)
def y_D_lasts : MethodName := ⟨"LassoDesk", "lasts", "(I)Z"⟩
abbrev m_D_lasts : q_M := (prog_1_method_7_code, 2, (Option.some Jvm.ClassFile.FieldType.boolean), "LassoDesk", "lasts", [], none)
def y_D_lasting : MethodName := ⟨"LassoDesk", "lasting", "()I"⟩
abbrev m_D_lasting : q_M := (prog_1_method_8_code, 1, (Option.some Jvm.ClassFile.FieldType.int), "LassoDesk", "lasting", [], none)
def y_D_promises : MethodName := ⟨"LassoDesk", "promises", "()I"⟩
abbrev m_D_promises : q_M := (prog_1_method_9_code, 1, (Option.some Jvm.ClassFile.FieldType.int), "LassoDesk", "promises", [], none)
def y_D_can : MethodName := ⟨"LassoDesk", "can", "()Z"⟩
abbrev m_D_can : q_M := (prog_1_method_10_code, 1, (Option.some Jvm.ClassFile.FieldType.boolean), "LassoDesk", "can", [], none)
def y_D_stem : MethodName := ⟨"LassoDesk", "stem", "()I"⟩
abbrev m_D_stem : q_M := (prog_1_method_11_code, 1, (Option.some Jvm.ClassFile.FieldType.int), "LassoDesk", "stem", [], none)
def y_D_loop : MethodName := ⟨"LassoDesk", "loop", "()I"⟩
abbrev m_D_loop : q_M := (prog_1_method_12_code, 1, (Option.some Jvm.ClassFile.FieldType.int), "LassoDesk", "loop", [], none)
def y_D_step : MethodName := ⟨"LassoDesk", "step", "(I)I"⟩
abbrev m_D_step : q_M := (prog_1_method_13_code, 2, (Option.some Jvm.ClassFile.FieldType.int), "LassoDesk", "step", [], none)
def y_D_shape : MethodName := ⟨"LassoDesk", "shape", "(II)V"⟩
abbrev m_D_shape : q_M := (prog_1_method_14_code, 3, (Option.none : Option Jvm.ClassFile.FieldType), "LassoDesk", "shape", [], none)
def y_D_set : MethodName := ⟨"LassoDesk", "set", "(II)I"⟩
abbrev m_D_set : q_M := (prog_1_method_15_code, 3, (Option.some Jvm.ClassFile.FieldType.int), "LassoDesk", "set", [], none)
def y_D_adopt : MethodName := ⟨"LassoDesk", "adopt", "()Z"⟩
abbrev m_D_adopt : q_M := (prog_1_method_16_code, 1, (Option.some Jvm.ClassFile.FieldType.boolean), "LassoDesk", "adopt", [], none)
def y_D_letter : MethodName := ⟨"LassoDesk", "letter", "(I)I"⟩
abbrev m_D_letter : q_M := (prog_1_method_17_code, 2, (Option.some Jvm.ClassFile.FieldType.int), "LassoDesk", "letter", [], none)
def y_D_holds : MethodName := ⟨"LassoDesk", "holds", "(I)Z"⟩
abbrev m_D_holds : q_M := (prog_1_method_18_code, 2, (Option.some Jvm.ClassFile.FieldType.boolean), "LassoDesk", "holds", [], none)
def y_D_requireFormula : MethodName := ⟨"LassoDesk", "requireFormula", "()V"⟩
abbrev m_D_requireFormula : q_M := (prog_1_method_19_code, 1, (Option.none : Option Jvm.ClassFile.FieldType), "LassoDesk", "requireFormula", [], none)
def y_D_requireState : MethodName := ⟨"LassoDesk", "requireState", "(I)V"⟩
abbrev m_D_requireState : q_M := (prog_1_method_20_code, 2, (Option.none : Option Jvm.ClassFile.FieldType), "LassoDesk", "requireState", [], none)
def y_D_requirePlace : MethodName := ⟨"LassoDesk", "requirePlace", "(I)V"⟩
abbrev m_D_requirePlace : q_M := (prog_1_method_21_code, 2, (Option.none : Option Jvm.ClassFile.FieldType), "LassoDesk", "requirePlace", [], none)
def y_D_settle : MethodName := ⟨"LassoDesk", "settle", "()V"⟩
abbrev m_D_settle : q_M := (prog_1_method_22_code, 1, (Option.none : Option Jvm.ClassFile.FieldType), "LassoDesk", "settle", [], none)
def y_D_hasBit : MethodName := ⟨"LassoDesk", "hasBit", "(II)Z"⟩
abbrev m_D_hasBit : q_M := (prog_1_method_23_code, 2, (Option.some Jvm.ClassFile.FieldType.boolean), "LassoDesk", "hasBit", [], none)
def y_D_isTemporal : MethodName := ⟨"LassoDesk", "isTemporal", "(I)Z"⟩
abbrev m_D_isTemporal : q_M := (prog_1_method_24_code, 1, (Option.some Jvm.ClassFile.FieldType.boolean), "LassoDesk", "isTemporal", [], none)
def y_Mo_thrown : MethodName := ⟨"LassoDeskModel", "thrown", "()I"⟩
abbrev m_Mo_thrown : q_M := (prog_8_method_2_code, 1, (Option.some Jvm.ClassFile.FieldType.int), "LassoDeskModel", "thrown", [], none)
def y_Mo_type : MethodName := ⟨"LassoDeskModel", "type", "(I)Z"⟩
abbrev m_Mo_type : q_M := (prog_8_method_3_code, 7, (Option.some Jvm.ClassFile.FieldType.boolean), "LassoDeskModel", "type", [], none)
def y_Mo_tightness : MethodName := ⟨"LassoDeskModel", "tightness", "(I)I"⟩
abbrev m_Mo_tightness : q_M := (prog_8_method_4_code, 1, (Option.some Jvm.ClassFile.FieldType.int), "LassoDeskModel", "tightness", [], none)
def y_Mo_isTemporal : MethodName := ⟨"LassoDeskModel", "isTemporal", "(I)Z"⟩
abbrev m_Mo_isTemporal : q_M := (prog_8_method_5_code, 1, (Option.some Jvm.ClassFile.FieldType.boolean), "LassoDeskModel", "isTemporal", [], none)
def y_Mo_part : MethodName := ⟨"LassoDeskModel", "part", "(IIII)V"⟩
abbrev m_Mo_part : q_M := (prog_8_method_6_code, 5, (Option.none : Option Jvm.ClassFile.FieldType), "LassoDeskModel", "part", [], none)
def y_Mo_taken : MethodName := ⟨"LassoDeskModel", "taken", "()I"⟩
abbrev m_Mo_taken : q_M := (prog_8_method_7_code, 1, (Option.some Jvm.ClassFile.FieldType.int), "LassoDeskModel", "taken", [], none)
def y_Mo_settle : MethodName := ⟨"LassoDeskModel", "settle", "(I)V"⟩
abbrev m_Mo_settle : q_M := (prog_8_method_8_code, 5, (Option.none : Option Jvm.ClassFile.FieldType), "LassoDeskModel", "settle", [], none)
def y_Mo_push : MethodName := ⟨"LassoDeskModel", "push", "(I)V"⟩
abbrev m_Mo_push : q_M := (prog_8_method_9_code, 2, (Option.none : Option Jvm.ClassFile.FieldType), "LassoDeskModel", "push", [], none)
def y_Mo_leafOf : MethodName := ⟨"LassoDeskModel", "leafOf", "(I)I"⟩
abbrev m_Mo_leafOf : q_M := (prog_8_method_10_code, 1, (Option.some Jvm.ClassFile.FieldType.int), "LassoDeskModel", "leafOf", [], none)
def y_Mo_prefixOf : MethodName := ⟨"LassoDeskModel", "prefixOf", "(I)I"⟩
abbrev m_Mo_prefixOf : q_M := (prog_8_method_11_code, 1, (Option.some Jvm.ClassFile.FieldType.int), "LassoDeskModel", "prefixOf", [], none)
def y_Mo_signOf : MethodName := ⟨"LassoDeskModel", "signOf", "(I)I"⟩
abbrev m_Mo_signOf : q_M := (prog_8_method_12_code, 1, (Option.some Jvm.ClassFile.FieldType.int), "LassoDeskModel", "signOf", [], none)
def y_Mo_reads : MethodName := ⟨"LassoDeskModel", "reads", "(I)Z"⟩
abbrev m_Mo_reads : q_M := (prog_8_method_13_code, 8, (Option.some Jvm.ClassFile.FieldType.boolean), "LassoDeskModel", "reads", [], none)
def y_Mo_formula : MethodName := ⟨"LassoDeskModel", "formula", "()I"⟩
abbrev m_Mo_formula : q_M := (prog_8_method_14_code, 3, (Option.some Jvm.ClassFile.FieldType.int), "LassoDeskModel", "formula", [], none)
def y_Mo_count : MethodName := ⟨"LassoDeskModel", "count", "()I"⟩
abbrev m_Mo_count : q_M := (prog_8_method_15_code, 1, (Option.some Jvm.ClassFile.FieldType.int), "LassoDeskModel", "count", [], none)
def y_Mo_valueOf : MethodName := ⟨"LassoDeskModel", "valueOf", "(IZI)Z"⟩
abbrev m_Mo_valueOf : q_M := (prog_8_method_16_code, 6, (Option.some Jvm.ClassFile.FieldType.boolean), "LassoDeskModel", "valueOf", [], none)
def y_Mo_look : MethodName := ⟨"LassoDeskModel", "look", "(I)V"⟩
abbrev m_Mo_look : q_M := (prog_8_method_17_code, 8, (Option.none : Option Jvm.ClassFile.FieldType), "LassoDeskModel", "look", [], none)
def y_Mo_goes : MethodName := ⟨"LassoDeskModel", "goes", "(II)Z"⟩
abbrev m_Mo_goes : q_M := (prog_8_method_18_code, 3, (Option.some Jvm.ClassFile.FieldType.boolean), "LassoDeskModel", "goes", [], none)
def y_Mo_noteSome : MethodName := ⟨"LassoDeskModel", "noteSome", "()V"⟩
abbrev m_Mo_noteSome : q_M := (prog_8_method_19_code, 2, (Option.none : Option Jvm.ClassFile.FieldType), "LassoDeskModel", "noteSome", [], none)
def y_Mo_leadsToOne : MethodName := ⟨"LassoDeskModel", "leadsToOne", "(I)Z"⟩
abbrev m_Mo_leadsToOne : q_M := (prog_8_method_20_code, 2, (Option.some Jvm.ClassFile.FieldType.boolean), "LassoDeskModel", "leadsToOne", [], none)
def y_Mo_countSteps : MethodName := ⟨"LassoDeskModel", "countSteps", "(I)V"⟩
abbrev m_Mo_countSteps : q_M := (prog_8_method_21_code, 5, (Option.none : Option Jvm.ClassFile.FieldType), "LassoDeskModel", "countSteps", [], none)
def y_Mo_takeOut : MethodName := ⟨"LassoDeskModel", "takeOut", "()V"⟩
abbrev m_Mo_takeOut : q_M := (prog_8_method_22_code, 4, (Option.none : Option Jvm.ClassFile.FieldType), "LassoDeskModel", "takeOut", [], none)
def y_Mo_isDue : MethodName := ⟨"LassoDeskModel", "isDue", "(II)Z"⟩
abbrev m_Mo_isDue : q_M := (prog_8_method_23_code, 3, (Option.some Jvm.ClassFile.FieldType.boolean), "LassoDeskModel", "isDue", [], none)
def y_Mo_dutyAt : MethodName := ⟨"LassoDeskModel", "dutyAt", "(II)I"⟩
abbrev m_Mo_dutyAt : q_M := (prog_8_method_24_code, 5, (Option.some Jvm.ClassFile.FieldType.int), "LassoDeskModel", "dutyAt", [], none)
def y_Mo_nextOf : MethodName := ⟨"LassoDeskModel", "nextOf", "(II)I"⟩
abbrev m_Mo_nextOf : q_M := (prog_8_method_25_code, 8, (Option.some Jvm.ClassFile.FieldType.int), "LassoDeskModel", "nextOf", [], none)
def y_Mo_firstState : MethodName := ⟨"LassoDeskModel", "firstState", "()I"⟩
abbrev m_Mo_firstState : q_M := (prog_8_method_26_code, 2, (Option.some Jvm.ClassFile.FieldType.int), "LassoDeskModel", "firstState", [], none)
def y_Mo_goWalk : MethodName := ⟨"LassoDeskModel", "goWalk", "()V"⟩
abbrev m_Mo_goWalk : q_M := (prog_8_method_27_code, 5, (Option.none : Option Jvm.ClassFile.FieldType), "LassoDeskModel", "goWalk", [], none)
def y_Mo_refused : MethodName := ⟨"LassoDeskModel", "refused", "(Z)Z"⟩
abbrev m_Mo_refused : q_M := (prog_8_method_28_code, 2, (Option.some Jvm.ClassFile.FieldType.boolean), "LassoDeskModel", "refused", [], none)
def y_Mo_isState : MethodName := ⟨"LassoDeskModel", "isState", "(I)Z"⟩
abbrev m_Mo_isState : q_M := (prog_8_method_29_code, 2, (Option.some Jvm.ClassFile.FieldType.boolean), "LassoDeskModel", "isState", [], none)
def y_Mo_states : MethodName := ⟨"LassoDeskModel", "states", "()I"⟩
abbrev m_Mo_states : q_M := (prog_8_method_30_code, 1, (Option.some Jvm.ClassFile.FieldType.int), "LassoDeskModel", "states", [], none)
def y_Mo_isAt : MethodName := ⟨"LassoDeskModel", "isAt", "(I)Z"⟩
abbrev m_Mo_isAt : q_M := (prog_8_method_31_code, 2, (Option.some Jvm.ClassFile.FieldType.boolean), "LassoDeskModel", "isAt", [], none)
def y_Mo_leads : MethodName := ⟨"LassoDeskModel", "leads", "(II)Z"⟩
abbrev m_Mo_leads : q_M := (prog_8_method_32_code, 3, (Option.some Jvm.ClassFile.FieldType.boolean), "LassoDeskModel", "leads", [], none)
def y_Mo_lasts : MethodName := ⟨"LassoDeskModel", "lasts", "(I)Z"⟩
abbrev m_Mo_lasts : q_M := (prog_8_method_33_code, 2, (Option.some Jvm.ClassFile.FieldType.boolean), "LassoDeskModel", "lasts", [], none)
def y_Mo_lasting : MethodName := ⟨"LassoDeskModel", "lasting", "()I"⟩
abbrev m_Mo_lasting : q_M := (prog_8_method_34_code, 3, (Option.some Jvm.ClassFile.FieldType.int), "LassoDeskModel", "lasting", [], none)
def y_Mo_promises : MethodName := ⟨"LassoDeskModel", "promises", "()I"⟩
abbrev m_Mo_promises : q_M := (prog_8_method_35_code, 1, (Option.some Jvm.ClassFile.FieldType.int), "LassoDeskModel", "promises", [], none)
def y_Mo_can : MethodName := ⟨"LassoDeskModel", "can", "()Z"⟩
abbrev m_Mo_can : q_M := (prog_8_method_36_code, 1, (Option.some Jvm.ClassFile.FieldType.boolean), "LassoDeskModel", "can", [], none)
def y_Mo_stem : MethodName := ⟨"LassoDeskModel", "stem", "()I"⟩
abbrev m_Mo_stem : q_M := (prog_8_method_37_code, 1, (Option.some Jvm.ClassFile.FieldType.int), "LassoDeskModel", "stem", [], none)
def y_Mo_loop : MethodName := ⟨"LassoDeskModel", "loop", "()I"⟩
abbrev m_Mo_loop : q_M := (prog_8_method_38_code, 1, (Option.some Jvm.ClassFile.FieldType.int), "LassoDeskModel", "loop", [], none)
def y_Mo_step : MethodName := ⟨"LassoDeskModel", "step", "(I)I"⟩
abbrev m_Mo_step : q_M := (prog_8_method_39_code, 2, (Option.some Jvm.ClassFile.FieldType.int), "LassoDeskModel", "step", [], none)
def y_Mo_shape : MethodName := ⟨"LassoDeskModel", "shape", "(II)V"⟩
abbrev m_Mo_shape : q_M := (prog_8_method_40_code, 4, (Option.none : Option Jvm.ClassFile.FieldType), "LassoDeskModel", "shape", [], none)
def y_Mo_set : MethodName := ⟨"LassoDeskModel", "set", "(II)I"⟩
abbrev m_Mo_set : q_M := (prog_8_method_41_code, 4, (Option.some Jvm.ClassFile.FieldType.int), "LassoDeskModel", "set", [], none)
def y_Mo_adopt : MethodName := ⟨"LassoDeskModel", "adopt", "()Z"⟩
abbrev m_Mo_adopt : q_M := (prog_8_method_42_code, 2, (Option.some Jvm.ClassFile.FieldType.boolean), "LassoDeskModel", "adopt", [], none)
def y_Mo_placeOf : MethodName := ⟨"LassoDeskModel", "placeOf", "(I)I"⟩
abbrev m_Mo_placeOf : q_M := (prog_8_method_43_code, 2, (Option.some Jvm.ClassFile.FieldType.int), "LassoDeskModel", "placeOf", [], none)
def y_Mo_letter : MethodName := ⟨"LassoDeskModel", "letter", "(I)I"⟩
abbrev m_Mo_letter : q_M := (prog_8_method_44_code, 2, (Option.some Jvm.ClassFile.FieldType.int), "LassoDeskModel", "letter", [], none)
def y_Mo_spread : MethodName := ⟨"LassoDeskModel", "spread", "(I)V"⟩
abbrev m_Mo_spread : q_M := (prog_8_method_45_code, 7, (Option.none : Option Jvm.ClassFile.FieldType), "LassoDeskModel", "spread", [], none)
def y_Mo_holds : MethodName := ⟨"LassoDeskModel", "holds", "(I)Z"⟩
abbrev m_Mo_holds : q_M := (prog_8_method_46_code, 3, (Option.some Jvm.ClassFile.FieldType.boolean), "LassoDeskModel", "holds", [], none)
def y_Fo_clear : MethodName := ⟨"LassoDesk$Formula", "clear", "()V"⟩
abbrev m_Fo_clear : q_M := (prog_2_method_2_code, 1, (Option.none : Option Jvm.ClassFile.FieldType), "LassoDesk$Formula", "clear", [], none)
def y_Fo_add : MethodName := ⟨"LassoDesk$Formula", "add", "(IIII)I"⟩
abbrev m_Fo_add : q_M := (prog_2_method_3_code, 5, (Option.some Jvm.ClassFile.FieldType.int), "LassoDesk$Formula", "add", [], none)
def y_Fo_listPromises : MethodName := ⟨"LassoDesk$Formula", "listPromises", "()V"⟩
abbrev m_Fo_listPromises : q_M := (prog_2_method_4_code, 2, (Option.none : Option Jvm.ClassFile.FieldType), "LassoDesk$Formula", "listPromises", [], none)
def y_Fo_size : MethodName := ⟨"LassoDesk$Formula", "size", "()I"⟩
abbrev m_Fo_size : q_M := (prog_2_method_5_code, 1, (Option.some Jvm.ClassFile.FieldType.int), "LassoDesk$Formula", "size", [], none)
def y_Fo_stateCount : MethodName := ⟨"LassoDesk$Formula", "stateCount", "()I"⟩
abbrev m_Fo_stateCount : q_M := (prog_2_method_6_code, 1, (Option.some Jvm.ClassFile.FieldType.int), "LassoDesk$Formula", "stateCount", [], none)
def y_Fo_promiseCount : MethodName := ⟨"LassoDesk$Formula", "promiseCount", "()I"⟩
abbrev m_Fo_promiseCount : q_M := (prog_2_method_7_code, 1, (Option.some Jvm.ClassFile.FieldType.int), "LassoDesk$Formula", "promiseCount", [], none)
def y_Fo_isWholeIn : MethodName := ⟨"LassoDesk$Formula", "isWholeIn", "(I)Z"⟩
abbrev m_Fo_isWholeIn : q_M := (prog_2_method_8_code, 2, (Option.some Jvm.ClassFile.FieldType.boolean), "LassoDesk$Formula", "isWholeIn", [], none)
def y_Fo_partsAt : MethodName := ⟨"LassoDesk$Formula", "partsAt", "(I)I"⟩
abbrev m_Fo_partsAt : q_M := (prog_2_method_9_code, 4, (Option.some Jvm.ClassFile.FieldType.int), "LassoDesk$Formula", "partsAt", [], none)
def y_Fo_isPartAt : MethodName := ⟨"LassoDesk$Formula", "isPartAt", "(III)Z"⟩
abbrev m_Fo_isPartAt : q_M := (prog_2_method_10_code, 7, (Option.some Jvm.ClassFile.FieldType.boolean), "LassoDesk$Formula", "isPartAt", [], none)
def y_Fo_expectedBefore : MethodName := ⟨"LassoDesk$Formula", "expectedBefore", "(I)I"⟩
abbrev m_Fo_expectedBefore : q_M := (prog_2_method_11_code, 5, (Option.some Jvm.ClassFile.FieldType.int), "LassoDesk$Formula", "expectedBefore", [], none)
def y_Fo_openIn : MethodName := ⟨"LassoDesk$Formula", "openIn", "(I)I"⟩
abbrev m_Fo_openIn : q_M := (prog_2_method_12_code, 5, (Option.some Jvm.ClassFile.FieldType.int), "LassoDesk$Formula", "openIn", [], none)
def y_Fo_keptIn : MethodName := ⟨"LassoDesk$Formula", "keptIn", "(I)I"⟩
abbrev m_Fo_keptIn : q_M := (prog_2_method_13_code, 5, (Option.some Jvm.ClassFile.FieldType.int), "LassoDesk$Formula", "keptIn", [], none)
def y_Fo_isForOnce : MethodName := ⟨"LassoDesk$Formula", "isForOnce", "(I)Z"⟩
abbrev m_Fo_isForOnce : q_M := (prog_2_method_14_code, 2, (Option.some Jvm.ClassFile.FieldType.boolean), "LassoDesk$Formula", "isForOnce", [], none)
def y_Fo_placesOn : MethodName := ⟨"LassoDesk$Formula", "placesOn", "(LLassoDesk$GivenWord;)I"⟩
abbrev m_Fo_placesOn : q_M := (prog_2_method_15_code, 3, (Option.some Jvm.ClassFile.FieldType.int), "LassoDesk$Formula", "placesOn", [], none)
def y_Fo_partPlaces : MethodName := ⟨"LassoDesk$Formula", "partPlaces", "(ILLassoDesk$GivenWord;)I"⟩
abbrev m_Fo_partPlaces : q_M := (prog_2_method_16_code, 6, (Option.some Jvm.ClassFile.FieldType.int), "LassoDesk$Formula", "partPlaces", [], none)
def y_Gw_fits : MethodName := ⟨"LassoDesk$GivenWord", "fits", "(II)Z"⟩
abbrev m_Gw_fits : q_M := (prog_3_method_2_code, 2, (Option.some Jvm.ClassFile.FieldType.boolean), "LassoDesk$GivenWord", "fits", [], none)
def y_Gw_size : MethodName := ⟨"LassoDesk$GivenWord", "size", "()I"⟩
abbrev m_Gw_size : q_M := (prog_3_method_3_code, 1, (Option.some Jvm.ClassFile.FieldType.int), "LassoDesk$GivenWord", "size", [], none)
def y_Gw_reshape : MethodName := ⟨"LassoDesk$GivenWord", "reshape", "(II)V"⟩
abbrev m_Gw_reshape : q_M := (prog_3_method_4_code, 4, (Option.none : Option Jvm.ClassFile.FieldType), "LassoDesk$GivenWord", "reshape", [], none)
def y_Gw_replace : MethodName := ⟨"LassoDesk$GivenWord", "replace", "(II)I"⟩
abbrev m_Gw_replace : q_M := (prog_3_method_5_code, 4, (Option.some Jvm.ClassFile.FieldType.int), "LassoDesk$GivenWord", "replace", [], none)
def y_Gw_take : MethodName := ⟨"LassoDesk$GivenWord", "take", "(LLassoDesk$Walk;)V"⟩
abbrev m_Gw_take : q_M := (prog_3_method_6_code, 3, (Option.none : Option Jvm.ClassFile.FieldType), "LassoDesk$GivenWord", "take", [], none)
def y_Gw_indexOf : MethodName := ⟨"LassoDesk$GivenWord", "indexOf", "(I)I"⟩
abbrev m_Gw_indexOf : q_M := (prog_3_method_7_code, 2, (Option.some Jvm.ClassFile.FieldType.int), "LassoDesk$GivenWord", "indexOf", [], none)
def y_Gw_letterAt : MethodName := ⟨"LassoDesk$GivenWord", "letterAt", "(I)I"⟩
abbrev m_Gw_letterAt : q_M := (prog_3_method_8_code, 2, (Option.some Jvm.ClassFile.FieldType.int), "LassoDesk$GivenWord", "letterAt", [], none)
def y_Gw_allPlaces : MethodName := ⟨"LassoDesk$GivenWord", "allPlaces", "()I"⟩
abbrev m_Gw_allPlaces : q_M := (prog_3_method_9_code, 1, (Option.some Jvm.ClassFile.FieldType.int), "LassoDesk$GivenWord", "allPlaces", [], none)
def y_Gw_placesWith : MethodName := ⟨"LassoDesk$GivenWord", "placesWith", "(I)I"⟩
abbrev m_Gw_placesWith : q_M := (prog_3_method_10_code, 4, (Option.some Jvm.ClassFile.FieldType.int), "LassoDesk$GivenWord", "placesWith", [], none)
def y_Gw_placesBefore : MethodName := ⟨"LassoDesk$GivenWord", "placesBefore", "(I)I"⟩
abbrev m_Gw_placesBefore : q_M := (prog_3_method_11_code, 3, (Option.some Jvm.ClassFile.FieldType.int), "LassoDesk$GivenWord", "placesBefore", [], none)
def y_Gw_placesUntil : MethodName := ⟨"LassoDesk$GivenWord", "placesUntil", "(II)I"⟩
abbrev m_Gw_placesUntil : q_M := (prog_3_method_12_code, 5, (Option.some Jvm.ClassFile.FieldType.int), "LassoDesk$GivenWord", "placesUntil", [], none)
def y_La_find : MethodName := ⟨"LassoDesk$Lasting", "find", "(LLassoDesk$Formula;)V"⟩
abbrev m_La_find : q_M := (prog_4_method_2_code, 6, (Option.none : Option Jvm.ClassFile.FieldType), "LassoDesk$Lasting", "find", [], none)
def y_La_lookAtStates : MethodName := ⟨"LassoDesk$Lasting", "lookAtStates", "(LLassoDesk$Formula;)V"⟩
abbrev m_La_lookAtStates : q_M := (prog_4_method_3_code, 4, (Option.none : Option Jvm.ClassFile.FieldType), "LassoDesk$Lasting", "lookAtStates", [], none)
def y_La_sweepDeadEnds : MethodName := ⟨"LassoDesk$Lasting", "sweepDeadEnds", "()V"⟩
abbrev m_La_sweepDeadEnds : q_M := (prog_4_method_4_code, 3, (Option.none : Option Jvm.ClassFile.FieldType), "LassoDesk$Lasting", "sweepDeadEnds", [], none)
def y_La_sweepUnkept : MethodName := ⟨"LassoDesk$Lasting", "sweepUnkept", "(I)V"⟩
abbrev m_La_sweepUnkept : q_M := (prog_4_method_5_code, 3, (Option.none : Option Jvm.ClassFile.FieldType), "LassoDesk$Lasting", "sweepUnkept", [], none)
def y_La_takeAway : MethodName := ⟨"LassoDesk$Lasting", "takeAway", "(I)V"⟩
abbrev m_La_takeAway : q_M := (prog_4_method_6_code, 2, (Option.none : Option Jvm.ClassFile.FieldType), "LassoDesk$Lasting", "takeAway", [], none)
def y_La_countSteps : MethodName := ⟨"LassoDesk$Lasting", "countSteps", "(I)V"⟩
abbrev m_La_countSteps : q_M := (prog_4_method_7_code, 6, (Option.none : Option Jvm.ClassFile.FieldType), "LassoDesk$Lasting", "countSteps", [], none)
def y_La_reachBefore : MethodName := ⟨"LassoDesk$Lasting", "reachBefore", "(III)I"⟩
abbrev m_La_reachBefore : q_M := (prog_4_method_8_code, 7, (Option.some Jvm.ClassFile.FieldType.int), "LassoDesk$Lasting", "reachBefore", [], none)
def y_La_stepsFrom : MethodName := ⟨"LassoDesk$Lasting", "stepsFrom", "(II)I"⟩
abbrev m_La_stepsFrom : q_M := (prog_4_method_9_code, 3, (Option.some Jvm.ClassFile.FieldType.int), "LassoDesk$Lasting", "stepsFrom", [], none)
def y_La_has : MethodName := ⟨"LassoDesk$Lasting", "has", "(I)Z"⟩
abbrev m_La_has : q_M := (prog_4_method_10_code, 2, (Option.some Jvm.ClassFile.FieldType.boolean), "LassoDesk$Lasting", "has", [], none)
def y_La_size : MethodName := ⟨"LassoDesk$Lasting", "size", "()I"⟩
abbrev m_La_size : q_M := (prog_4_method_11_code, 1, (Option.some Jvm.ClassFile.FieldType.int), "LassoDesk$Lasting", "size", [], none)
def y_La_leastWhole : MethodName := ⟨"LassoDesk$Lasting", "leastWhole", "()I"⟩
abbrev m_La_leastWhole : q_M := (prog_4_method_12_code, 2, (Option.some Jvm.ClassFile.FieldType.int), "LassoDesk$Lasting", "leastWhole", [], none)
def y_La_dutyFrom : MethodName := ⟨"LassoDesk$Lasting", "dutyFrom", "(II)I"⟩
abbrev m_La_dutyFrom : q_M := (prog_4_method_13_code, 5, (Option.some Jvm.ClassFile.FieldType.int), "LassoDesk$Lasting", "dutyFrom", [], none)
def y_La_nextFrom : MethodName := ⟨"LassoDesk$Lasting", "nextFrom", "(II)I"⟩
abbrev m_La_nextFrom : q_M := (prog_4_method_14_code, 7, (Option.some Jvm.ClassFile.FieldType.int), "LassoDesk$Lasting", "nextFrom", [], none)
def y_La_isNearer : MethodName := ⟨"LassoDesk$Lasting", "isNearer", "(III)Z"⟩
abbrev m_La_isNearer : q_M := (prog_4_method_15_code, 6, (Option.some Jvm.ClassFile.FieldType.boolean), "LassoDesk$Lasting", "isNearer", [], none)
def y_Li_countTyped : MethodName := ⟨"LassoDesk$Line", "countTyped", "(I)I"⟩
abbrev m_Li_countTyped : q_M := (prog_5_method_2_code, 2, (Option.some Jvm.ClassFile.FieldType.int), "LassoDesk$Line", "countTyped", [], none)
def y_Li_areVisible : MethodName := ⟨"LassoDesk$Line", "areVisible", "(II)Z"⟩
abbrev m_Li_areVisible : q_M := (prog_5_method_3_code, 4, (Option.some Jvm.ClassFile.FieldType.boolean), "LassoDesk$Line", "areVisible", [], none)
def y_Li_byteOf : MethodName := ⟨"LassoDesk$Line", "byteOf", "(II)I"⟩
abbrev m_Li_byteOf : q_M := (prog_5_method_4_code, 2, (Option.some Jvm.ClassFile.FieldType.int), "LassoDesk$Line", "byteOf", [], none)
def y_Li_append : MethodName := ⟨"LassoDesk$Line", "append", "(II)Z"⟩
abbrev m_Li_append : q_M := (prog_5_method_5_code, 4, (Option.some Jvm.ClassFile.FieldType.boolean), "LassoDesk$Line", "append", [], none)
def y_Li_clear : MethodName := ⟨"LassoDesk$Line", "clear", "()V"⟩
abbrev m_Li_clear : q_M := (prog_5_method_6_code, 1, (Option.none : Option Jvm.ClassFile.FieldType), "LassoDesk$Line", "clear", [], none)
def y_Li_signAt : MethodName := ⟨"LassoDesk$Line", "signAt", "(I)I"⟩
abbrev m_Li_signAt : q_M := (prog_5_method_7_code, 2, (Option.some Jvm.ClassFile.FieldType.int), "LassoDesk$Line", "signAt", [], none)
def y_Li_temporalsBefore : MethodName := ⟨"LassoDesk$Line", "temporalsBefore", "(I)I"⟩
abbrev m_Li_temporalsBefore : q_M := (prog_5_method_8_code, 4, (Option.some Jvm.ClassFile.FieldType.int), "LassoDesk$Line", "temporalsBefore", [], none)
def y_Li_readInto : MethodName := ⟨"LassoDesk$Line", "readInto", "(LLassoDesk$Formula;)Z"⟩
abbrev m_Li_readInto : q_M := (prog_5_method_9_code, 3, (Option.some Jvm.ClassFile.FieldType.boolean), "LassoDesk$Line", "readInto", [], none)
def y_Li_readLevel : MethodName := ⟨"LassoDesk$Line", "readLevel", "(LLassoDesk$Formula;II)I"⟩
abbrev m_Li_readLevel : q_M := (prog_5_method_10_code, 8, (Option.some Jvm.ClassFile.FieldType.int), "LassoDesk$Line", "readLevel", [], none)
def y_Li_readSimple : MethodName := ⟨"LassoDesk$Line", "readSimple", "(LLassoDesk$Formula;I)I"⟩
abbrev m_Li_readSimple : q_M := (prog_5_method_11_code, 6, (Option.some Jvm.ClassFile.FieldType.int), "LassoDesk$Line", "readSimple", [], none)
def y_Li_readBracket : MethodName := ⟨"LassoDesk$Line", "readBracket", "(LLassoDesk$Formula;I)I"⟩
abbrev m_Li_readBracket : q_M := (prog_5_method_12_code, 4, (Option.some Jvm.ClassFile.FieldType.int), "LassoDesk$Line", "readBracket", [], none)
def y_Li_levelJoinedBy : MethodName := ⟨"LassoDesk$Line", "levelJoinedBy", "(I)I"⟩
abbrev m_Li_levelJoinedBy : q_M := (prog_5_method_13_code, 1, (Option.some Jvm.ClassFile.FieldType.int), "LassoDesk$Line", "levelJoinedBy", [], none)
def y_Wa_go : MethodName := ⟨"LassoDesk$Walk", "go", "(LLassoDesk$Lasting;)V"⟩
abbrev m_Wa_go : q_M := (prog_6_method_2_code, 6, (Option.none : Option Jvm.ClassFile.FieldType), "LassoDesk$Walk", "go", [], none)
def y_Wa_exists : MethodName := ⟨"LassoDesk$Walk", "exists", "()Z"⟩
abbrev m_Wa_exists : q_M := (prog_6_method_3_code, 1, (Option.some Jvm.ClassFile.FieldType.boolean), "LassoDesk$Walk", "exists", [], none)
def y_Wa_stemLength : MethodName := ⟨"LassoDesk$Walk", "stemLength", "()I"⟩
abbrev m_Wa_stemLength : q_M := (prog_6_method_4_code, 1, (Option.some Jvm.ClassFile.FieldType.int), "LassoDesk$Walk", "stemLength", [], none)
def y_Wa_loopLength : MethodName := ⟨"LassoDesk$Walk", "loopLength", "()I"⟩
abbrev m_Wa_loopLength : q_M := (prog_6_method_5_code, 1, (Option.some Jvm.ClassFile.FieldType.int), "LassoDesk$Walk", "loopLength", [], none)
def y_Wa_size : MethodName := ⟨"LassoDesk$Walk", "size", "()I"⟩
abbrev m_Wa_size : q_M := (prog_6_method_6_code, 1, (Option.some Jvm.ClassFile.FieldType.int), "LassoDesk$Walk", "size", [], none)
def y_Wa_stateAt : MethodName := ⟨"LassoDesk$Walk", "stateAt", "(I)I"⟩
abbrev m_Wa_stateAt : q_M := (prog_6_method_7_code, 2, (Option.some Jvm.ClassFile.FieldType.int), "LassoDesk$Walk", "stateAt", [], none)
def y_Lw_type : MethodName := ⟨"LassoDeskLaw", "type", "(LLassoDesk;I[J)I"⟩
abbrev m_Lw_type : q_M := (method_3_code, 4, (Option.some Jvm.ClassFile.FieldType.int), "LassoDeskLaw", "type", [(0, 16, 19, 13)], none)
def y_Lw_formula : MethodName := ⟨"LassoDeskLaw", "formula", "(LLassoDesk;[J)I"⟩
abbrev m_Lw_formula : q_M := (method_4_code, 3, (Option.some Jvm.ClassFile.FieldType.int), "LassoDeskLaw", "formula", [(0, 8, 11, 13)], none)
def y_Lw_states : MethodName := ⟨"LassoDeskLaw", "states", "(LLassoDesk;[J)I"⟩
abbrev m_Lw_states : q_M := (method_5_code, 3, (Option.some Jvm.ClassFile.FieldType.int), "LassoDeskLaw", "states", [(0, 8, 11, 22)], none)
def y_Lw_isAt : MethodName := ⟨"LassoDeskLaw", "isAt", "(LLassoDesk;I[J)I"⟩
abbrev m_Lw_isAt : q_M := (method_6_code, 4, (Option.some Jvm.ClassFile.FieldType.int), "LassoDeskLaw", "isAt", [(0, 16, 19, 22), (0, 16, 22, 27)], none)
def y_Lw_leads : MethodName := ⟨"LassoDeskLaw", "leads", "(LLassoDesk;II[J)I"⟩
abbrev m_Lw_leads : q_M := (method_7_code, 5, (Option.some Jvm.ClassFile.FieldType.int), "LassoDeskLaw", "leads", [(0, 17, 20, 22), (0, 17, 24, 27)], none)
def y_Lw_lasts : MethodName := ⟨"LassoDeskLaw", "lasts", "(LLassoDesk;I[J)I"⟩
abbrev m_Lw_lasts : q_M := (method_8_code, 4, (Option.some Jvm.ClassFile.FieldType.int), "LassoDeskLaw", "lasts", [(0, 16, 19, 22), (0, 16, 22, 27)], none)
def y_Lw_lasting : MethodName := ⟨"LassoDeskLaw", "lasting", "(LLassoDesk;[J)I"⟩
abbrev m_Lw_lasting : q_M := (method_9_code, 3, (Option.some Jvm.ClassFile.FieldType.int), "LassoDeskLaw", "lasting", [(0, 8, 11, 22)], none)
def y_Lw_promises : MethodName := ⟨"LassoDeskLaw", "promises", "(LLassoDesk;[J)I"⟩
abbrev m_Lw_promises : q_M := (method_10_code, 3, (Option.some Jvm.ClassFile.FieldType.int), "LassoDeskLaw", "promises", [(0, 8, 11, 22)], none)
def y_Lw_can : MethodName := ⟨"LassoDeskLaw", "can", "(LLassoDesk;[J)I"⟩
abbrev m_Lw_can : q_M := (method_11_code, 3, (Option.some Jvm.ClassFile.FieldType.int), "LassoDeskLaw", "can", [(0, 15, 18, 22)], none)
def y_Lw_stem : MethodName := ⟨"LassoDeskLaw", "stem", "(LLassoDesk;[J)I"⟩
abbrev m_Lw_stem : q_M := (method_12_code, 3, (Option.some Jvm.ClassFile.FieldType.int), "LassoDeskLaw", "stem", [(0, 8, 11, 22)], none)
def y_Lw_loop : MethodName := ⟨"LassoDeskLaw", "loop", "(LLassoDesk;[J)I"⟩
abbrev m_Lw_loop : q_M := (method_13_code, 3, (Option.some Jvm.ClassFile.FieldType.int), "LassoDeskLaw", "loop", [(0, 8, 11, 22)], none)
def y_Lw_step : MethodName := ⟨"LassoDeskLaw", "step", "(LLassoDesk;I[J)I"⟩
abbrev m_Lw_step : q_M := (method_14_code, 4, (Option.some Jvm.ClassFile.FieldType.int), "LassoDeskLaw", "step", [(0, 9, 12, 22), (0, 9, 15, 27)], none)
def y_Lw_shape : MethodName := ⟨"LassoDeskLaw", "shape", "(LLassoDesk;II)I"⟩
abbrev m_Lw_shape : q_M := (method_15_code, 4, (Option.some Jvm.ClassFile.FieldType.int), "LassoDeskLaw", "shape", [(0, 6, 9, 13)], none)
def y_Lw_set : MethodName := ⟨"LassoDeskLaw", "set", "(LLassoDesk;II[J)I"⟩
abbrev m_Lw_set : q_M := (method_16_code, 5, (Option.some Jvm.ClassFile.FieldType.int), "LassoDeskLaw", "set", [(0, 10, 13, 27)], none)
def y_Lw_adopt : MethodName := ⟨"LassoDeskLaw", "adopt", "(LLassoDesk;[J)I"⟩
abbrev m_Lw_adopt : q_M := (method_17_code, 3, (Option.some Jvm.ClassFile.FieldType.int), "LassoDeskLaw", "adopt", [(0, 15, 18, 22)], none)
def y_Lw_letter : MethodName := ⟨"LassoDeskLaw", "letter", "(LLassoDesk;I[J)I"⟩
abbrev m_Lw_letter : q_M := (method_18_code, 4, (Option.some Jvm.ClassFile.FieldType.int), "LassoDeskLaw", "letter", [(0, 9, 12, 27)], none)
def y_Lw_holds : MethodName := ⟨"LassoDeskLaw", "holds", "(LLassoDesk;I[J)I"⟩
abbrev m_Lw_holds : q_M := (method_19_code, 4, (Option.some Jvm.ClassFile.FieldType.int), "LassoDeskLaw", "holds", [(0, 16, 19, 22), (0, 16, 22, 27)], none)
def y_Lw_law : MethodName := ⟨"LassoDeskLaw", "law", "([I)Z"⟩
abbrev m_Lw_law : q_M := (code, 7, ret, "LassoDeskLaw", "law", [], none)
def y_Ar_fill : MethodName := ⟨"java/util/Arrays", "fill", "([II)V"⟩
abbrev m_Ar_fill : q_M := (prog_16_method_103_code, 4, (Option.none : Option Jvm.ClassFile.FieldType), "java/util/Arrays", "fill", [], none)
def y_D_init : MethodName := ⟨"LassoDesk", "<init>", "()V"⟩
abbrev m_D_init : q_M := (prog_1_method_1_code, 1, (Option.none : Option Jvm.ClassFile.FieldType), "LassoDesk", "<init>", [], none)
def y_Mo_init : MethodName := ⟨"LassoDeskModel", "<init>", "()V"⟩
abbrev m_Mo_init : q_M := (prog_8_method_1_code, 1, (Option.none : Option Jvm.ClassFile.FieldType), "LassoDeskModel", "<init>", [], none)
def y_Fo_init : MethodName := ⟨"LassoDesk$Formula", "<init>", "()V"⟩
abbrev m_Fo_init : q_M := (prog_2_method_1_code, 1, (Option.none : Option Jvm.ClassFile.FieldType), "LassoDesk$Formula", "<init>", [], none)
def y_Gw_init : MethodName := ⟨"LassoDesk$GivenWord", "<init>", "()V"⟩
abbrev m_Gw_init : q_M := (prog_3_method_1_code, 1, (Option.none : Option Jvm.ClassFile.FieldType), "LassoDesk$GivenWord", "<init>", [], none)
def y_La_init : MethodName := ⟨"LassoDesk$Lasting", "<init>", "()V"⟩
abbrev m_La_init : q_M := (prog_4_method_1_code, 1, (Option.none : Option Jvm.ClassFile.FieldType), "LassoDesk$Lasting", "<init>", [], none)
def y_Li_init : MethodName := ⟨"LassoDesk$Line", "<init>", "()V"⟩
abbrev m_Li_init : q_M := (prog_5_method_1_code, 1, (Option.none : Option Jvm.ClassFile.FieldType), "LassoDesk$Line", "<init>", [], none)
def y_Wa_init : MethodName := ⟨"LassoDesk$Walk", "<init>", "()V"⟩
abbrev m_Wa_init : q_M := (prog_6_method_1_code, 1, (Option.none : Option Jvm.ClassFile.FieldType), "LassoDesk$Walk", "<init>", [], none)
end
section
/-! CALLS over the abstract walk: contracts (q_Ct), the invoking instruction (q_Inv), what comes back (q_res), and its three uses: returned, thrown on, caught. -/
def q_hd (y : MethodName) (M : q_M) : Cond := match M.2.2.2.2.2.1 with
  | [] => .code y M.1 M.2.1 M.2.2.1
  | h :: t => .codeWith y M.1 M.2.1 M.2.2.1 (h :: t)
theorem q_hd_good {y : MethodName} {M : q_M} : ((q_hd y M).onTables && (q_hd y M).keeps) = true := by
  unfold q_hd
  split <;> rfl
theorem q_hd_spec {y : MethodName} {M : q_M} {args : Array Value} {s : State} (h : (q_hd y M).before args s = true) : ∃ (mk : MethodId) (meth : Method) (c : Code), s.methodNamed? y = some mk ∧ s.vm.method? mk = some meth ∧ meth.code = some c ∧ c.code = M.1 ∧ c.maxLocals = M.2.1 ∧ c.exceptionTable.toList.map (fun h => (h.startPc, h.endPc, h.handlerPc, h.catchType)) = M.2.2.2.2.2.1 ∧ meth.sig.returnType = M.2.2.1 ∧ meth.locks = false ∧ parseMethodDescriptor y.desc = some meth.sig := by
  unfold q_hd at h
  split at h
  · rename_i heq
    obtain ⟨mk, hn⟩ := Cond.code_named h
    obtain ⟨meth, c, h1, h2, h3, h4, h5, h6, h7, h8⟩ := Cond.code_spec hn h
    refine ⟨mk, meth, c, hn, h1, h2, h3, h4, ?_, h5, h6, h8⟩
    have z0 : c.exceptionTable.size = 0 := by simpa [Array.isEmpty] using h7
    have z1 : c.exceptionTable.toList = [] := List.eq_nil_of_length_eq_zero (by simpa using z0)
    rw [heq, z1]
    rfl
  · rename_i a t heq
    obtain ⟨mk, meth, c, hn, h1, h2, h3, h4, h5, h6, h7, h8⟩ := Cond.codeWith_spec h
    exact ⟨mk, meth, c, hn, h1, h2, h3, h4, by rw [heq]; exact h5, h6, h7, h8⟩
def q_Pre (E : q_E) (M : q_M) (ws : List va_E) (as : List Value) (a : Array Value) (s : State) : Prop :=
  a = (as.map (q_cv (q_g E))).toArray ∧ q_S0 E ∧ q_St E s ∧ va_P (q_DD E) q_cl (q_wz (q_g E) ws) s.heap ∧ ∀ k, M.2.2.2.2.2.2 = some k → s.heap.size = (q_g E).1 + k
/-- the contract of method y (its facts: M), in the room rm, at the world ws, for the arguments as: the result r -/
def q_Ct (E : q_E) (y : MethodName) (M : q_M) (rm : Room) (ws : List va_E) (as : List Value) (r : q_R) : Prop :=
  MetFree (q_l E) y (headSpec [q_hd y M] rm) (q_Pre E M ws as) (fun _ _ _ _ _ => True) (fun _ s o t => q_Q E r s o t)
theorem q_Ct.of {E : q_E} {y : MethodName} {M : q_M} {rm : Room} {ws : List va_E} {as : List Value} {r : q_R} {lv : List (Nat × Value)} (hy : plainName y.cls = true) (hM : M.2.2.2.1 = y.cls ∧ M.2.2.2.2.1 = y.name) (hlv : lv_args 0 (as.map (q_cv (q_g E))) = q_lv (q_g E) lv) (hnl : (lg_sl (as.map (q_cv (q_g E)))).length ≤ M.2.1) (h : AW E rm M ws 0 0 0 lv [] r) : q_Ct E y M rm ws as r := by
  refine MetFree.of_bodyS (code := M.1) (maxLocals := M.2.1) (ret := M.2.2.1) hy ?_ ?_
  · intro args s m hp hn
    obtain ⟨mk, meth, c, hn', h1, h2, h3, h4, -, h6, h7, -⟩ := q_hd_spec (atoms_spec (ws := [q_hd y M]) hp _ (List.mem_singleton.mpr rfl))
    cases hn.symm.trans hn'
    exact ⟨meth, c, h1, h2, h3, h4, h6, h7⟩
  · intro p e s m args below meth c s₁ B hml hP _
    obtain ⟨rfl, h0, ht, hPw, hn0⟩ := hP
    obtain ⟨mk, meth', c', hn', h1, h2, h3, h4, h5, h6, h7, -⟩ := q_hd_spec (atoms_spec (ws := [q_hd y M]) B.pre _ (List.mem_singleton.mpr rfl))
    cases B.named.symm.trans hn'
    cases B.method.symm.trans h1
    have X := Stand.of_body B
    cases X.code.symm.trans h2
    have hh0 : s₁.heap = s.heap := by rw [B.state]; rfl
    have hC : q_Cx E M p s m meth c := ⟨h0, ht, B.exec, B.bytes, hml, B.returns, B.notSynchronized, h5, by rw [hM.1]; exact findClass_of_methodNamed B.named, by rw [hM.2]; exact (name_of_methodNamed B.named B.method).1, hn0⟩
    have hl := lv_entry (as.map (q_cv (q_g E))) (n := M.2.1) hnl
    rw [hlv] at hl
    have hw := h p e s m (as.map (q_cv (q_g E))).toArray below meth c s.heap [] _ hC hPw va_S.rf hl
    obtain ⟨t, a1, o, b1, b2, b3⟩ := hw s₁ hh0 X
    rw [lg_entry_eq]
    exact ⟨t, o, a1, b1, b2, b3⟩
def q_Inv (E : q_E) (R : Room) (M : q_M) (ws : List va_E) (pc : Nat) (y : MethodName) (as rest : List Value) : Prop :=
  ∀ (p : Program) (e : Env) (s : State) (m : MethodId) (args : Array Value) (below : List Frame) (meth : Method) (c : Code) (T : State) (locs : List Loc) (ce sl : Nat) (ls : Array Slot), q_Cx E M p s m meth c → Stand p (q_l E) e R s m args below meth c T locs ce sl → va_P (q_DD E) q_cl (q_wz (q_g E) ws) T.heap →
    ∃ (vm₁ : Vm) (mk : MethodId), s.methodNamed? y = some mk ∧ Stand p (q_l E) e R s m args below meth c (T.setVm vm₁) locs ce sl ∧ ∀ target, (∀ acts, Steps p.tables e below (doInvoke e ((T.setVm vm₁).setTop (F0 m pc ls (rest.map (q_cv (q_g E))))) acts mk (as.map (q_cv (q_g E))).toArray).1 target) → Steps p.tables e below (T.setTop (F0 m pc ls ((as.reverse ++ rest).map (q_cv (q_g E))))) target
section QI
variable {E : q_E} {R : Room} {M Y : q_M} {ws : List va_E} {pc : Nat} {y : MethodName} {as rest : List Value} {idx : Nat}
theorem q_invS (hd : decode M.1 pc = .ok (.invokestatic idx, 3)) (hl : Cond.methodLink M.2.2.2.1 idx y ∈ lw_tbl) (hs : Cond.static y ∈ lw_tbl) (hi : Cond.initialized y.cls ∈ lw_tbl) (hc : q_hd y Y ∈ lw_tbl) (hy : y.cls ≠ "java/lang/invoke/MethodHandle" ∧ y.cls ≠ "java/lang/invoke/VarHandle") (hlen : (parseMethodDescriptor y.desc).map (fun d => d.parameters.length) = some as.length) : q_Inv E R M ws pc y as rest := by
  intro p e s m args below meth c T locs ce sl ls hC X hP
  obtain ⟨h0, ht, hx, hb, hml, hr, hlk, hh, hown, hnm, hn0⟩ := id hC
  obtain ⟨mk, methM, cM, hnamed, hmethM, -, -, -, -, -, -, hsigM⟩ := q_hd_spec (q_w (args := args) h0 ht hc q_hd_good)
  have hstatic : methM.isStatic = true := Cond.static_spec hnamed hmethM (q_w (args := args) h0 ht hs rfl)
  obtain ⟨kP, hkP, -⟩ := className_of_methodNamed hnamed
  have hinitP : kP.init = .initialized := Cond.initialized_spec (findClass_of_methodNamed hnamed) hkP (q_w (args := args) h0 ht hi rfl)
  have hl2 : as.length = methM.sig.parameters.length := by rw [hsigM] at hlen; exact (Option.some.inj hlen).symm
  obtain ⟨vm₁, X₁, hstep₁⟩ := X.invokestatic hx hown (q_w h0 ht hl rfl) hnamed hmethM hstatic hkP hinitP hy (g := F0 m pc ls ((as.reverse ++ rest).map (q_cv (q_g E)))) rfl (argsL := as.map (q_cv (q_g E))) (rest := rest.map (q_cv (q_g E))) (by rw [List.length_map]; exact hl2) (by show (as.reverse ++ rest).map _ = _; rw [List.map_append, List.map_reverse]) (by rw [hb]; exact hd)
  exact ⟨vm₁, mk, hnamed, X₁, hstep₁⟩
theorem q_invSN {host : String} (hd : decode M.1 pc = .ok (.invokestatic idx, 3)) (hl : Cond.methodLinkNest M.2.2.2.1 idx y host ∈ lw_tbl) (hs : Cond.static y ∈ lw_tbl) (hi : Cond.initialized y.cls ∈ lw_tbl) (hc : q_hd y Y ∈ lw_tbl) (hy : y.cls ≠ "java/lang/invoke/MethodHandle" ∧ y.cls ≠ "java/lang/invoke/VarHandle") (hlen : (parseMethodDescriptor y.desc).map (fun d => d.parameters.length) = some as.length) : q_Inv E R M ws pc y as rest := by
  intro p e s m args below meth c T locs ce sl ls hC X hP
  obtain ⟨h0, ht, hx, hb, hml, hr, hlk, hh, hown, hnm, hn0⟩ := id hC
  obtain ⟨mk, methM, cM, hnamed, hmethM, -, -, -, -, -, -, hsigM⟩ := q_hd_spec (q_w (args := args) h0 ht hc q_hd_good)
  have hstatic : methM.isStatic = true := Cond.static_spec hnamed hmethM (q_w (args := args) h0 ht hs rfl)
  obtain ⟨kP, hkP, -⟩ := className_of_methodNamed hnamed
  have hinitP : kP.init = .initialized := Cond.initialized_spec (findClass_of_methodNamed hnamed) hkP (q_w (args := args) h0 ht hi rfl)
  have hl2 : as.length = methM.sig.parameters.length := by rw [hsigM] at hlen; exact (Option.some.inj hlen).symm
  obtain ⟨vm₁, X₁, hstep₁⟩ := X.invokestaticNest hx hown (q_wM (args := args) h0 ht hl) hnamed hmethM hstatic hkP hinitP hy (g := F0 m pc ls ((as.reverse ++ rest).map (q_cv (q_g E)))) rfl (argsL := as.map (q_cv (q_g E))) (rest := rest.map (q_cv (q_g E))) (by rw [List.length_map]; exact hl2) (by show (as.reverse ++ rest).map _ = _; rw [List.map_append, List.map_reverse]) (by rw [hb]; exact hd)
  exact ⟨vm₁, mk, hnamed, X₁, hstep₁⟩
theorem q_invV {q0 ci N : Nat} {fs : List Value} {T0 : u_T} (hd : decode M.1 pc = .ok (.invokevirtual idx, 3)) (hl : Cond.methodLink M.2.2.2.1 idx y ∈ lw_tbl) (hs : Cond.instanceMethod y ∈ lw_tbl) (hse : Cond.selects y.cls y y ∈ lw_tbl) (hc : q_hd y Y ∈ lw_tbl) (hy : y.cls ≠ "java/lang/invoke/MethodHandle" ∧ y.cls ≠ "java/lang/invoke/VarHandle") (hlen : (parseMethodDescriptor y.desc).map (fun d => d.parameters.length) = some as.length) (hq : q0 < 900) (he : ws[q0]? = some (.inr (ci, fs))) (hcl : q_cl[ci]? = some (y.cls, T0, N)) : q_Inv E R M ws pc y (.ref q0 :: as) rest := by
  intro p e s m args below meth c T locs ce sl ls hC X hP
  obtain ⟨h0, ht, hx, hb, hml, hr, hlk, hh, hown, hnm, hn0⟩ := id hC
  obtain ⟨mk, methM, cM, hnamed, hmethM, -, -, -, -, -, -, hsigM⟩ := q_hd_spec (q_w (args := args) h0 ht hc q_hd_good)
  obtain ⟨mk', methM', hnamed', hmethM', hstM, habM⟩ := Cond.instanceMethod_spec (q_w (args := args) h0 ht hs rfl)
  cases hnamed.symm.trans hnamed'
  cases hmethM.symm.trans hmethM'
  obtain ⟨cellB, hcell, hobj, hcls⟩ := va_recv (ht.K h0) hP hcl (q_wz_at he)
  obtain ⟨c2, r2, m2, q1, q2, q3, q4, kP, hkP, hkPi⟩ := Cond.selects_spec (q_w (args := args) h0 ht hse rfl)
  cases hcls.symm.trans q1
  cases (State.methodFound?_of_named hnamed hy).symm.trans q2
  cases hnamed.symm.trans q3
  have hselP : selectMethod e.platform s.vm cellB.cls mk = .method mk := by rw [Launch.admits_selectMethod X.admits]; exact q4
  have hl2 : as.length = methM.sig.parameters.length := by rw [hsigM] at hlen; exact (Option.some.inj hlen).symm
  have est : ((.ref q0 :: as).reverse ++ rest).map (q_cv (q_g E)) = (as.map (q_cv (q_g E))).reverse ++ .ref ((q_g E).1 + q0) :: rest.map (q_cv (q_g E)) := by
    simp [q_ref hq]
  have eas : (.ref q0 :: as).map (q_cv (q_g E)) = .ref ((q_g E).1 + q0) :: as.map (q_cv (q_g E)) := by
    simp [q_ref hq]
  obtain ⟨vm₁, X₁, hstep₁⟩ := X.invokevirtual hx hown (q_w h0 ht hl rfl) hnamed hmethM hstM hkP hkPi hy (a := (q_g E).1 + q0) (cell := cellB) hcell
    (fun z h => by rw [h] at hobj; cases hobj) hselP hmethM habM hkP hkPi (g := F0 m pc ls ((as.map (q_cv (q_g E))).reverse ++ .ref ((q_g E).1 + q0) :: rest.map (q_cv (q_g E)))) rfl (argsL := as.map (q_cv (q_g E))) (rest := rest.map (q_cv (q_g E))) (by rw [List.length_map]; exact hl2) rfl (by rw [hb]; exact hd)
  refine ⟨vm₁, mk, hnamed, X₁, fun target h => ?_⟩
  rw [est]
  rw [eas] at h
  exact hstep₁ target h
theorem q_invVN {q0 ci N : Nat} {fs : List Value} {T0 : u_T} {host : String} (hd : decode M.1 pc = .ok (.invokevirtual idx, 3)) (hl : Cond.methodLinkNest M.2.2.2.1 idx y host ∈ lw_tbl) (hs : Cond.instanceMethod y ∈ lw_tbl) (hse : Cond.selects y.cls y y ∈ lw_tbl) (hc : q_hd y Y ∈ lw_tbl) (hy : y.cls ≠ "java/lang/invoke/MethodHandle" ∧ y.cls ≠ "java/lang/invoke/VarHandle") (hlen : (parseMethodDescriptor y.desc).map (fun d => d.parameters.length) = some as.length) (hq : q0 < 900) (he : ws[q0]? = some (.inr (ci, fs))) (hcl : q_cl[ci]? = some (y.cls, T0, N)) : q_Inv E R M ws pc y (.ref q0 :: as) rest := by
  intro p e s m args below meth c T locs ce sl ls hC X hP
  obtain ⟨h0, ht, hx, hb, hml, hr, hlk, hh, hown, hnm, hn0⟩ := id hC
  obtain ⟨mk, methM, cM, hnamed, hmethM, -, -, -, -, -, -, hsigM⟩ := q_hd_spec (q_w (args := args) h0 ht hc q_hd_good)
  obtain ⟨mk', methM', hnamed', hmethM', hstM, habM⟩ := Cond.instanceMethod_spec (q_w (args := args) h0 ht hs rfl)
  cases hnamed.symm.trans hnamed'
  cases hmethM.symm.trans hmethM'
  obtain ⟨cellB, hcell, hobj, hcls⟩ := va_recv (ht.K h0) hP hcl (q_wz_at he)
  obtain ⟨c2, r2, m2, q1, q2, q3, q4, kP, hkP, hkPi⟩ := Cond.selects_spec (q_w (args := args) h0 ht hse rfl)
  cases hcls.symm.trans q1
  cases (State.methodFound?_of_named hnamed hy).symm.trans q2
  cases hnamed.symm.trans q3
  have hselP : selectMethod e.platform s.vm cellB.cls mk = .method mk := by rw [Launch.admits_selectMethod X.admits]; exact q4
  have hl2 : as.length = methM.sig.parameters.length := by rw [hsigM] at hlen; exact (Option.some.inj hlen).symm
  have est : ((.ref q0 :: as).reverse ++ rest).map (q_cv (q_g E)) = (as.map (q_cv (q_g E))).reverse ++ .ref ((q_g E).1 + q0) :: rest.map (q_cv (q_g E)) := by
    simp [q_ref hq]
  have eas : (.ref q0 :: as).map (q_cv (q_g E)) = .ref ((q_g E).1 + q0) :: as.map (q_cv (q_g E)) := by
    simp [q_ref hq]
  obtain ⟨vm₁, X₁, hstep₁⟩ := X.invokevirtualNest hx hown (q_wM (args := args) h0 ht hl) hnamed hmethM hstM hkP hkPi hy (a := (q_g E).1 + q0) (cell := cellB) hcell
    (fun z h => by rw [h] at hobj; cases hobj) hselP hmethM habM hkP hkPi (g := F0 m pc ls ((as.map (q_cv (q_g E))).reverse ++ .ref ((q_g E).1 + q0) :: rest.map (q_cv (q_g E)))) rfl (argsL := as.map (q_cv (q_g E))) (rest := rest.map (q_cv (q_g E))) (by rw [List.length_map]; exact hl2) rfl (by rw [hb]; exact hd)
  refine ⟨vm₁, mk, hnamed, X₁, fun target h => ?_⟩
  rw [est]
  rw [eas] at h
  exact hstep₁ target h
theorem q_invI {q0 mL : Nat} {bytes : ByteArray} (hd : decode M.1 pc = .ok (.invokespecial idx, 3)) (hl : Cond.methodLink M.2.2.2.1 idx y ∈ lw_tbl) (hs : Cond.instanceMethod y ∈ lw_tbl) (hc : Cond.code y bytes mL none ∈ lw_tbl) (hyi : y.name = "<init>") (hy : y.cls ≠ "java/lang/invoke/MethodHandle" ∧ y.cls ≠ "java/lang/invoke/VarHandle") (hlen : (parseMethodDescriptor y.desc).map (fun d => d.parameters.length) = some as.length) (hq : q0 < 900) : q_Inv E R M ws pc y (.ref q0 :: as) rest := by
  intro p e s m args below meth c T locs ce sl ls hC X hP
  obtain ⟨h0, ht, hx, hb, hml, hr, hlk, hh, hown, hnm, hn0⟩ := id hC
  have hpl : e.platform.magicAccessors = ({} : Platform).magicAccessors := by rw [X.admits.platform]
  have est : ((.ref q0 :: as).reverse ++ rest).map (q_cv (q_g E)) = (as.map (q_cv (q_g E))).reverse ++ .ref ((q_g E).1 + q0) :: rest.map (q_cv (q_g E)) := by
    simp [q_ref hq]
  have eas : (.ref q0 :: as).map (q_cv (q_g E)) = .ref ((q_g E).1 + q0) :: as.map (q_cv (q_g E)) := by
    simp [q_ref hq]
  obtain ⟨mk, methM, cM, kP, vm₁, hnamed, -, -, -, -, -, -, -, hW₁, hstep₁⟩ := Steps.initColdArgs (e := e) X.here hx X.warmed hpl hown hyi hy (q_w (args := args) h0 ht hl rfl) (q_w (args := args) h0 ht hs rfl) (q_w (args := args) h0 ht hc rfl)
    (f := F0 m pc ls ((as.map (q_cv (q_g E))).reverse ++ .ref ((q_g E).1 + q0) :: rest.map (q_cv (q_g E)))) rfl (a := (q_g E).1 + q0) (argsL := as.map (q_cv (q_g E))) (rest := rest.map (q_cv (q_g E))) (fun sig h => by rw [h] at hlen; rw [List.length_map]; exact (Option.some.inj hlen).symm) rfl (by rw [hb]; exact hd)
  refine ⟨vm₁, mk, hnamed, X.noted hW₁, fun target h => ?_⟩
  rw [est]
  rw [eas] at h
  exact hstep₁ target h
end QI
def q_resume (U : State) (g : JFrame) (o : Outcome) : State := match o with
  | .returned v => U.setTop { g with pc := g.pc + 3, stack := v.toList ++ g.stack }
  | .threw a => (U.setTop g).pushFrame (.throwing a)
set_option maxHeartbeats 4000000 in
theorem q_res {E : q_E} {R : Room} {M Y : q_M} {ws : List va_E} {pc ce sl : Nat} {y : MethodName} {as rest : List Value} {rm : Room} {r0 : q_R} (hM : q_Ct E y Y rm ws as r0) (hI : q_Inv E R M ws pc y as rest) (hcd : q_hd y Y ∈ lw_tbl) (hini : Cond.initialized y.cls ∈ lw_tbl)
    (hfr : rm.frames + 1 ≤ R.frames) (hlo : 8 + (Y.2.1 + 11) + rm.locals ≤ R.locals) (hce : ce + rm.cells ≤ R.cells) (hsl : sl + rm.slots ≤ R.slots) (hst : (rest.map fun v => v.category).sum ≤ 8) {ig : Instr} (hd : decode M.1 pc = .ok (ig, 3))
    (hy0 : Y.2.2.2.2.2.2 = none ∨ ∃ k0, M.2.2.2.2.2.2 = some k0 ∧ k0 + ce = ws.length ∧ Y.2.2.2.2.2.2 = some ws.length)
    {p : Program} {e : Env} {s : State} {m : MethodId} {args : Array Value} {below : List Frame} {meth : Method} {c : Code} {T : State} {locs : List Loc} {ls : Array Slot} (hC : q_Cx E M p s m meth c) (X : Stand p (q_l E) e R s m args below meth c T locs ce sl) (hP : va_P (q_DD E) q_cl (q_wz (q_g E) ws) T.heap) (hS : va_S (q_A (q_g E)) s.heap T.heap locs) (hls : ls.size = M.2.1) :
    ∃ (o : Outcome) (B : State) (Lc : List Loc), Stand p (q_l E) e R s m args below meth c B (locs ++ Lc) (ce + r0.2.2.1) (sl + r0.2.2.2) ∧ q_Out E r0.1 o s B ∧ va_P (q_DD E) q_cl (q_wz (q_g E) r0.2.1) B.heap ∧ va_S (q_A (q_g E)) s.heap B.heap (locs ++ Lc) ∧
      ∀ target, Steps p.tables e below (q_resume B (F0 m pc ls (rest.map (q_cv (q_g E)))) o) target → Steps p.tables e below (T.setTop (F0 m pc ls ((as.reverse ++ rest).map (q_cv (q_g E))))) target := by
  obtain ⟨h0, ht, hx, hb, hml, hr, hlk, hh, hown, hnm, hn0⟩ := id hC
  obtain ⟨vm₁, mk, hnamed, X₁, hstep⟩ := hI p e s m args below meth c T locs ce sl ls hC X hP
  have htU : q_St E (T.setVm vm₁) := ht.to hS rfl X₁.warmed
  obtain ⟨mk', methY, cY, hnY, hmY, hcY, -, hlY, -, -, -, -⟩ := q_hd_spec (q_w (args := (as.map (q_cv (q_g E))).toArray) h0 htU hcd q_hd_good)
  have hnU : (T.setVm vm₁).methodNamed? y = some mk := X₁.named hnamed
  cases hnU.symm.trans hnY
  obtain ⟨kY, hkY, -⟩ := className_of_methodNamed hnU
  have hinitY : kY.init = .initialized := Cond.initialized_spec (findClass_of_methodNamed hnU) hkY (q_w (args := #[]) h0 htU hini rfl)
  have hsz : T.heap.size ≤ s.heap.size + ce := X.heapSize
  have hPre : q_Pre E Y ws as (as.map (q_cv (q_g E))).toArray ((T.setVm vm₁).calling (F0 m pc ls (rest.map (q_cv (q_g E)))) mk (as.map (q_cv (q_g E))).toArray) := by
    refine ⟨rfl, h0, htU, hP, fun k hk => ?_⟩
    rcases hy0 with hy0 | ⟨k0, hk0, hce0, hyk⟩
    · rw [hy0] at hk; cases hk
    · rw [hyk] at hk
      cases hk
      exact q_exact ht hP hS (hn0 _ hk0) hce0 hsz
  have hw0 : ((rest.map (q_cv (q_g E))).map fun v => v.category).sum ≤ 8 := by
    rw [List.map_map]
    have e0 : ((fun v : Value => v.category) ∘ q_cv (q_g E)) = fun v => v.category := by
      funext v
      exact q_cv_cat _ v
    rw [e0]
    exact hst
  generalize hg : F0 m pc ls (rest.map (q_cv (q_g E))) = g at *
  have hgm : g.method = m := by rw [← hg]
  have hgs : g.locals.size = c.maxLocals := by rw [← hg, hml]; exact hls
  have hgd : decode c.code g.pc = .ok (ig, 3) := by rw [← hg, hb]; exact hd
  have hgw : 2 * g.monitorRoom + (g.stack.map fun v => v.category).sum ≤ 8 := by
    rw [← hg]
    show 2 * 0 + _ ≤ 8
    simpa using hw0
  generalize ha : (as.map (q_cv (q_g E))).toArray = a at *
  have h : At (T.setVm vm₁) g.method c below := by rw [hgm]; exact X₁.here
  have happ : (headSpec [q_hd y Y] rm).appliesLoose y e.platform ((T.setVm vm₁).calling g mk a) = true :=
    Spec.appliesLoose_calling (g := g) h hgd hnU hkY hinitY
      (X₁.room_calling (g := g) (R' := rm) hgs hmY hcY hfr (by rw [hlY]; omega) hce hsl) (atoms_intro (ws := [q_hd y Y]) (fun w hw => by
        rw [List.mem_singleton.mp hw]
        exact q_w h0 htU hcd q_hd_good))
  obtain ⟨mid, hmid⟩ := h.above
  have hfr0 : ((T.setVm vm₁).setTop g).frames = (.java g :: mid) ++ below := by rw [State.frames_setTop' g h.top, hmid]; rfl
  obtain ⟨o, s₂, hsteps, -, hend, hq⟩ := Steps.callFree hM p X.admits X.cas X.clock (acts := []) hfr0 happ hPre trivial
  have hq' : q_Q E r0 ((T.setVm vm₁).calling g mk a) o s₂ := hq
  rw [State.frames_setTop' g h.top] at hend
  obtain ⟨hout, hP2, hF2, hW₂, L, hsame0, hL⟩ := hq'
  obtain ⟨e2, q2, q3, q4, q5, q6⟩ := hsame0
  have e3 : s₂ = ({ ((T.setVm vm₁).calling g mk a).setFrames s₂.frames with heap := s₂.heap, slotsUsed := s₂.slotsUsed } : State).setVm s₂.vm := by
    have : s₂ = ({ s₂ with vm := ((T.setVm vm₁).calling g mk a).vm } : State).setVm s₂.vm := rfl
    rw [e2] at this
    exact this
  have hW' : (T.setVm vm₁).WarmedH s₂.vm := hW₂
  generalize hU : T.setVm vm₁ = U at *
  obtain ⟨g₀, hg0⟩ := Option.isSome_iff_exists.mp h.top
  obtain ⟨r, hr0⟩ := State.topJava?_eq_some.mp hg0
  have hr' : (({ U with heap := s₂.heap, slotsUsed := s₂.slotsUsed } : State).setVm s₂.vm).frames = .java g₀ :: r := hr0
  have hsame : U.sameButNew ({ U with heap := s₂.heap, slotsUsed := s₂.slotsUsed } : State) L r0.2.2.1 r0.2.2.2 := by
    refine ⟨?_, q2, q3, q4, q5, q6⟩
    obtain ⟨t, ht', -⟩ := State.frames_cons hr0
    show ({ U with heap := s₂.heap, slotsUsed := s₂.slotsUsed } : State) = { U.setFrames U.frames with heap := s₂.heap, slotsUsed := s₂.slotsUsed }
    rw [State.setFrames_self ht']
  have hUh : U.heap = T.heap := by rw [← hU]; rfl
  have hFU : va_F (q_A (q_g E)) U s₂ := hF2
  have hres : s₂ = q_resume (({ U with heap := s₂.heap, slotsUsed := s₂.slotsUsed } : State).setVm s₂.vm) g o := by
    cases o with
    | returned v =>
      obtain ⟨c₂, i₂, len₂, hc₂, hd₂, hf₂⟩ := hend
      have hcc : c₂ = c := by
        have h1 : s₂.code? g.method = U.code? g.method := by
          rw [State.code?_eq, State.code?_eq, hW'.alike.method?]
        exact Option.some.inj (hc₂.symm.trans (h1.trans h.code))
      subst hcc
      have hlen : len₂ = 3 := by rw [hgd] at hd₂; cases hd₂; rfl
      subst hlen
      refine e3.trans ?_
      show _ = (({ U with heap := s₂.heap, slotsUsed := s₂.slotsUsed } : State).setVm s₂.vm).setTop { g with pc := g.pc + 3, stack := v.toList ++ g.stack }
      rw [hf₂, State.calling_eq h.top, State.setFrames_setFrames, State.setTop_of_frames _ hr', hr0]
      rfl
    | threw v =>
      have hf₂ : s₂.frames = .throwing v :: .java g :: U.frames.tail := hend
      refine e3.trans ?_
      show _ = ((({ U with heap := s₂.heap, slotsUsed := s₂.slotsUsed } : State).setVm s₂.vm).setTop g).pushFrame (.throwing v)
      rw [hf₂, State.calling_eq h.top, State.setFrames_setFrames, State.pushFrame, State.frames_setTop _ hr', State.setTop_of_frames _ hr', State.setFrames_setFrames, hr0]
      rfl
  subst hgm
  refine ⟨o, ({ U with heap := s₂.heap, slotsUsed := s₂.slotsUsed } : State).setVm s₂.vm, L,
    ⟨X.admits, X.cas, X.clock, X.frames, X.room, X.hears, X.method, X.code, (X₁.here.setHeapUsed s₂.heap s₂.slotsUsed).setVm hW'.alike, X₁.tail, State.WarmedH.trans X₁.warmed hW', X₁.limits, X₁.bytes, X₁.same.trans (hsame.setVm s.vm)⟩, ?_, hP2, ?_, fun target hT => hstep target (fun acts => ?_)⟩
  · cases hx0 : r0.1 with
    | inl v => rw [hx0] at hout; exact hout
    | inr k =>
      rw [hx0] at hout
      obtain ⟨a', cell, g1, g2, g3, g4, g5, g6⟩ := hout
      refine ⟨a', cell, g1, g2, g3, g4, ?_, ?_⟩
      · have : U.vm.findClass (q_ex k) = some cell.cls := g5
        rwa [X₁.warmed.alike.findClass] at this
      · have : U.vm.assignable cell.cls cell.cls = true := g6
        rwa [X₁.warmed.alike.assignable] at this
  · refine ⟨Nat.le_trans hS.1 (by rw [← hUh]; exact hFU.1), fun q h1 h2 => ?_, fun l hl => ?_⟩
    · have h3 : q < U.heap.size := by rw [hUh]; exact Nat.lt_of_lt_of_le h1 hS.1
      exact (hFU.2 q h3 h2).trans (by rw [hUh]; exact hS.2.1 q h1 h2)
    · rcases List.mem_append.mp hl with h1 | h1
      · exact hS.2.2 l h1
      · exact hL l h1
  · rw [doInvoke_state]
    rw [← hres] at hT
    exact hsteps.trans hT
section QK
variable {E : q_E} {R : Room} {M Y : q_M} {ws ws' : List va_E} {pc ce sl mc ms : Nat} {y : MethodName} {as rest : List Value} {rm : Room} {r : q_R} {lv : List (Nat × Value)} {ig : Instr}
theorem q_call {v : Option Value} (n : Nat) (hM : q_Ct E y Y rm ws as (.inl v, ws', mc, ms)) (hI : q_Inv E R M ws pc y as rest) (hk : q_hd y Y ∈ lw_tbl ∧ Cond.initialized y.cls ∈ lw_tbl) (hro : rm.frames + 1 ≤ R.frames ∧ 8 + (Y.2.1 + 11) + rm.locals ≤ R.locals ∧ ce + rm.cells ≤ R.cells ∧ sl + rm.slots ≤ R.slots) (hst : (rest.map fun v => v.category).sum ≤ 8) (hd : decode M.1 pc = .ok (ig, 3)) (hn : pc + 3 = n)
    (hy0 : Y.2.2.2.2.2.2 = none ∨ ∃ k0, M.2.2.2.2.2.2 = some k0 ∧ k0 + ce = ws.length ∧ Y.2.2.2.2.2.2 = some ws.length)
    (k : AW E R M ws' (ce + mc) (sl + ms) n lv (v.toList ++ rest) r) : AW E R M ws ce sl pc lv (as.reverse ++ rest) r := by
  subst hn
  intro p e s m args below meth c H locs ls hC hP hS hl T hT X
  subst hT
  obtain ⟨o, B, Lc, XB, ho, hPB, hSB, hgo⟩ := q_res hM hI hk.1 hk.2 hro.1 hro.2.1 hro.2.2.1 hro.2.2.2 hst hd hy0 hC X hP hS hl.1
  have ho' : o = .returned (v.map (q_cv (q_g E))) := ho
  subst ho'
  obtain ⟨t, a1, b1⟩ := k p e s m args below meth c B.heap (locs ++ Lc) ls hC hPB hSB hl B rfl XB
  refine ⟨t, hgo t ?_, b1⟩
  have e1 : q_resume B (F0 m pc ls (rest.map (q_cv (q_g E)))) (.returned (v.map (q_cv (q_g E)))) = B.setTop (F0 m (pc + 3) ls ((v.toList ++ rest).map (q_cv (q_g E)))) := by cases v <;> rfl
  rw [e1]
  exact a1
theorem q_callT {kx mc' ms' : Nat} (hM : q_Ct E y Y rm ws as (.inr kx, ws', mc, ms)) (hI : q_Inv E R M ws pc y as rest) (hk : q_hd y Y ∈ lw_tbl ∧ Cond.initialized y.cls ∈ lw_tbl) (hro : rm.frames + 1 ≤ R.frames ∧ 8 + (Y.2.1 + 11) + rm.locals ≤ R.locals ∧ ce + rm.cells ≤ R.cells ∧ sl + rm.slots ≤ R.slots) (hst : (rest.map fun v => v.category).sum ≤ 8) (hd : decode M.1 pc = .ok (ig, 3))
    (hy0 : Y.2.2.2.2.2.2 = none ∨ ∃ k0, M.2.2.2.2.2.2 = some k0 ∧ k0 + ce = ws.length ∧ Y.2.2.2.2.2.2 = some ws.length)
    (hno : ∀ h ∈ M.2.2.2.2.2.1, (decide (h.1 ≤ pc) && decide (pc < h.2.1)) = false) (hmc : ce + mc ≤ mc') (hms : sl + ms ≤ ms') : AW E R M ws ce sl pc lv (as.reverse ++ rest) (.inr kx, ws', mc', ms') := by
  intro p e s m args below meth c H locs ls hC hP hS hl T hT X
  subst hT
  obtain ⟨h0, ht, hx, hb, hml, hr, hlk, hh, hown, hnm, hn0⟩ := id hC
  obtain ⟨o, B, Lc, XB, ho, hPB, hSB, hgo⟩ := q_res hM hI hk.1 hk.2 hro.1 hro.2.1 hro.2.2.1 hro.2.2.2 hst hd hy0 hC X hP hS hl.1
  obtain ⟨a, cell, rfl, g2, g3, g4, g5, g6⟩ := ho
  have hout : ∀ x ∈ c.exceptionTable.toList, covers x pc = false := fun x hx0 => hno _ (by rw [← hh]; exact List.mem_map.mpr ⟨x, hx0, rfl⟩)
  obtain ⟨hw, hrun, hend, hWm, hsm⟩ := XB.leaveThrown a (g := F0 m pc ls (rest.map (q_cv (q_g E)))) rfl rfl rfl hout (hlocks := hlk)
  exact ⟨_, hgo _ hw, _, hrun, hend, ⟨a, cell, rfl, g2, g3, g4, g5, g6⟩, hPB, hSB.F rfl, hWm, locs ++ Lc, hsm.mono hmc hms, hSB.2.2⟩
end QK
end
section
theorem k_D_type : q_hd y_D_type m_D_type ∈ lw_tbl ∧ Cond.initialized y_D_type.cls ∈ lw_tbl := ⟨q_tb 183 (by decide +kernel), q_tb 1 (by decide +kernel)⟩
theorem ms_D_type : Cond.instanceMethod y_D_type ∈ lw_tbl ∧ Cond.selects y_D_type.cls y_D_type y_D_type ∈ lw_tbl := ⟨q_tb 181 (by decide +kernel), q_tb 182 (by decide +kernel)⟩
theorem k_D_formula : q_hd y_D_formula m_D_formula ∈ lw_tbl ∧ Cond.initialized y_D_formula.cls ∈ lw_tbl := ⟨q_tb 271 (by decide +kernel), q_tb 1 (by decide +kernel)⟩
theorem ms_D_formula : Cond.instanceMethod y_D_formula ∈ lw_tbl ∧ Cond.selects y_D_formula.cls y_D_formula y_D_formula ∈ lw_tbl := ⟨q_tb 269 (by decide +kernel), q_tb 270 (by decide +kernel)⟩
theorem k_D_states : q_hd y_D_states m_D_states ∈ lw_tbl ∧ Cond.initialized y_D_states.cls ∈ lw_tbl := ⟨q_tb 331 (by decide +kernel), q_tb 1 (by decide +kernel)⟩
theorem ms_D_states : Cond.instanceMethod y_D_states ∈ lw_tbl ∧ Cond.selects y_D_states.cls y_D_states y_D_states ∈ lw_tbl := ⟨q_tb 329 (by decide +kernel), q_tb 330 (by decide +kernel)⟩
theorem k_D_isAt : q_hd y_D_isAt m_D_isAt ∈ lw_tbl ∧ Cond.initialized y_D_isAt.cls ∈ lw_tbl := ⟨q_tb 363 (by decide +kernel), q_tb 1 (by decide +kernel)⟩
theorem ms_D_isAt : Cond.instanceMethod y_D_isAt ∈ lw_tbl ∧ Cond.selects y_D_isAt.cls y_D_isAt y_D_isAt ∈ lw_tbl := ⟨q_tb 361 (by decide +kernel), q_tb 362 (by decide +kernel)⟩
theorem k_D_leads : q_hd y_D_leads m_D_leads ∈ lw_tbl ∧ Cond.initialized y_D_leads.cls ∈ lw_tbl := ⟨q_tb 405 (by decide +kernel), q_tb 1 (by decide +kernel)⟩
theorem ms_D_leads : Cond.instanceMethod y_D_leads ∈ lw_tbl ∧ Cond.selects y_D_leads.cls y_D_leads y_D_leads ∈ lw_tbl := ⟨q_tb 403 (by decide +kernel), q_tb 404 (by decide +kernel)⟩
theorem k_D_lasts : q_hd y_D_lasts m_D_lasts ∈ lw_tbl ∧ Cond.initialized y_D_lasts.cls ∈ lw_tbl := ⟨q_tb 416 (by decide +kernel), q_tb 1 (by decide +kernel)⟩
theorem ms_D_lasts : Cond.instanceMethod y_D_lasts ∈ lw_tbl ∧ Cond.selects y_D_lasts.cls y_D_lasts y_D_lasts ∈ lw_tbl := ⟨q_tb 414 (by decide +kernel), q_tb 415 (by decide +kernel)⟩
theorem k_D_lasting : q_hd y_D_lasting m_D_lasting ∈ lw_tbl ∧ Cond.initialized y_D_lasting.cls ∈ lw_tbl := ⟨q_tb 507 (by decide +kernel), q_tb 1 (by decide +kernel)⟩
theorem ms_D_lasting : Cond.instanceMethod y_D_lasting ∈ lw_tbl ∧ Cond.selects y_D_lasting.cls y_D_lasting y_D_lasting ∈ lw_tbl := ⟨q_tb 505 (by decide +kernel), q_tb 506 (by decide +kernel)⟩
theorem k_D_promises : q_hd y_D_promises m_D_promises ∈ lw_tbl ∧ Cond.initialized y_D_promises.cls ∈ lw_tbl := ⟨q_tb 518 (by decide +kernel), q_tb 1 (by decide +kernel)⟩
theorem ms_D_promises : Cond.instanceMethod y_D_promises ∈ lw_tbl ∧ Cond.selects y_D_promises.cls y_D_promises y_D_promises ∈ lw_tbl := ⟨q_tb 516 (by decide +kernel), q_tb 517 (by decide +kernel)⟩
theorem k_D_can : q_hd y_D_can m_D_can ∈ lw_tbl ∧ Cond.initialized y_D_can.cls ∈ lw_tbl := ⟨q_tb 526 (by decide +kernel), q_tb 1 (by decide +kernel)⟩
theorem ms_D_can : Cond.instanceMethod y_D_can ∈ lw_tbl ∧ Cond.selects y_D_can.cls y_D_can y_D_can ∈ lw_tbl := ⟨q_tb 524 (by decide +kernel), q_tb 525 (by decide +kernel)⟩
theorem k_D_stem : q_hd y_D_stem m_D_stem ∈ lw_tbl ∧ Cond.initialized y_D_stem.cls ∈ lw_tbl := ⟨q_tb 537 (by decide +kernel), q_tb 1 (by decide +kernel)⟩
theorem ms_D_stem : Cond.instanceMethod y_D_stem ∈ lw_tbl ∧ Cond.selects y_D_stem.cls y_D_stem y_D_stem ∈ lw_tbl := ⟨q_tb 535 (by decide +kernel), q_tb 536 (by decide +kernel)⟩
theorem k_D_loop : q_hd y_D_loop m_D_loop ∈ lw_tbl ∧ Cond.initialized y_D_loop.cls ∈ lw_tbl := ⟨q_tb 548 (by decide +kernel), q_tb 1 (by decide +kernel)⟩
theorem ms_D_loop : Cond.instanceMethod y_D_loop ∈ lw_tbl ∧ Cond.selects y_D_loop.cls y_D_loop y_D_loop ∈ lw_tbl := ⟨q_tb 546 (by decide +kernel), q_tb 547 (by decide +kernel)⟩
theorem k_D_step : q_hd y_D_step m_D_step ∈ lw_tbl ∧ Cond.initialized y_D_step.cls ∈ lw_tbl := ⟨q_tb 559 (by decide +kernel), q_tb 1 (by decide +kernel)⟩
theorem ms_D_step : Cond.instanceMethod y_D_step ∈ lw_tbl ∧ Cond.selects y_D_step.cls y_D_step y_D_step ∈ lw_tbl := ⟨q_tb 557 (by decide +kernel), q_tb 558 (by decide +kernel)⟩
theorem k_D_shape : q_hd y_D_shape m_D_shape ∈ lw_tbl ∧ Cond.initialized y_D_shape.cls ∈ lw_tbl := ⟨q_tb 577 (by decide +kernel), q_tb 1 (by decide +kernel)⟩
theorem ms_D_shape : Cond.instanceMethod y_D_shape ∈ lw_tbl ∧ Cond.selects y_D_shape.cls y_D_shape y_D_shape ∈ lw_tbl := ⟨q_tb 575 (by decide +kernel), q_tb 576 (by decide +kernel)⟩
theorem k_D_set : q_hd y_D_set m_D_set ∈ lw_tbl ∧ Cond.initialized y_D_set.cls ∈ lw_tbl := ⟨q_tb 596 (by decide +kernel), q_tb 1 (by decide +kernel)⟩
theorem ms_D_set : Cond.instanceMethod y_D_set ∈ lw_tbl ∧ Cond.selects y_D_set.cls y_D_set y_D_set ∈ lw_tbl := ⟨q_tb 594 (by decide +kernel), q_tb 595 (by decide +kernel)⟩
theorem k_D_adopt : q_hd y_D_adopt m_D_adopt ∈ lw_tbl ∧ Cond.initialized y_D_adopt.cls ∈ lw_tbl := ⟨q_tb 609 (by decide +kernel), q_tb 1 (by decide +kernel)⟩
theorem ms_D_adopt : Cond.instanceMethod y_D_adopt ∈ lw_tbl ∧ Cond.selects y_D_adopt.cls y_D_adopt y_D_adopt ∈ lw_tbl := ⟨q_tb 607 (by decide +kernel), q_tb 608 (by decide +kernel)⟩
theorem k_D_letter : q_hd y_D_letter m_D_letter ∈ lw_tbl ∧ Cond.initialized y_D_letter.cls ∈ lw_tbl := ⟨q_tb 624 (by decide +kernel), q_tb 1 (by decide +kernel)⟩
theorem ms_D_letter : Cond.instanceMethod y_D_letter ∈ lw_tbl ∧ Cond.selects y_D_letter.cls y_D_letter y_D_letter ∈ lw_tbl := ⟨q_tb 622 (by decide +kernel), q_tb 623 (by decide +kernel)⟩
theorem k_D_holds : q_hd y_D_holds m_D_holds ∈ lw_tbl ∧ Cond.initialized y_D_holds.cls ∈ lw_tbl := ⟨q_tb 644 (by decide +kernel), q_tb 1 (by decide +kernel)⟩
theorem ms_D_holds : Cond.instanceMethod y_D_holds ∈ lw_tbl ∧ Cond.selects y_D_holds.cls y_D_holds y_D_holds ∈ lw_tbl := ⟨q_tb 642 (by decide +kernel), q_tb 643 (by decide +kernel)⟩
theorem k_D_requireFormula : q_hd y_D_requireFormula m_D_requireFormula ∈ lw_tbl ∧ Cond.initialized y_D_requireFormula.cls ∈ lw_tbl := ⟨q_tb 335 (by decide +kernel), q_tb 1 (by decide +kernel)⟩
theorem ms_D_requireFormula : Cond.instanceMethod y_D_requireFormula ∈ lw_tbl ∧ Cond.selects y_D_requireFormula.cls y_D_requireFormula y_D_requireFormula ∈ lw_tbl := ⟨q_tb 334 (by decide +kernel), q_ts (n := 8) 6 (by decide +kernel)⟩
theorem k_D_requireState : q_hd y_D_requireState m_D_requireState ∈ lw_tbl ∧ Cond.initialized y_D_requireState.cls ∈ lw_tbl := ⟨q_tb 367 (by decide +kernel), q_tb 1 (by decide +kernel)⟩
theorem ms_D_requireState : Cond.instanceMethod y_D_requireState ∈ lw_tbl ∧ Cond.selects y_D_requireState.cls y_D_requireState y_D_requireState ∈ lw_tbl := ⟨q_tb 366 (by decide +kernel), q_ts (n := 8) 7 (by decide +kernel)⟩
theorem k_D_requirePlace : q_hd y_D_requirePlace m_D_requirePlace ∈ lw_tbl ∧ Cond.initialized y_D_requirePlace.cls ∈ lw_tbl := ⟨q_tb 628 (by decide +kernel), q_tb 1 (by decide +kernel)⟩
theorem ms_D_requirePlace : Cond.instanceMethod y_D_requirePlace ∈ lw_tbl ∧ Cond.selects y_D_requirePlace.cls y_D_requirePlace y_D_requirePlace ∈ lw_tbl := ⟨q_tb 627 (by decide +kernel), q_ts (n := 8) 19 (by decide +kernel)⟩
theorem k_D_settle : q_hd y_D_settle m_D_settle ∈ lw_tbl ∧ Cond.initialized y_D_settle.cls ∈ lw_tbl := ⟨q_tb 420 (by decide +kernel), q_tb 1 (by decide +kernel)⟩
theorem ms_D_settle : Cond.instanceMethod y_D_settle ∈ lw_tbl ∧ Cond.selects y_D_settle.cls y_D_settle y_D_settle ∈ lw_tbl := ⟨q_tb 419 (by decide +kernel), q_ts (n := 8) 9 (by decide +kernel)⟩
theorem k_D_hasBit : q_hd y_D_hasBit m_D_hasBit ∈ lw_tbl ∧ Cond.initialized y_D_hasBit.cls ∈ lw_tbl := ⟨q_tb 394 (by decide +kernel), q_tb 1 (by decide +kernel)⟩
theorem ms_D_hasBit : Cond.static y_D_hasBit ∈ lw_tbl := q_tb 393 (by decide +kernel)
theorem k_D_isTemporal : q_hd y_D_isTemporal m_D_isTemporal ∈ lw_tbl ∧ Cond.initialized y_D_isTemporal.cls ∈ lw_tbl := ⟨q_tb 290 (by decide +kernel), q_tb 1 (by decide +kernel)⟩
theorem ms_D_isTemporal : Cond.static y_D_isTemporal ∈ lw_tbl := q_tb 289 (by decide +kernel)
theorem k_Mo_thrown : q_hd y_Mo_thrown m_Mo_thrown ∈ lw_tbl ∧ Cond.initialized y_Mo_thrown.cls ∈ lw_tbl := ⟨q_tb 803 (by decide +kernel), q_tb 7 (by decide +kernel)⟩
theorem ms_Mo_thrown : Cond.instanceMethod y_Mo_thrown ∈ lw_tbl ∧ Cond.selects y_Mo_thrown.cls y_Mo_thrown y_Mo_thrown ∈ lw_tbl := ⟨q_tb 801 (by decide +kernel), q_tb 802 (by decide +kernel)⟩
theorem k_Mo_type : q_hd y_Mo_type m_Mo_type ∈ lw_tbl ∧ Cond.initialized y_Mo_type.cls ∈ lw_tbl := ⟨q_tb 807 (by decide +kernel), q_tb 7 (by decide +kernel)⟩
theorem ms_Mo_type : Cond.instanceMethod y_Mo_type ∈ lw_tbl ∧ Cond.selects y_Mo_type.cls y_Mo_type y_Mo_type ∈ lw_tbl := ⟨q_tb 805 (by decide +kernel), q_tb 806 (by decide +kernel)⟩
theorem k_Mo_tightness : q_hd y_Mo_tightness m_Mo_tightness ∈ lw_tbl ∧ Cond.initialized y_Mo_tightness.cls ∈ lw_tbl := ⟨q_tb 839 (by decide +kernel), q_tb 7 (by decide +kernel)⟩
theorem ms_Mo_tightness : Cond.static y_Mo_tightness ∈ lw_tbl := q_tb 838 (by decide +kernel)
theorem k_Mo_isTemporal : q_hd y_Mo_isTemporal m_Mo_isTemporal ∈ lw_tbl ∧ Cond.initialized y_Mo_isTemporal.cls ∈ lw_tbl := ⟨q_tb 832 (by decide +kernel), q_tb 7 (by decide +kernel)⟩
theorem ms_Mo_isTemporal : Cond.static y_Mo_isTemporal ∈ lw_tbl := q_tb 831 (by decide +kernel)
theorem k_Mo_part : q_hd y_Mo_part m_Mo_part ∈ lw_tbl ∧ Cond.initialized y_Mo_part.cls ∈ lw_tbl := ⟨q_tb 822 (by decide +kernel), q_tb 7 (by decide +kernel)⟩
theorem ms_Mo_part : Cond.instanceMethod y_Mo_part ∈ lw_tbl ∧ Cond.selects y_Mo_part.cls y_Mo_part y_Mo_part ∈ lw_tbl := ⟨q_tb 821 (by decide +kernel), q_ts (n := 40) 22 (by decide +kernel)⟩
theorem k_Mo_taken : q_hd y_Mo_taken m_Mo_taken ∈ lw_tbl ∧ Cond.initialized y_Mo_taken.cls ∈ lw_tbl := ⟨q_tb 843 (by decide +kernel), q_tb 7 (by decide +kernel)⟩
theorem ms_Mo_taken : Cond.instanceMethod y_Mo_taken ∈ lw_tbl ∧ Cond.selects y_Mo_taken.cls y_Mo_taken y_Mo_taken ∈ lw_tbl := ⟨q_tb 842 (by decide +kernel), q_ts (n := 40) 25 (by decide +kernel)⟩
theorem k_Mo_settle : q_hd y_Mo_settle m_Mo_settle ∈ lw_tbl ∧ Cond.initialized y_Mo_settle.cls ∈ lw_tbl := ⟨q_tb 836 (by decide +kernel), q_tb 7 (by decide +kernel)⟩
theorem ms_Mo_settle : Cond.instanceMethod y_Mo_settle ∈ lw_tbl ∧ Cond.selects y_Mo_settle.cls y_Mo_settle y_Mo_settle ∈ lw_tbl := ⟨q_tb 835 (by decide +kernel), q_ts (n := 40) 24 (by decide +kernel)⟩
theorem k_Mo_push : q_hd y_Mo_push m_Mo_push ∈ lw_tbl ∧ Cond.initialized y_Mo_push.cls ∈ lw_tbl := ⟨q_tb 829 (by decide +kernel), q_tb 7 (by decide +kernel)⟩
theorem ms_Mo_push : Cond.instanceMethod y_Mo_push ∈ lw_tbl ∧ Cond.selects y_Mo_push.cls y_Mo_push y_Mo_push ∈ lw_tbl := ⟨q_tb 828 (by decide +kernel), q_ts (n := 40) 23 (by decide +kernel)⟩
theorem k_Mo_leafOf : q_hd y_Mo_leafOf m_Mo_leafOf ∈ lw_tbl ∧ Cond.initialized y_Mo_leafOf.cls ∈ lw_tbl := ⟨q_tb 818 (by decide +kernel), q_tb 7 (by decide +kernel)⟩
theorem ms_Mo_leafOf : Cond.static y_Mo_leafOf ∈ lw_tbl := q_tb 817 (by decide +kernel)
theorem k_Mo_prefixOf : q_hd y_Mo_prefixOf m_Mo_prefixOf ∈ lw_tbl ∧ Cond.initialized y_Mo_prefixOf.cls ∈ lw_tbl := ⟨q_tb 825 (by decide +kernel), q_tb 7 (by decide +kernel)⟩
theorem ms_Mo_prefixOf : Cond.static y_Mo_prefixOf ∈ lw_tbl := q_tb 824 (by decide +kernel)
theorem k_Mo_signOf : q_hd y_Mo_signOf m_Mo_signOf ∈ lw_tbl ∧ Cond.initialized y_Mo_signOf.cls ∈ lw_tbl := ⟨q_tb 846 (by decide +kernel), q_tb 7 (by decide +kernel)⟩
theorem ms_Mo_signOf : Cond.static y_Mo_signOf ∈ lw_tbl := q_tb 845 (by decide +kernel)
theorem k_Mo_reads : q_hd y_Mo_reads m_Mo_reads ∈ lw_tbl ∧ Cond.initialized y_Mo_reads.cls ∈ lw_tbl := ⟨q_tb 815 (by decide +kernel), q_tb 7 (by decide +kernel)⟩
theorem ms_Mo_reads : Cond.instanceMethod y_Mo_reads ∈ lw_tbl ∧ Cond.selects y_Mo_reads.cls y_Mo_reads y_Mo_reads ∈ lw_tbl := ⟨q_tb 814 (by decide +kernel), q_ts (n := 40) 21 (by decide +kernel)⟩
theorem k_Mo_formula : q_hd y_Mo_formula m_Mo_formula ∈ lw_tbl ∧ Cond.initialized y_Mo_formula.cls ∈ lw_tbl := ⟨q_tb 811 (by decide +kernel), q_tb 7 (by decide +kernel)⟩
theorem ms_Mo_formula : Cond.instanceMethod y_Mo_formula ∈ lw_tbl ∧ Cond.selects y_Mo_formula.cls y_Mo_formula y_Mo_formula ∈ lw_tbl := ⟨q_tb 809 (by decide +kernel), q_tb 810 (by decide +kernel)⟩
theorem k_Mo_count : q_hd y_Mo_count m_Mo_count ∈ lw_tbl ∧ Cond.initialized y_Mo_count.cls ∈ lw_tbl := ⟨q_tb 850 (by decide +kernel), q_tb 7 (by decide +kernel)⟩
theorem ms_Mo_count : Cond.instanceMethod y_Mo_count ∈ lw_tbl ∧ Cond.selects y_Mo_count.cls y_Mo_count y_Mo_count ∈ lw_tbl := ⟨q_tb 849 (by decide +kernel), q_ts (n := 40) 26 (by decide +kernel)⟩
theorem k_Mo_valueOf : q_hd y_Mo_valueOf m_Mo_valueOf ∈ lw_tbl ∧ Cond.initialized y_Mo_valueOf.cls ∈ lw_tbl := ⟨q_tb 858 (by decide +kernel), q_tb 7 (by decide +kernel)⟩
theorem ms_Mo_valueOf : Cond.instanceMethod y_Mo_valueOf ∈ lw_tbl ∧ Cond.selects y_Mo_valueOf.cls y_Mo_valueOf y_Mo_valueOf ∈ lw_tbl := ⟨q_tb 857 (by decide +kernel), q_ts (n := 40) 28 (by decide +kernel)⟩
theorem k_Mo_look : q_hd y_Mo_look m_Mo_look ∈ lw_tbl ∧ Cond.initialized y_Mo_look.cls ∈ lw_tbl := ⟨q_tb 854 (by decide +kernel), q_tb 7 (by decide +kernel)⟩
theorem ms_Mo_look : Cond.instanceMethod y_Mo_look ∈ lw_tbl ∧ Cond.selects y_Mo_look.cls y_Mo_look y_Mo_look ∈ lw_tbl := ⟨q_tb 853 (by decide +kernel), q_ts (n := 40) 27 (by decide +kernel)⟩
theorem k_Mo_goes : q_hd y_Mo_goes m_Mo_goes ∈ lw_tbl ∧ Cond.initialized y_Mo_goes.cls ∈ lw_tbl := ⟨q_tb 899 (by decide +kernel), q_tb 7 (by decide +kernel)⟩
theorem ms_Mo_goes : Cond.instanceMethod y_Mo_goes ∈ lw_tbl ∧ Cond.selects y_Mo_goes.cls y_Mo_goes y_Mo_goes ∈ lw_tbl := ⟨q_tb 898 (by decide +kernel), q_ts (n := 40) 38 (by decide +kernel)⟩
theorem k_Mo_noteSome : q_hd y_Mo_noteSome m_Mo_noteSome ∈ lw_tbl ∧ Cond.initialized y_Mo_noteSome.cls ∈ lw_tbl := ⟨q_tb 870 (by decide +kernel), q_tb 7 (by decide +kernel)⟩
theorem ms_Mo_noteSome : Cond.instanceMethod y_Mo_noteSome ∈ lw_tbl ∧ Cond.selects y_Mo_noteSome.cls y_Mo_noteSome y_Mo_noteSome ∈ lw_tbl := ⟨q_tb 869 (by decide +kernel), q_ts (n := 40) 31 (by decide +kernel)⟩
theorem k_Mo_leadsToOne : q_hd y_Mo_leadsToOne m_Mo_leadsToOne ∈ lw_tbl ∧ Cond.initialized y_Mo_leadsToOne.cls ∈ lw_tbl := ⟨q_tb 874 (by decide +kernel), q_tb 7 (by decide +kernel)⟩
theorem ms_Mo_leadsToOne : Cond.instanceMethod y_Mo_leadsToOne ∈ lw_tbl ∧ Cond.selects y_Mo_leadsToOne.cls y_Mo_leadsToOne y_Mo_leadsToOne ∈ lw_tbl := ⟨q_tb 873 (by decide +kernel), q_ts (n := 40) 32 (by decide +kernel)⟩
theorem k_Mo_countSteps : q_hd y_Mo_countSteps m_Mo_countSteps ∈ lw_tbl ∧ Cond.initialized y_Mo_countSteps.cls ∈ lw_tbl := ⟨q_tb 866 (by decide +kernel), q_tb 7 (by decide +kernel)⟩
theorem ms_Mo_countSteps : Cond.instanceMethod y_Mo_countSteps ∈ lw_tbl ∧ Cond.selects y_Mo_countSteps.cls y_Mo_countSteps y_Mo_countSteps ∈ lw_tbl := ⟨q_tb 865 (by decide +kernel), q_ts (n := 40) 30 (by decide +kernel)⟩
theorem k_Mo_takeOut : q_hd y_Mo_takeOut m_Mo_takeOut ∈ lw_tbl ∧ Cond.initialized y_Mo_takeOut.cls ∈ lw_tbl := ⟨q_tb 862 (by decide +kernel), q_tb 7 (by decide +kernel)⟩
theorem ms_Mo_takeOut : Cond.instanceMethod y_Mo_takeOut ∈ lw_tbl ∧ Cond.selects y_Mo_takeOut.cls y_Mo_takeOut y_Mo_takeOut ∈ lw_tbl := ⟨q_tb 861 (by decide +kernel), q_ts (n := 40) 29 (by decide +kernel)⟩
theorem k_Mo_isDue : q_hd y_Mo_isDue m_Mo_isDue ∈ lw_tbl ∧ Cond.initialized y_Mo_isDue.cls ∈ lw_tbl := ⟨q_tb 890 (by decide +kernel), q_tb 7 (by decide +kernel)⟩
theorem ms_Mo_isDue : Cond.instanceMethod y_Mo_isDue ∈ lw_tbl ∧ Cond.selects y_Mo_isDue.cls y_Mo_isDue y_Mo_isDue ∈ lw_tbl := ⟨q_tb 889 (by decide +kernel), q_ts (n := 40) 36 (by decide +kernel)⟩
theorem k_Mo_dutyAt : q_hd y_Mo_dutyAt m_Mo_dutyAt ∈ lw_tbl ∧ Cond.initialized y_Mo_dutyAt.cls ∈ lw_tbl := ⟨q_tb 886 (by decide +kernel), q_tb 7 (by decide +kernel)⟩
theorem ms_Mo_dutyAt : Cond.instanceMethod y_Mo_dutyAt ∈ lw_tbl ∧ Cond.selects y_Mo_dutyAt.cls y_Mo_dutyAt y_Mo_dutyAt ∈ lw_tbl := ⟨q_tb 885 (by decide +kernel), q_ts (n := 40) 35 (by decide +kernel)⟩
theorem k_Mo_nextOf : q_hd y_Mo_nextOf m_Mo_nextOf ∈ lw_tbl ∧ Cond.initialized y_Mo_nextOf.cls ∈ lw_tbl := ⟨q_tb 894 (by decide +kernel), q_tb 7 (by decide +kernel)⟩
theorem ms_Mo_nextOf : Cond.instanceMethod y_Mo_nextOf ∈ lw_tbl ∧ Cond.selects y_Mo_nextOf.cls y_Mo_nextOf y_Mo_nextOf ∈ lw_tbl := ⟨q_tb 893 (by decide +kernel), q_ts (n := 40) 37 (by decide +kernel)⟩
theorem k_Mo_firstState : q_hd y_Mo_firstState m_Mo_firstState ∈ lw_tbl ∧ Cond.initialized y_Mo_firstState.cls ∈ lw_tbl := ⟨q_tb 882 (by decide +kernel), q_tb 7 (by decide +kernel)⟩
theorem ms_Mo_firstState : Cond.instanceMethod y_Mo_firstState ∈ lw_tbl ∧ Cond.selects y_Mo_firstState.cls y_Mo_firstState y_Mo_firstState ∈ lw_tbl := ⟨q_tb 881 (by decide +kernel), q_ts (n := 40) 34 (by decide +kernel)⟩
theorem k_Mo_goWalk : q_hd y_Mo_goWalk m_Mo_goWalk ∈ lw_tbl ∧ Cond.initialized y_Mo_goWalk.cls ∈ lw_tbl := ⟨q_tb 878 (by decide +kernel), q_tb 7 (by decide +kernel)⟩
theorem ms_Mo_goWalk : Cond.instanceMethod y_Mo_goWalk ∈ lw_tbl ∧ Cond.selects y_Mo_goWalk.cls y_Mo_goWalk y_Mo_goWalk ∈ lw_tbl := ⟨q_tb 877 (by decide +kernel), q_ts (n := 40) 33 (by decide +kernel)⟩
theorem k_Mo_refused : q_hd y_Mo_refused m_Mo_refused ∈ lw_tbl ∧ Cond.initialized y_Mo_refused.cls ∈ lw_tbl := ⟨q_tb 907 (by decide +kernel), q_tb 7 (by decide +kernel)⟩
theorem ms_Mo_refused : Cond.instanceMethod y_Mo_refused ∈ lw_tbl ∧ Cond.selects y_Mo_refused.cls y_Mo_refused y_Mo_refused ∈ lw_tbl := ⟨q_tb 906 (by decide +kernel), q_ts (n := 40) 39 (by decide +kernel)⟩
theorem k_Mo_isState : q_hd y_Mo_isState m_Mo_isState ∈ lw_tbl ∧ Cond.initialized y_Mo_isState.cls ∈ lw_tbl := ⟨q_tb 915 (by decide +kernel), q_tb 7 (by decide +kernel)⟩
theorem ms_Mo_isState : Cond.instanceMethod y_Mo_isState ∈ lw_tbl ∧ Cond.selects y_Mo_isState.cls y_Mo_isState y_Mo_isState ∈ lw_tbl := ⟨q_tb 914 (by decide +kernel), q_ts (n := 40) 40 (by decide +kernel)⟩
theorem k_Mo_states : q_hd y_Mo_states m_Mo_states ∈ lw_tbl ∧ Cond.initialized y_Mo_states.cls ∈ lw_tbl := ⟨q_tb 903 (by decide +kernel), q_tb 7 (by decide +kernel)⟩
theorem ms_Mo_states : Cond.instanceMethod y_Mo_states ∈ lw_tbl ∧ Cond.selects y_Mo_states.cls y_Mo_states y_Mo_states ∈ lw_tbl := ⟨q_tb 901 (by decide +kernel), q_tb 902 (by decide +kernel)⟩
theorem k_Mo_isAt : q_hd y_Mo_isAt m_Mo_isAt ∈ lw_tbl ∧ Cond.initialized y_Mo_isAt.cls ∈ lw_tbl := ⟨q_tb 911 (by decide +kernel), q_tb 7 (by decide +kernel)⟩
theorem ms_Mo_isAt : Cond.instanceMethod y_Mo_isAt ∈ lw_tbl ∧ Cond.selects y_Mo_isAt.cls y_Mo_isAt y_Mo_isAt ∈ lw_tbl := ⟨q_tb 909 (by decide +kernel), q_tb 910 (by decide +kernel)⟩
theorem k_Mo_leads : q_hd y_Mo_leads m_Mo_leads ∈ lw_tbl ∧ Cond.initialized y_Mo_leads.cls ∈ lw_tbl := ⟨q_tb 919 (by decide +kernel), q_tb 7 (by decide +kernel)⟩
theorem ms_Mo_leads : Cond.instanceMethod y_Mo_leads ∈ lw_tbl ∧ Cond.selects y_Mo_leads.cls y_Mo_leads y_Mo_leads ∈ lw_tbl := ⟨q_tb 917 (by decide +kernel), q_tb 918 (by decide +kernel)⟩
theorem k_Mo_lasts : q_hd y_Mo_lasts m_Mo_lasts ∈ lw_tbl ∧ Cond.initialized y_Mo_lasts.cls ∈ lw_tbl := ⟨q_tb 923 (by decide +kernel), q_tb 7 (by decide +kernel)⟩
theorem ms_Mo_lasts : Cond.instanceMethod y_Mo_lasts ∈ lw_tbl ∧ Cond.selects y_Mo_lasts.cls y_Mo_lasts y_Mo_lasts ∈ lw_tbl := ⟨q_tb 921 (by decide +kernel), q_tb 922 (by decide +kernel)⟩
theorem k_Mo_lasting : q_hd y_Mo_lasting m_Mo_lasting ∈ lw_tbl ∧ Cond.initialized y_Mo_lasting.cls ∈ lw_tbl := ⟨q_tb 927 (by decide +kernel), q_tb 7 (by decide +kernel)⟩
theorem ms_Mo_lasting : Cond.instanceMethod y_Mo_lasting ∈ lw_tbl ∧ Cond.selects y_Mo_lasting.cls y_Mo_lasting y_Mo_lasting ∈ lw_tbl := ⟨q_tb 925 (by decide +kernel), q_tb 926 (by decide +kernel)⟩
theorem k_Mo_promises : q_hd y_Mo_promises m_Mo_promises ∈ lw_tbl ∧ Cond.initialized y_Mo_promises.cls ∈ lw_tbl := ⟨q_tb 931 (by decide +kernel), q_tb 7 (by decide +kernel)⟩
theorem ms_Mo_promises : Cond.instanceMethod y_Mo_promises ∈ lw_tbl ∧ Cond.selects y_Mo_promises.cls y_Mo_promises y_Mo_promises ∈ lw_tbl := ⟨q_tb 929 (by decide +kernel), q_tb 930 (by decide +kernel)⟩
theorem k_Mo_can : q_hd y_Mo_can m_Mo_can ∈ lw_tbl ∧ Cond.initialized y_Mo_can.cls ∈ lw_tbl := ⟨q_tb 935 (by decide +kernel), q_tb 7 (by decide +kernel)⟩
theorem ms_Mo_can : Cond.instanceMethod y_Mo_can ∈ lw_tbl ∧ Cond.selects y_Mo_can.cls y_Mo_can y_Mo_can ∈ lw_tbl := ⟨q_tb 933 (by decide +kernel), q_tb 934 (by decide +kernel)⟩
theorem k_Mo_stem : q_hd y_Mo_stem m_Mo_stem ∈ lw_tbl ∧ Cond.initialized y_Mo_stem.cls ∈ lw_tbl := ⟨q_tb 939 (by decide +kernel), q_tb 7 (by decide +kernel)⟩
theorem ms_Mo_stem : Cond.instanceMethod y_Mo_stem ∈ lw_tbl ∧ Cond.selects y_Mo_stem.cls y_Mo_stem y_Mo_stem ∈ lw_tbl := ⟨q_tb 937 (by decide +kernel), q_tb 938 (by decide +kernel)⟩
theorem k_Mo_loop : q_hd y_Mo_loop m_Mo_loop ∈ lw_tbl ∧ Cond.initialized y_Mo_loop.cls ∈ lw_tbl := ⟨q_tb 943 (by decide +kernel), q_tb 7 (by decide +kernel)⟩
theorem ms_Mo_loop : Cond.instanceMethod y_Mo_loop ∈ lw_tbl ∧ Cond.selects y_Mo_loop.cls y_Mo_loop y_Mo_loop ∈ lw_tbl := ⟨q_tb 941 (by decide +kernel), q_tb 942 (by decide +kernel)⟩
theorem k_Mo_step : q_hd y_Mo_step m_Mo_step ∈ lw_tbl ∧ Cond.initialized y_Mo_step.cls ∈ lw_tbl := ⟨q_tb 947 (by decide +kernel), q_tb 7 (by decide +kernel)⟩
theorem ms_Mo_step : Cond.instanceMethod y_Mo_step ∈ lw_tbl ∧ Cond.selects y_Mo_step.cls y_Mo_step y_Mo_step ∈ lw_tbl := ⟨q_tb 945 (by decide +kernel), q_tb 946 (by decide +kernel)⟩
theorem k_Mo_shape : q_hd y_Mo_shape m_Mo_shape ∈ lw_tbl ∧ Cond.initialized y_Mo_shape.cls ∈ lw_tbl := ⟨q_tb 951 (by decide +kernel), q_tb 7 (by decide +kernel)⟩
theorem ms_Mo_shape : Cond.instanceMethod y_Mo_shape ∈ lw_tbl ∧ Cond.selects y_Mo_shape.cls y_Mo_shape y_Mo_shape ∈ lw_tbl := ⟨q_tb 949 (by decide +kernel), q_tb 950 (by decide +kernel)⟩
theorem k_Mo_set : q_hd y_Mo_set m_Mo_set ∈ lw_tbl ∧ Cond.initialized y_Mo_set.cls ∈ lw_tbl := ⟨q_tb 955 (by decide +kernel), q_tb 7 (by decide +kernel)⟩
theorem ms_Mo_set : Cond.instanceMethod y_Mo_set ∈ lw_tbl ∧ Cond.selects y_Mo_set.cls y_Mo_set y_Mo_set ∈ lw_tbl := ⟨q_tb 953 (by decide +kernel), q_tb 954 (by decide +kernel)⟩
theorem k_Mo_adopt : q_hd y_Mo_adopt m_Mo_adopt ∈ lw_tbl ∧ Cond.initialized y_Mo_adopt.cls ∈ lw_tbl := ⟨q_tb 959 (by decide +kernel), q_tb 7 (by decide +kernel)⟩
theorem ms_Mo_adopt : Cond.instanceMethod y_Mo_adopt ∈ lw_tbl ∧ Cond.selects y_Mo_adopt.cls y_Mo_adopt y_Mo_adopt ∈ lw_tbl := ⟨q_tb 957 (by decide +kernel), q_tb 958 (by decide +kernel)⟩
theorem k_Mo_placeOf : q_hd y_Mo_placeOf m_Mo_placeOf ∈ lw_tbl ∧ Cond.initialized y_Mo_placeOf.cls ∈ lw_tbl := ⟨q_tb 967 (by decide +kernel), q_tb 7 (by decide +kernel)⟩
theorem ms_Mo_placeOf : Cond.instanceMethod y_Mo_placeOf ∈ lw_tbl ∧ Cond.selects y_Mo_placeOf.cls y_Mo_placeOf y_Mo_placeOf ∈ lw_tbl := ⟨q_tb 966 (by decide +kernel), q_ts (n := 40) 41 (by decide +kernel)⟩
theorem k_Mo_letter : q_hd y_Mo_letter m_Mo_letter ∈ lw_tbl ∧ Cond.initialized y_Mo_letter.cls ∈ lw_tbl := ⟨q_tb 963 (by decide +kernel), q_tb 7 (by decide +kernel)⟩
theorem ms_Mo_letter : Cond.instanceMethod y_Mo_letter ∈ lw_tbl ∧ Cond.selects y_Mo_letter.cls y_Mo_letter y_Mo_letter ∈ lw_tbl := ⟨q_tb 961 (by decide +kernel), q_tb 962 (by decide +kernel)⟩
theorem k_Mo_spread : q_hd y_Mo_spread m_Mo_spread ∈ lw_tbl ∧ Cond.initialized y_Mo_spread.cls ∈ lw_tbl := ⟨q_tb 975 (by decide +kernel), q_tb 7 (by decide +kernel)⟩
theorem ms_Mo_spread : Cond.instanceMethod y_Mo_spread ∈ lw_tbl ∧ Cond.selects y_Mo_spread.cls y_Mo_spread y_Mo_spread ∈ lw_tbl := ⟨q_tb 974 (by decide +kernel), q_ts (n := 40) 42 (by decide +kernel)⟩
theorem k_Mo_holds : q_hd y_Mo_holds m_Mo_holds ∈ lw_tbl ∧ Cond.initialized y_Mo_holds.cls ∈ lw_tbl := ⟨q_tb 971 (by decide +kernel), q_tb 7 (by decide +kernel)⟩
theorem ms_Mo_holds : Cond.instanceMethod y_Mo_holds ∈ lw_tbl ∧ Cond.selects y_Mo_holds.cls y_Mo_holds y_Mo_holds ∈ lw_tbl := ⟨q_tb 969 (by decide +kernel), q_tb 970 (by decide +kernel)⟩
theorem k_Fo_clear : q_hd y_Fo_clear m_Fo_clear ∈ lw_tbl ∧ Cond.initialized y_Fo_clear.cls ∈ lw_tbl := ⟨q_tb 279 (by decide +kernel), q_tb 6 (by decide +kernel)⟩
theorem ms_Fo_clear : Cond.instanceMethod y_Fo_clear ∈ lw_tbl ∧ Cond.selects y_Fo_clear.cls y_Fo_clear y_Fo_clear ∈ lw_tbl := ⟨q_tb 277 (by decide +kernel), q_tb 278 (by decide +kernel)⟩
theorem k_Fo_add : q_hd y_Fo_add m_Fo_add ∈ lw_tbl ∧ Cond.initialized y_Fo_add.cls ∈ lw_tbl := ⟨q_tb 302 (by decide +kernel), q_tb 6 (by decide +kernel)⟩
theorem ms_Fo_add : Cond.instanceMethod y_Fo_add ∈ lw_tbl ∧ Cond.selects y_Fo_add.cls y_Fo_add y_Fo_add ∈ lw_tbl := ⟨q_tb 300 (by decide +kernel), q_tb 301 (by decide +kernel)⟩
theorem k_Fo_listPromises : q_hd y_Fo_listPromises m_Fo_listPromises ∈ lw_tbl ∧ Cond.initialized y_Fo_listPromises.cls ∈ lw_tbl := ⟨q_tb 314 (by decide +kernel), q_tb 6 (by decide +kernel)⟩
theorem ms_Fo_listPromises : Cond.instanceMethod y_Fo_listPromises ∈ lw_tbl ∧ Cond.selects y_Fo_listPromises.cls y_Fo_listPromises y_Fo_listPromises ∈ lw_tbl := ⟨q_tb 312 (by decide +kernel), q_tb 313 (by decide +kernel)⟩
theorem k_Fo_size : q_hd y_Fo_size m_Fo_size ∈ lw_tbl ∧ Cond.initialized y_Fo_size.cls ∈ lw_tbl := ⟨q_tb 323 (by decide +kernel), q_tb 6 (by decide +kernel)⟩
theorem ms_Fo_size : Cond.instanceMethod y_Fo_size ∈ lw_tbl ∧ Cond.selects y_Fo_size.cls y_Fo_size y_Fo_size ∈ lw_tbl := ⟨q_tb 321 (by decide +kernel), q_tb 322 (by decide +kernel)⟩
theorem k_Fo_stateCount : q_hd y_Fo_stateCount m_Fo_stateCount ∈ lw_tbl ∧ Cond.initialized y_Fo_stateCount.cls ∈ lw_tbl := ⟨q_tb 355 (by decide +kernel), q_tb 6 (by decide +kernel)⟩
theorem ms_Fo_stateCount : Cond.instanceMethod y_Fo_stateCount ∈ lw_tbl ∧ Cond.selects y_Fo_stateCount.cls y_Fo_stateCount y_Fo_stateCount ∈ lw_tbl := ⟨q_tb 353 (by decide +kernel), q_tb 354 (by decide +kernel)⟩
theorem k_Fo_promiseCount : q_hd y_Fo_promiseCount m_Fo_promiseCount ∈ lw_tbl ∧ Cond.initialized y_Fo_promiseCount.cls ∈ lw_tbl := ⟨q_tb 433 (by decide +kernel), q_tb 6 (by decide +kernel)⟩
theorem ms_Fo_promiseCount : Cond.instanceMethod y_Fo_promiseCount ∈ lw_tbl ∧ Cond.selects y_Fo_promiseCount.cls y_Fo_promiseCount y_Fo_promiseCount ∈ lw_tbl := ⟨q_tb 431 (by decide +kernel), q_tb 432 (by decide +kernel)⟩
theorem k_Fo_isWholeIn : q_hd y_Fo_isWholeIn m_Fo_isWholeIn ∈ lw_tbl ∧ Cond.initialized y_Fo_isWholeIn.cls ∈ lw_tbl := ⟨q_tb 398 (by decide +kernel), q_tb 6 (by decide +kernel)⟩
theorem ms_Fo_isWholeIn : Cond.instanceMethod y_Fo_isWholeIn ∈ lw_tbl ∧ Cond.selects y_Fo_isWholeIn.cls y_Fo_isWholeIn y_Fo_isWholeIn ∈ lw_tbl := ⟨q_tb 396 (by decide +kernel), q_tb 397 (by decide +kernel)⟩
theorem k_Fo_partsAt : q_hd y_Fo_partsAt m_Fo_partsAt ∈ lw_tbl ∧ Cond.initialized y_Fo_partsAt.cls ∈ lw_tbl := ⟨q_tb 387 (by decide +kernel), q_tb 6 (by decide +kernel)⟩
theorem ms_Fo_partsAt : Cond.instanceMethod y_Fo_partsAt ∈ lw_tbl ∧ Cond.selects y_Fo_partsAt.cls y_Fo_partsAt y_Fo_partsAt ∈ lw_tbl := ⟨q_tb 385 (by decide +kernel), q_tb 386 (by decide +kernel)⟩
theorem k_Fo_isPartAt : q_hd y_Fo_isPartAt m_Fo_isPartAt ∈ lw_tbl ∧ Cond.initialized y_Fo_isPartAt.cls ∈ lw_tbl := ⟨q_tb 391 (by decide +kernel), q_tb 6 (by decide +kernel)⟩
theorem ms_Fo_isPartAt : Cond.instanceMethod y_Fo_isPartAt ∈ lw_tbl ∧ Cond.selects y_Fo_isPartAt.cls y_Fo_isPartAt y_Fo_isPartAt ∈ lw_tbl := ⟨q_tb 390 (by decide +kernel), q_ts (n := 10) 8 (by decide +kernel)⟩
theorem k_Fo_expectedBefore : q_hd y_Fo_expectedBefore m_Fo_expectedBefore ∈ lw_tbl ∧ Cond.initialized y_Fo_expectedBefore.cls ∈ lw_tbl := ⟨q_tb 409 (by decide +kernel), q_tb 6 (by decide +kernel)⟩
theorem ms_Fo_expectedBefore : Cond.instanceMethod y_Fo_expectedBefore ∈ lw_tbl ∧ Cond.selects y_Fo_expectedBefore.cls y_Fo_expectedBefore y_Fo_expectedBefore ∈ lw_tbl := ⟨q_tb 407 (by decide +kernel), q_tb 408 (by decide +kernel)⟩
theorem k_Fo_openIn : q_hd y_Fo_openIn m_Fo_openIn ∈ lw_tbl ∧ Cond.initialized y_Fo_openIn.cls ∈ lw_tbl := ⟨q_tb 447 (by decide +kernel), q_tb 6 (by decide +kernel)⟩
theorem ms_Fo_openIn : Cond.instanceMethod y_Fo_openIn ∈ lw_tbl ∧ Cond.selects y_Fo_openIn.cls y_Fo_openIn y_Fo_openIn ∈ lw_tbl := ⟨q_tb 445 (by decide +kernel), q_tb 446 (by decide +kernel)⟩
theorem k_Fo_keptIn : q_hd y_Fo_keptIn m_Fo_keptIn ∈ lw_tbl ∧ Cond.initialized y_Fo_keptIn.cls ∈ lw_tbl := ⟨q_tb 439 (by decide +kernel), q_tb 6 (by decide +kernel)⟩
theorem ms_Fo_keptIn : Cond.instanceMethod y_Fo_keptIn ∈ lw_tbl ∧ Cond.selects y_Fo_keptIn.cls y_Fo_keptIn y_Fo_keptIn ∈ lw_tbl := ⟨q_tb 437 (by decide +kernel), q_tb 438 (by decide +kernel)⟩
theorem k_Fo_isForOnce : q_hd y_Fo_isForOnce m_Fo_isForOnce ∈ lw_tbl ∧ Cond.initialized y_Fo_isForOnce.cls ∈ lw_tbl := ⟨q_tb 443 (by decide +kernel), q_tb 6 (by decide +kernel)⟩
theorem ms_Fo_isForOnce : Cond.instanceMethod y_Fo_isForOnce ∈ lw_tbl ∧ Cond.selects y_Fo_isForOnce.cls y_Fo_isForOnce y_Fo_isForOnce ∈ lw_tbl := ⟨q_tb 442 (by decide +kernel), q_ts (n := 10) 11 (by decide +kernel)⟩
theorem k_Fo_placesOn : q_hd y_Fo_placesOn m_Fo_placesOn ∈ lw_tbl ∧ Cond.initialized y_Fo_placesOn.cls ∈ lw_tbl := ⟨q_tb 648 (by decide +kernel), q_tb 6 (by decide +kernel)⟩
theorem ms_Fo_placesOn : Cond.instanceMethod y_Fo_placesOn ∈ lw_tbl ∧ Cond.selects y_Fo_placesOn.cls y_Fo_placesOn y_Fo_placesOn ∈ lw_tbl := ⟨q_tb 646 (by decide +kernel), q_tb 647 (by decide +kernel)⟩
theorem k_Fo_partPlaces : q_hd y_Fo_partPlaces m_Fo_partPlaces ∈ lw_tbl ∧ Cond.initialized y_Fo_partPlaces.cls ∈ lw_tbl := ⟨q_tb 652 (by decide +kernel), q_tb 6 (by decide +kernel)⟩
theorem ms_Fo_partPlaces : Cond.instanceMethod y_Fo_partPlaces ∈ lw_tbl ∧ Cond.selects y_Fo_partPlaces.cls y_Fo_partPlaces y_Fo_partPlaces ∈ lw_tbl := ⟨q_tb 651 (by decide +kernel), q_ts (n := 10) 20 (by decide +kernel)⟩
theorem k_Gw_fits : q_hd y_Gw_fits m_Gw_fits ∈ lw_tbl ∧ Cond.initialized y_Gw_fits.cls ∈ lw_tbl := ⟨q_tb 580 (by decide +kernel), q_tb 5 (by decide +kernel)⟩
theorem ms_Gw_fits : Cond.static y_Gw_fits ∈ lw_tbl := q_tb 579 (by decide +kernel)
theorem k_Gw_size : q_hd y_Gw_size m_Gw_size ∈ lw_tbl ∧ Cond.initialized y_Gw_size.cls ∈ lw_tbl := ⟨q_tb 589 (by decide +kernel), q_tb 5 (by decide +kernel)⟩
theorem ms_Gw_size : Cond.instanceMethod y_Gw_size ∈ lw_tbl ∧ Cond.selects y_Gw_size.cls y_Gw_size y_Gw_size ∈ lw_tbl := ⟨q_tb 587 (by decide +kernel), q_tb 588 (by decide +kernel)⟩
theorem k_Gw_reshape : q_hd y_Gw_reshape m_Gw_reshape ∈ lw_tbl ∧ Cond.initialized y_Gw_reshape.cls ∈ lw_tbl := ⟨q_tb 585 (by decide +kernel), q_tb 5 (by decide +kernel)⟩
theorem ms_Gw_reshape : Cond.instanceMethod y_Gw_reshape ∈ lw_tbl ∧ Cond.selects y_Gw_reshape.cls y_Gw_reshape y_Gw_reshape ∈ lw_tbl := ⟨q_tb 583 (by decide +kernel), q_tb 584 (by decide +kernel)⟩
theorem k_Gw_replace : q_hd y_Gw_replace m_Gw_replace ∈ lw_tbl ∧ Cond.initialized y_Gw_replace.cls ∈ lw_tbl := ⟨q_tb 602 (by decide +kernel), q_tb 5 (by decide +kernel)⟩
theorem ms_Gw_replace : Cond.instanceMethod y_Gw_replace ∈ lw_tbl ∧ Cond.selects y_Gw_replace.cls y_Gw_replace y_Gw_replace ∈ lw_tbl := ⟨q_tb 600 (by decide +kernel), q_tb 601 (by decide +kernel)⟩
theorem k_Gw_take : q_hd y_Gw_take m_Gw_take ∈ lw_tbl ∧ Cond.initialized y_Gw_take.cls ∈ lw_tbl := ⟨q_tb 613 (by decide +kernel), q_tb 5 (by decide +kernel)⟩
theorem ms_Gw_take : Cond.instanceMethod y_Gw_take ∈ lw_tbl ∧ Cond.selects y_Gw_take.cls y_Gw_take y_Gw_take ∈ lw_tbl := ⟨q_tb 611 (by decide +kernel), q_tb 612 (by decide +kernel)⟩
theorem k_Gw_indexOf : q_hd y_Gw_indexOf m_Gw_indexOf ∈ lw_tbl ∧ Cond.initialized y_Gw_indexOf.cls ∈ lw_tbl := ⟨q_tb 637 (by decide +kernel), q_tb 5 (by decide +kernel)⟩
theorem ms_Gw_indexOf : Cond.instanceMethod y_Gw_indexOf ∈ lw_tbl ∧ Cond.selects y_Gw_indexOf.cls y_Gw_indexOf y_Gw_indexOf ∈ lw_tbl := ⟨q_tb 635 (by decide +kernel), q_tb 636 (by decide +kernel)⟩
theorem k_Gw_letterAt : q_hd y_Gw_letterAt m_Gw_letterAt ∈ lw_tbl ∧ Cond.initialized y_Gw_letterAt.cls ∈ lw_tbl := ⟨q_tb 633 (by decide +kernel), q_tb 5 (by decide +kernel)⟩
theorem ms_Gw_letterAt : Cond.instanceMethod y_Gw_letterAt ∈ lw_tbl ∧ Cond.selects y_Gw_letterAt.cls y_Gw_letterAt y_Gw_letterAt ∈ lw_tbl := ⟨q_tb 631 (by decide +kernel), q_tb 632 (by decide +kernel)⟩
theorem k_Gw_allPlaces : q_hd y_Gw_allPlaces m_Gw_allPlaces ∈ lw_tbl ∧ Cond.initialized y_Gw_allPlaces.cls ∈ lw_tbl := ⟨q_tb 656 (by decide +kernel), q_tb 5 (by decide +kernel)⟩
theorem ms_Gw_allPlaces : Cond.instanceMethod y_Gw_allPlaces ∈ lw_tbl ∧ Cond.selects y_Gw_allPlaces.cls y_Gw_allPlaces y_Gw_allPlaces ∈ lw_tbl := ⟨q_tb 654 (by decide +kernel), q_tb 655 (by decide +kernel)⟩
theorem k_Gw_placesWith : q_hd y_Gw_placesWith m_Gw_placesWith ∈ lw_tbl ∧ Cond.initialized y_Gw_placesWith.cls ∈ lw_tbl := ⟨q_tb 660 (by decide +kernel), q_tb 5 (by decide +kernel)⟩
theorem ms_Gw_placesWith : Cond.instanceMethod y_Gw_placesWith ∈ lw_tbl ∧ Cond.selects y_Gw_placesWith.cls y_Gw_placesWith y_Gw_placesWith ∈ lw_tbl := ⟨q_tb 658 (by decide +kernel), q_tb 659 (by decide +kernel)⟩
theorem k_Gw_placesBefore : q_hd y_Gw_placesBefore m_Gw_placesBefore ∈ lw_tbl ∧ Cond.initialized y_Gw_placesBefore.cls ∈ lw_tbl := ⟨q_tb 665 (by decide +kernel), q_tb 5 (by decide +kernel)⟩
theorem ms_Gw_placesBefore : Cond.instanceMethod y_Gw_placesBefore ∈ lw_tbl ∧ Cond.selects y_Gw_placesBefore.cls y_Gw_placesBefore y_Gw_placesBefore ∈ lw_tbl := ⟨q_tb 663 (by decide +kernel), q_tb 664 (by decide +kernel)⟩
theorem k_Gw_placesUntil : q_hd y_Gw_placesUntil m_Gw_placesUntil ∈ lw_tbl ∧ Cond.initialized y_Gw_placesUntil.cls ∈ lw_tbl := ⟨q_tb 669 (by decide +kernel), q_tb 5 (by decide +kernel)⟩
theorem ms_Gw_placesUntil : Cond.instanceMethod y_Gw_placesUntil ∈ lw_tbl ∧ Cond.selects y_Gw_placesUntil.cls y_Gw_placesUntil y_Gw_placesUntil ∈ lw_tbl := ⟨q_tb 667 (by decide +kernel), q_tb 668 (by decide +kernel)⟩
theorem k_La_find : q_hd y_La_find m_La_find ∈ lw_tbl ∧ Cond.initialized y_La_find.cls ∈ lw_tbl := ⟨q_tb 424 (by decide +kernel), q_tb 3 (by decide +kernel)⟩
theorem ms_La_find : Cond.instanceMethod y_La_find ∈ lw_tbl ∧ Cond.selects y_La_find.cls y_La_find y_La_find ∈ lw_tbl := ⟨q_tb 422 (by decide +kernel), q_tb 423 (by decide +kernel)⟩
theorem k_La_lookAtStates : q_hd y_La_lookAtStates m_La_lookAtStates ∈ lw_tbl ∧ Cond.initialized y_La_lookAtStates.cls ∈ lw_tbl := ⟨q_tb 428 (by decide +kernel), q_tb 3 (by decide +kernel)⟩
theorem ms_La_lookAtStates : Cond.instanceMethod y_La_lookAtStates ∈ lw_tbl ∧ Cond.selects y_La_lookAtStates.cls y_La_lookAtStates y_La_lookAtStates ∈ lw_tbl := ⟨q_tb 427 (by decide +kernel), q_ts (n := 10) 10 (by decide +kernel)⟩
theorem k_La_sweepDeadEnds : q_hd y_La_sweepDeadEnds m_La_sweepDeadEnds ∈ lw_tbl ∧ Cond.initialized y_La_sweepDeadEnds.cls ∈ lw_tbl := ⟨q_tb 452 (by decide +kernel), q_tb 3 (by decide +kernel)⟩
theorem ms_La_sweepDeadEnds : Cond.instanceMethod y_La_sweepDeadEnds ∈ lw_tbl ∧ Cond.selects y_La_sweepDeadEnds.cls y_La_sweepDeadEnds y_La_sweepDeadEnds ∈ lw_tbl := ⟨q_tb 451 (by decide +kernel), q_ts (n := 10) 12 (by decide +kernel)⟩
theorem k_La_sweepUnkept : q_hd y_La_sweepUnkept m_La_sweepUnkept ∈ lw_tbl ∧ Cond.initialized y_La_sweepUnkept.cls ∈ lw_tbl := ⟨q_tb 469 (by decide +kernel), q_tb 3 (by decide +kernel)⟩
theorem ms_La_sweepUnkept : Cond.instanceMethod y_La_sweepUnkept ∈ lw_tbl ∧ Cond.selects y_La_sweepUnkept.cls y_La_sweepUnkept y_La_sweepUnkept ∈ lw_tbl := ⟨q_tb 468 (by decide +kernel), q_ts (n := 10) 16 (by decide +kernel)⟩
theorem k_La_takeAway : q_hd y_La_takeAway m_La_takeAway ∈ lw_tbl ∧ Cond.initialized y_La_takeAway.cls ∈ lw_tbl := ⟨q_tb 457 (by decide +kernel), q_tb 3 (by decide +kernel)⟩
theorem ms_La_takeAway : Cond.instanceMethod y_La_takeAway ∈ lw_tbl ∧ Cond.selects y_La_takeAway.cls y_La_takeAway y_La_takeAway ∈ lw_tbl := ⟨q_tb 456 (by decide +kernel), q_ts (n := 10) 13 (by decide +kernel)⟩
theorem k_La_countSteps : q_hd y_La_countSteps m_La_countSteps ∈ lw_tbl ∧ Cond.initialized y_La_countSteps.cls ∈ lw_tbl := ⟨q_tb 461 (by decide +kernel), q_tb 3 (by decide +kernel)⟩
theorem ms_La_countSteps : Cond.instanceMethod y_La_countSteps ∈ lw_tbl ∧ Cond.selects y_La_countSteps.cls y_La_countSteps y_La_countSteps ∈ lw_tbl := ⟨q_tb 460 (by decide +kernel), q_ts (n := 10) 14 (by decide +kernel)⟩
theorem k_La_reachBefore : q_hd y_La_reachBefore m_La_reachBefore ∈ lw_tbl ∧ Cond.initialized y_La_reachBefore.cls ∈ lw_tbl := ⟨q_tb 465 (by decide +kernel), q_tb 3 (by decide +kernel)⟩
theorem ms_La_reachBefore : Cond.instanceMethod y_La_reachBefore ∈ lw_tbl ∧ Cond.selects y_La_reachBefore.cls y_La_reachBefore y_La_reachBefore ∈ lw_tbl := ⟨q_tb 464 (by decide +kernel), q_ts (n := 10) 15 (by decide +kernel)⟩
theorem k_La_stepsFrom : q_hd y_La_stepsFrom m_La_stepsFrom ∈ lw_tbl ∧ Cond.initialized y_La_stepsFrom.cls ∈ lw_tbl := ⟨q_tb 473 (by decide +kernel), q_tb 3 (by decide +kernel)⟩
theorem ms_La_stepsFrom : Cond.instanceMethod y_La_stepsFrom ∈ lw_tbl ∧ Cond.selects y_La_stepsFrom.cls y_La_stepsFrom y_La_stepsFrom ∈ lw_tbl := ⟨q_tb 472 (by decide +kernel), q_ts (n := 10) 17 (by decide +kernel)⟩
theorem k_La_has : q_hd y_La_has m_La_has ∈ lw_tbl ∧ Cond.initialized y_La_has.cls ∈ lw_tbl := ⟨q_tb 500 (by decide +kernel), q_tb 3 (by decide +kernel)⟩
theorem ms_La_has : Cond.instanceMethod y_La_has ∈ lw_tbl ∧ Cond.selects y_La_has.cls y_La_has y_La_has ∈ lw_tbl := ⟨q_tb 498 (by decide +kernel), q_tb 499 (by decide +kernel)⟩
theorem k_La_size : q_hd y_La_size m_La_size ∈ lw_tbl ∧ Cond.initialized y_La_size.cls ∈ lw_tbl := ⟨q_tb 511 (by decide +kernel), q_tb 3 (by decide +kernel)⟩
theorem ms_La_size : Cond.instanceMethod y_La_size ∈ lw_tbl ∧ Cond.selects y_La_size.cls y_La_size y_La_size ∈ lw_tbl := ⟨q_tb 509 (by decide +kernel), q_tb 510 (by decide +kernel)⟩
theorem k_La_leastWhole : q_hd y_La_leastWhole m_La_leastWhole ∈ lw_tbl ∧ Cond.initialized y_La_leastWhole.cls ∈ lw_tbl := ⟨q_tb 484 (by decide +kernel), q_tb 3 (by decide +kernel)⟩
theorem ms_La_leastWhole : Cond.instanceMethod y_La_leastWhole ∈ lw_tbl ∧ Cond.selects y_La_leastWhole.cls y_La_leastWhole y_La_leastWhole ∈ lw_tbl := ⟨q_tb 482 (by decide +kernel), q_tb 483 (by decide +kernel)⟩
theorem k_La_dutyFrom : q_hd y_La_dutyFrom m_La_dutyFrom ∈ lw_tbl ∧ Cond.initialized y_La_dutyFrom.cls ∈ lw_tbl := ⟨q_tb 488 (by decide +kernel), q_tb 3 (by decide +kernel)⟩
theorem ms_La_dutyFrom : Cond.instanceMethod y_La_dutyFrom ∈ lw_tbl ∧ Cond.selects y_La_dutyFrom.cls y_La_dutyFrom y_La_dutyFrom ∈ lw_tbl := ⟨q_tb 486 (by decide +kernel), q_tb 487 (by decide +kernel)⟩
theorem k_La_nextFrom : q_hd y_La_nextFrom m_La_nextFrom ∈ lw_tbl ∧ Cond.initialized y_La_nextFrom.cls ∈ lw_tbl := ⟨q_tb 492 (by decide +kernel), q_tb 3 (by decide +kernel)⟩
theorem ms_La_nextFrom : Cond.instanceMethod y_La_nextFrom ∈ lw_tbl ∧ Cond.selects y_La_nextFrom.cls y_La_nextFrom y_La_nextFrom ∈ lw_tbl := ⟨q_tb 490 (by decide +kernel), q_tb 491 (by decide +kernel)⟩
theorem k_La_isNearer : q_hd y_La_isNearer m_La_isNearer ∈ lw_tbl ∧ Cond.initialized y_La_isNearer.cls ∈ lw_tbl := ⟨q_tb 496 (by decide +kernel), q_tb 3 (by decide +kernel)⟩
theorem ms_La_isNearer : Cond.instanceMethod y_La_isNearer ∈ lw_tbl ∧ Cond.selects y_La_isNearer.cls y_La_isNearer y_La_isNearer ∈ lw_tbl := ⟨q_tb 495 (by decide +kernel), q_ts (n := 10) 18 (by decide +kernel)⟩
theorem k_Li_countTyped : q_hd y_Li_countTyped m_Li_countTyped ∈ lw_tbl ∧ Cond.initialized y_Li_countTyped.cls ∈ lw_tbl := ⟨q_tb 186 (by decide +kernel), q_tb 2 (by decide +kernel)⟩
theorem ms_Li_countTyped : Cond.static y_Li_countTyped ∈ lw_tbl := q_tb 185 (by decide +kernel)
theorem k_Li_areVisible : q_hd y_Li_areVisible m_Li_areVisible ∈ lw_tbl ∧ Cond.initialized y_Li_areVisible.cls ∈ lw_tbl := ⟨q_tb 192 (by decide +kernel), q_tb 2 (by decide +kernel)⟩
theorem ms_Li_areVisible : Cond.static y_Li_areVisible ∈ lw_tbl := q_tb 191 (by decide +kernel)
theorem k_Li_byteOf : q_hd y_Li_byteOf m_Li_byteOf ∈ lw_tbl ∧ Cond.initialized y_Li_byteOf.cls ∈ lw_tbl := ⟨q_tb 189 (by decide +kernel), q_tb 2 (by decide +kernel)⟩
theorem ms_Li_byteOf : Cond.static y_Li_byteOf ∈ lw_tbl := q_tb 188 (by decide +kernel)
theorem k_Li_append : q_hd y_Li_append m_Li_append ∈ lw_tbl ∧ Cond.initialized y_Li_append.cls ∈ lw_tbl := ⟨q_tb 264 (by decide +kernel), q_tb 2 (by decide +kernel)⟩
theorem ms_Li_append : Cond.instanceMethod y_Li_append ∈ lw_tbl ∧ Cond.selects y_Li_append.cls y_Li_append y_Li_append ∈ lw_tbl := ⟨q_tb 262 (by decide +kernel), q_tb 263 (by decide +kernel)⟩
theorem k_Li_clear : q_hd y_Li_clear m_Li_clear ∈ lw_tbl ∧ Cond.initialized y_Li_clear.cls ∈ lw_tbl := ⟨q_tb 318 (by decide +kernel), q_tb 2 (by decide +kernel)⟩
theorem ms_Li_clear : Cond.instanceMethod y_Li_clear ∈ lw_tbl ∧ Cond.selects y_Li_clear.cls y_Li_clear y_Li_clear ∈ lw_tbl := ⟨q_tb 316 (by decide +kernel), q_tb 317 (by decide +kernel)⟩
theorem k_Li_signAt : q_hd y_Li_signAt m_Li_signAt ∈ lw_tbl ∧ Cond.initialized y_Li_signAt.cls ∈ lw_tbl := ⟨q_tb 287 (by decide +kernel), q_tb 2 (by decide +kernel)⟩
theorem ms_Li_signAt : Cond.instanceMethod y_Li_signAt ∈ lw_tbl ∧ Cond.selects y_Li_signAt.cls y_Li_signAt y_Li_signAt ∈ lw_tbl := ⟨q_tb 286 (by decide +kernel), q_ts (n := 3) 2 (by decide +kernel)⟩
theorem k_Li_temporalsBefore : q_hd y_Li_temporalsBefore m_Li_temporalsBefore ∈ lw_tbl ∧ Cond.initialized y_Li_temporalsBefore.cls ∈ lw_tbl := ⟨q_tb 283 (by decide +kernel), q_tb 2 (by decide +kernel)⟩
theorem ms_Li_temporalsBefore : Cond.instanceMethod y_Li_temporalsBefore ∈ lw_tbl ∧ Cond.selects y_Li_temporalsBefore.cls y_Li_temporalsBefore y_Li_temporalsBefore ∈ lw_tbl := ⟨q_tb 282 (by decide +kernel), q_ts (n := 3) 1 (by decide +kernel)⟩
theorem k_Li_readInto : q_hd y_Li_readInto m_Li_readInto ∈ lw_tbl ∧ Cond.initialized y_Li_readInto.cls ∈ lw_tbl := ⟨q_tb 275 (by decide +kernel), q_tb 2 (by decide +kernel)⟩
theorem ms_Li_readInto : Cond.instanceMethod y_Li_readInto ∈ lw_tbl ∧ Cond.selects y_Li_readInto.cls y_Li_readInto y_Li_readInto ∈ lw_tbl := ⟨q_tb 273 (by decide +kernel), q_tb 274 (by decide +kernel)⟩
theorem k_Li_readLevel : q_hd y_Li_readLevel m_Li_readLevel ∈ lw_tbl ∧ Cond.initialized y_Li_readLevel.cls ∈ lw_tbl := ⟨q_tb 294 (by decide +kernel), q_tb 2 (by decide +kernel)⟩
theorem ms_Li_readLevel : Cond.instanceMethod y_Li_readLevel ∈ lw_tbl ∧ Cond.selects y_Li_readLevel.cls y_Li_readLevel y_Li_readLevel ∈ lw_tbl := ⟨q_tb 293 (by decide +kernel), q_ts (n := 3) 3 (by decide +kernel)⟩
theorem k_Li_readSimple : q_hd y_Li_readSimple m_Li_readSimple ∈ lw_tbl ∧ Cond.initialized y_Li_readSimple.cls ∈ lw_tbl := ⟨q_tb 298 (by decide +kernel), q_tb 2 (by decide +kernel)⟩
theorem ms_Li_readSimple : Cond.instanceMethod y_Li_readSimple ∈ lw_tbl ∧ Cond.selects y_Li_readSimple.cls y_Li_readSimple y_Li_readSimple ∈ lw_tbl := ⟨q_tb 297 (by decide +kernel), q_ts (n := 3) 4 (by decide +kernel)⟩
theorem k_Li_readBracket : q_hd y_Li_readBracket m_Li_readBracket ∈ lw_tbl ∧ Cond.initialized y_Li_readBracket.cls ∈ lw_tbl := ⟨q_tb 307 (by decide +kernel), q_tb 2 (by decide +kernel)⟩
theorem ms_Li_readBracket : Cond.instanceMethod y_Li_readBracket ∈ lw_tbl ∧ Cond.selects y_Li_readBracket.cls y_Li_readBracket y_Li_readBracket ∈ lw_tbl := ⟨q_tb 306 (by decide +kernel), q_ts (n := 3) 5 (by decide +kernel)⟩
theorem k_Li_levelJoinedBy : q_hd y_Li_levelJoinedBy m_Li_levelJoinedBy ∈ lw_tbl ∧ Cond.initialized y_Li_levelJoinedBy.cls ∈ lw_tbl := ⟨q_tb 310 (by decide +kernel), q_tb 2 (by decide +kernel)⟩
theorem ms_Li_levelJoinedBy : Cond.static y_Li_levelJoinedBy ∈ lw_tbl := q_tb 309 (by decide +kernel)
theorem k_Wa_go : q_hd y_Wa_go m_Wa_go ∈ lw_tbl ∧ Cond.initialized y_Wa_go.cls ∈ lw_tbl := ⟨q_tb 477 (by decide +kernel), q_tb 4 (by decide +kernel)⟩
theorem ms_Wa_go : Cond.instanceMethod y_Wa_go ∈ lw_tbl ∧ Cond.selects y_Wa_go.cls y_Wa_go y_Wa_go ∈ lw_tbl := ⟨q_tb 475 (by decide +kernel), q_tb 476 (by decide +kernel)⟩
theorem k_Wa_exists : q_hd y_Wa_exists m_Wa_exists ∈ lw_tbl ∧ Cond.initialized y_Wa_exists.cls ∈ lw_tbl := ⟨q_tb 530 (by decide +kernel), q_tb 4 (by decide +kernel)⟩
theorem ms_Wa_exists : Cond.instanceMethod y_Wa_exists ∈ lw_tbl ∧ Cond.selects y_Wa_exists.cls y_Wa_exists y_Wa_exists ∈ lw_tbl := ⟨q_tb 528 (by decide +kernel), q_tb 529 (by decide +kernel)⟩
theorem k_Wa_stemLength : q_hd y_Wa_stemLength m_Wa_stemLength ∈ lw_tbl ∧ Cond.initialized y_Wa_stemLength.cls ∈ lw_tbl := ⟨q_tb 541 (by decide +kernel), q_tb 4 (by decide +kernel)⟩
theorem ms_Wa_stemLength : Cond.instanceMethod y_Wa_stemLength ∈ lw_tbl ∧ Cond.selects y_Wa_stemLength.cls y_Wa_stemLength y_Wa_stemLength ∈ lw_tbl := ⟨q_tb 539 (by decide +kernel), q_tb 540 (by decide +kernel)⟩
theorem k_Wa_loopLength : q_hd y_Wa_loopLength m_Wa_loopLength ∈ lw_tbl ∧ Cond.initialized y_Wa_loopLength.cls ∈ lw_tbl := ⟨q_tb 552 (by decide +kernel), q_tb 4 (by decide +kernel)⟩
theorem ms_Wa_loopLength : Cond.instanceMethod y_Wa_loopLength ∈ lw_tbl ∧ Cond.selects y_Wa_loopLength.cls y_Wa_loopLength y_Wa_loopLength ∈ lw_tbl := ⟨q_tb 550 (by decide +kernel), q_tb 551 (by decide +kernel)⟩
theorem k_Wa_size : q_hd y_Wa_size m_Wa_size ∈ lw_tbl ∧ Cond.initialized y_Wa_size.cls ∈ lw_tbl := ⟨q_tb 564 (by decide +kernel), q_tb 4 (by decide +kernel)⟩
theorem ms_Wa_size : Cond.instanceMethod y_Wa_size ∈ lw_tbl ∧ Cond.selects y_Wa_size.cls y_Wa_size y_Wa_size ∈ lw_tbl := ⟨q_tb 562 (by decide +kernel), q_tb 563 (by decide +kernel)⟩
theorem k_Wa_stateAt : q_hd y_Wa_stateAt m_Wa_stateAt ∈ lw_tbl ∧ Cond.initialized y_Wa_stateAt.cls ∈ lw_tbl := ⟨q_tb 570 (by decide +kernel), q_tb 4 (by decide +kernel)⟩
theorem ms_Wa_stateAt : Cond.instanceMethod y_Wa_stateAt ∈ lw_tbl ∧ Cond.selects y_Wa_stateAt.cls y_Wa_stateAt y_Wa_stateAt ∈ lw_tbl := ⟨q_tb 568 (by decide +kernel), q_tb 569 (by decide +kernel)⟩
theorem k_Lw_type : q_hd y_Lw_type m_Lw_type ∈ lw_tbl ∧ Cond.initialized y_Lw_type.cls ∈ lw_tbl := ⟨q_tb 178 (by decide +kernel), q_tb 0 (by decide +kernel)⟩
theorem ms_Lw_type : Cond.static y_Lw_type ∈ lw_tbl := q_tb 177 (by decide +kernel)
theorem k_Lw_formula : q_hd y_Lw_formula m_Lw_formula ∈ lw_tbl ∧ Cond.initialized y_Lw_formula.cls ∈ lw_tbl := ⟨q_tb 267 (by decide +kernel), q_tb 0 (by decide +kernel)⟩
theorem ms_Lw_formula : Cond.static y_Lw_formula ∈ lw_tbl := q_tb 266 (by decide +kernel)
theorem k_Lw_states : q_hd y_Lw_states m_Lw_states ∈ lw_tbl ∧ Cond.initialized y_Lw_states.cls ∈ lw_tbl := ⟨q_tb 326 (by decide +kernel), q_tb 0 (by decide +kernel)⟩
theorem ms_Lw_states : Cond.static y_Lw_states ∈ lw_tbl := q_tb 325 (by decide +kernel)
theorem k_Lw_isAt : q_hd y_Lw_isAt m_Lw_isAt ∈ lw_tbl ∧ Cond.initialized y_Lw_isAt.cls ∈ lw_tbl := ⟨q_tb 358 (by decide +kernel), q_tb 0 (by decide +kernel)⟩
theorem ms_Lw_isAt : Cond.static y_Lw_isAt ∈ lw_tbl := q_tb 357 (by decide +kernel)
theorem k_Lw_leads : q_hd y_Lw_leads m_Lw_leads ∈ lw_tbl ∧ Cond.initialized y_Lw_leads.cls ∈ lw_tbl := ⟨q_tb 401 (by decide +kernel), q_tb 0 (by decide +kernel)⟩
theorem ms_Lw_leads : Cond.static y_Lw_leads ∈ lw_tbl := q_tb 400 (by decide +kernel)
theorem k_Lw_lasts : q_hd y_Lw_lasts m_Lw_lasts ∈ lw_tbl ∧ Cond.initialized y_Lw_lasts.cls ∈ lw_tbl := ⟨q_tb 412 (by decide +kernel), q_tb 0 (by decide +kernel)⟩
theorem ms_Lw_lasts : Cond.static y_Lw_lasts ∈ lw_tbl := q_tb 411 (by decide +kernel)
theorem k_Lw_lasting : q_hd y_Lw_lasting m_Lw_lasting ∈ lw_tbl ∧ Cond.initialized y_Lw_lasting.cls ∈ lw_tbl := ⟨q_tb 503 (by decide +kernel), q_tb 0 (by decide +kernel)⟩
theorem ms_Lw_lasting : Cond.static y_Lw_lasting ∈ lw_tbl := q_tb 502 (by decide +kernel)
theorem k_Lw_promises : q_hd y_Lw_promises m_Lw_promises ∈ lw_tbl ∧ Cond.initialized y_Lw_promises.cls ∈ lw_tbl := ⟨q_tb 514 (by decide +kernel), q_tb 0 (by decide +kernel)⟩
theorem ms_Lw_promises : Cond.static y_Lw_promises ∈ lw_tbl := q_tb 513 (by decide +kernel)
theorem k_Lw_can : q_hd y_Lw_can m_Lw_can ∈ lw_tbl ∧ Cond.initialized y_Lw_can.cls ∈ lw_tbl := ⟨q_tb 522 (by decide +kernel), q_tb 0 (by decide +kernel)⟩
theorem ms_Lw_can : Cond.static y_Lw_can ∈ lw_tbl := q_tb 521 (by decide +kernel)
theorem k_Lw_stem : q_hd y_Lw_stem m_Lw_stem ∈ lw_tbl ∧ Cond.initialized y_Lw_stem.cls ∈ lw_tbl := ⟨q_tb 533 (by decide +kernel), q_tb 0 (by decide +kernel)⟩
theorem ms_Lw_stem : Cond.static y_Lw_stem ∈ lw_tbl := q_tb 532 (by decide +kernel)
theorem k_Lw_loop : q_hd y_Lw_loop m_Lw_loop ∈ lw_tbl ∧ Cond.initialized y_Lw_loop.cls ∈ lw_tbl := ⟨q_tb 544 (by decide +kernel), q_tb 0 (by decide +kernel)⟩
theorem ms_Lw_loop : Cond.static y_Lw_loop ∈ lw_tbl := q_tb 543 (by decide +kernel)
theorem k_Lw_step : q_hd y_Lw_step m_Lw_step ∈ lw_tbl ∧ Cond.initialized y_Lw_step.cls ∈ lw_tbl := ⟨q_tb 555 (by decide +kernel), q_tb 0 (by decide +kernel)⟩
theorem ms_Lw_step : Cond.static y_Lw_step ∈ lw_tbl := q_tb 554 (by decide +kernel)
theorem k_Lw_shape : q_hd y_Lw_shape m_Lw_shape ∈ lw_tbl ∧ Cond.initialized y_Lw_shape.cls ∈ lw_tbl := ⟨q_tb 573 (by decide +kernel), q_tb 0 (by decide +kernel)⟩
theorem ms_Lw_shape : Cond.static y_Lw_shape ∈ lw_tbl := q_tb 572 (by decide +kernel)
theorem k_Lw_set : q_hd y_Lw_set m_Lw_set ∈ lw_tbl ∧ Cond.initialized y_Lw_set.cls ∈ lw_tbl := ⟨q_tb 592 (by decide +kernel), q_tb 0 (by decide +kernel)⟩
theorem ms_Lw_set : Cond.static y_Lw_set ∈ lw_tbl := q_tb 591 (by decide +kernel)
theorem k_Lw_adopt : q_hd y_Lw_adopt m_Lw_adopt ∈ lw_tbl ∧ Cond.initialized y_Lw_adopt.cls ∈ lw_tbl := ⟨q_tb 605 (by decide +kernel), q_tb 0 (by decide +kernel)⟩
theorem ms_Lw_adopt : Cond.static y_Lw_adopt ∈ lw_tbl := q_tb 604 (by decide +kernel)
theorem k_Lw_letter : q_hd y_Lw_letter m_Lw_letter ∈ lw_tbl ∧ Cond.initialized y_Lw_letter.cls ∈ lw_tbl := ⟨q_tb 620 (by decide +kernel), q_tb 0 (by decide +kernel)⟩
theorem ms_Lw_letter : Cond.static y_Lw_letter ∈ lw_tbl := q_tb 619 (by decide +kernel)
theorem k_Lw_holds : q_hd y_Lw_holds m_Lw_holds ∈ lw_tbl ∧ Cond.initialized y_Lw_holds.cls ∈ lw_tbl := ⟨q_tb 640 (by decide +kernel), q_tb 0 (by decide +kernel)⟩
theorem ms_Lw_holds : Cond.static y_Lw_holds ∈ lw_tbl := q_tb 639 (by decide +kernel)
theorem k_Ar_fill : q_hd y_Ar_fill m_Ar_fill ∈ lw_tbl ∧ Cond.initialized y_Ar_fill.cls ∈ lw_tbl := ⟨q_tb 480 (by decide +kernel), q_tb 14 (by decide +kernel)⟩
theorem ms_Ar_fill : Cond.static y_Ar_fill ∈ lw_tbl := q_tb 479 (by decide +kernel)
theorem k_D_init : q_hd y_D_init m_D_init ∈ lw_tbl ∧ Cond.initialized y_D_init.cls ∈ lw_tbl := ⟨q_tb 19 (by decide +kernel), q_tb 1 (by decide +kernel)⟩
theorem k_Mo_init : q_hd y_Mo_init m_Mo_init ∈ lw_tbl ∧ Cond.initialized y_Mo_init.cls ∈ lw_tbl := ⟨q_tb 677 (by decide +kernel), q_tb 7 (by decide +kernel)⟩
theorem k_Fo_init : q_hd y_Fo_init m_Fo_init ∈ lw_tbl ∧ Cond.initialized y_Fo_init.cls ∈ lw_tbl := ⟨q_tb 118 (by decide +kernel), q_tb 6 (by decide +kernel)⟩
theorem k_Gw_init : q_hd y_Gw_init m_Gw_init ∈ lw_tbl ∧ Cond.initialized y_Gw_init.cls ∈ lw_tbl := ⟨q_tb 102 (by decide +kernel), q_tb 5 (by decide +kernel)⟩
theorem k_La_init : q_hd y_La_init m_La_init ∈ lw_tbl ∧ Cond.initialized y_La_init.cls ∈ lw_tbl := ⟨q_tb 44 (by decide +kernel), q_tb 3 (by decide +kernel)⟩
theorem k_Li_init : q_hd y_Li_init m_Li_init ∈ lw_tbl ∧ Cond.initialized y_Li_init.cls ∈ lw_tbl := ⟨q_tb 27 (by decide +kernel), q_tb 2 (by decide +kernel)⟩
theorem k_Wa_init : q_hd y_Wa_init m_Wa_init ∈ lw_tbl ∧ Cond.initialized y_Wa_init.cls ∈ lw_tbl := ⟨q_tb 83 (by decide +kernel), q_tb 4 (by decide +kernel)⟩
end
section
theorem fl_D_12 : q_FL "LassoDesk" 12 0 0 := ⟨_, _, _, rfl, by decide, q_tb 151 (by decide +kernel)⟩
theorem fl_D_19 : q_FL "LassoDesk" 19 0 1 := ⟨_, _, _, rfl, by decide, q_tb 152 (by decide +kernel)⟩
theorem fl_D_26 : q_FL "LassoDesk" 26 0 2 := ⟨_, _, _, rfl, by decide, q_tb 153 (by decide +kernel)⟩
theorem fl_D_33 : q_FL "LassoDesk" 33 0 3 := ⟨_, _, _, rfl, by decide, q_tb 154 (by decide +kernel)⟩
theorem fl_D_40 : q_FL "LassoDesk" 40 0 4 := ⟨_, _, _, rfl, by decide, q_tb 155 (by decide +kernel)⟩
theorem fl_D_44 : q_FL "LassoDesk" 44 0 5 := ⟨_, _, _, rfl, by decide, q_tb 156 (by decide +kernel)⟩
theorem fl_D_47 : q_FL "LassoDesk" 47 0 6 := ⟨_, _, _, rfl, by decide, q_tb 157 (by decide +kernel)⟩
theorem fl_D_51 : q_FL "LassoDesk" 51 0 7 := ⟨_, _, _, rfl, by decide, q_tb 158 (by decide +kernel)⟩
theorem fl_Fo_9 : q_FL "LassoDesk$Formula" 9 2 0 := ⟨_, _, _, rfl, by decide, q_tb 120 (by decide +kernel)⟩
theorem fl_Fo_15 : q_FL "LassoDesk$Formula" 15 2 1 := ⟨_, _, _, rfl, by decide, q_tb 121 (by decide +kernel)⟩
theorem fl_Fo_18 : q_FL "LassoDesk$Formula" 18 2 2 := ⟨_, _, _, rfl, by decide, q_tb 122 (by decide +kernel)⟩
theorem fl_Fo_21 : q_FL "LassoDesk$Formula" 21 2 3 := ⟨_, _, _, rfl, by decide, q_tb 123 (by decide +kernel)⟩
theorem fl_Fo_24 : q_FL "LassoDesk$Formula" 24 2 4 := ⟨_, _, _, rfl, by decide, q_tb 124 (by decide +kernel)⟩
theorem fl_Fo_27 : q_FL "LassoDesk$Formula" 27 2 5 := ⟨_, _, _, rfl, by decide, q_tb 125 (by decide +kernel)⟩
theorem fl_Fo_30 : q_FL "LassoDesk$Formula" 30 2 6 := ⟨_, _, _, rfl, by decide, q_tb 126 (by decide +kernel)⟩
theorem fl_Fo_33 : q_FL "LassoDesk$Formula" 33 2 7 := ⟨_, _, _, rfl, by decide, q_tb 127 (by decide +kernel)⟩
theorem fl_Fo_37 : q_FL "LassoDesk$Formula" 37 2 8 := ⟨_, _, _, rfl, by decide, q_tb 128 (by decide +kernel)⟩
theorem fl_Fo_40 : q_FL "LassoDesk$Formula" 40 2 9 := ⟨_, _, _, rfl, by decide, q_tb 129 (by decide +kernel)⟩
theorem fl_Gw_9 : q_FL "LassoDesk$GivenWord" 9 5 0 := ⟨_, _, _, rfl, by decide, q_tb 104 (by decide +kernel)⟩
theorem fl_Gw_15 : q_FL "LassoDesk$GivenWord" 15 5 1 := ⟨_, _, _, rfl, by decide, q_tb 105 (by decide +kernel)⟩
theorem fl_Gw_19 : q_FL "LassoDesk$GivenWord" 19 5 2 := ⟨_, _, _, rfl, by decide, q_tb 106 (by decide +kernel)⟩
theorem fl_La_9 : q_FL "LassoDesk$Lasting" 9 3 0 := ⟨_, _, _, rfl, by decide, q_tb 46 (by decide +kernel)⟩
theorem fl_La_15 : q_FL "LassoDesk$Lasting" 15 3 1 := ⟨_, _, _, rfl, by decide, q_tb 47 (by decide +kernel)⟩
theorem fl_La_18 : q_FL "LassoDesk$Lasting" 18 3 2 := ⟨_, _, _, rfl, by decide, q_tb 48 (by decide +kernel)⟩
theorem fl_La_21 : q_FL "LassoDesk$Lasting" 21 3 3 := ⟨_, _, _, rfl, by decide, q_tb 49 (by decide +kernel)⟩
theorem fl_La_25 : q_FL "LassoDesk$Lasting" 25 3 4 := ⟨_, _, _, rfl, by decide, q_tb 50 (by decide +kernel)⟩
theorem fl_La_28 : q_FL "LassoDesk$Lasting" 28 3 5 := ⟨_, _, _, rfl, by decide, q_tb 51 (by decide +kernel)⟩
theorem fl_La_31 : q_FL "LassoDesk$Lasting" 31 3 6 := ⟨_, _, _, rfl, by decide, q_tb 52 (by decide +kernel)⟩
theorem fl_La_34 : q_FL "LassoDesk$Lasting" 34 3 7 := ⟨_, _, _, rfl, by decide, q_tb 53 (by decide +kernel)⟩
theorem fl_La_38 : q_FL "LassoDesk$Lasting" 38 3 8 := ⟨_, _, _, rfl, by decide, q_tb 54 (by decide +kernel)⟩
theorem fl_La_41 : q_FL "LassoDesk$Lasting" 41 3 9 := ⟨_, _, _, rfl, by decide, q_tb 55 (by decide +kernel)⟩
theorem fl_Li_9 : q_FL "LassoDesk$Line" 9 1 0 := ⟨_, _, _, rfl, by decide, q_tb 29 (by decide +kernel)⟩
theorem fl_Li_15 : q_FL "LassoDesk$Line" 15 1 1 := ⟨_, _, _, rfl, by decide, q_tb 30 (by decide +kernel)⟩
theorem fl_Li_19 : q_FL "LassoDesk$Line" 19 1 2 := ⟨_, _, _, rfl, by decide, q_tb 31 (by decide +kernel)⟩
theorem fl_Wa_11 : q_FL "LassoDesk$Walk" 11 4 0 := ⟨_, _, _, rfl, by decide, q_tb 85 (by decide +kernel)⟩
theorem fl_Wa_15 : q_FL "LassoDesk$Walk" 15 4 1 := ⟨_, _, _, rfl, by decide, q_tb 86 (by decide +kernel)⟩
theorem fl_Wa_18 : q_FL "LassoDesk$Walk" 18 4 2 := ⟨_, _, _, rfl, by decide, q_tb 87 (by decide +kernel)⟩
theorem fl_Wa_22 : q_FL "LassoDesk$Walk" 22 4 3 := ⟨_, _, _, rfl, by decide, q_tb 88 (by decide +kernel)⟩
theorem fl_Mo_7 : q_FL "LassoDeskModel" 7 6 1 := ⟨_, _, _, rfl, by decide, q_tb 680 (by decide +kernel)⟩
theorem fl_Mo_13 : q_FL "LassoDeskModel" 13 6 5 := ⟨_, _, _, rfl, by decide, q_tb 684 (by decide +kernel)⟩
theorem fl_Mo_16 : q_FL "LassoDeskModel" 16 6 6 := ⟨_, _, _, rfl, by decide, q_tb 685 (by decide +kernel)⟩
theorem fl_Mo_19 : q_FL "LassoDeskModel" 19 6 7 := ⟨_, _, _, rfl, by decide, q_tb 686 (by decide +kernel)⟩
theorem fl_Mo_22 : q_FL "LassoDeskModel" 22 6 8 := ⟨_, _, _, rfl, by decide, q_tb 687 (by decide +kernel)⟩
theorem fl_Mo_25 : q_FL "LassoDeskModel" 25 6 10 := ⟨_, _, _, rfl, by decide, q_tb 689 (by decide +kernel)⟩
theorem fl_Mo_28 : q_FL "LassoDeskModel" 28 6 12 := ⟨_, _, _, rfl, by decide, q_tb 691 (by decide +kernel)⟩
theorem fl_Mo_31 : q_FL "LassoDeskModel" 31 6 14 := ⟨_, _, _, rfl, by decide, q_tb 693 (by decide +kernel)⟩
theorem fl_Mo_34 : q_FL "LassoDeskModel" 34 6 15 := ⟨_, _, _, rfl, by decide, q_tb 694 (by decide +kernel)⟩
theorem fl_Mo_37 : q_FL "LassoDeskModel" 37 6 16 := ⟨_, _, _, rfl, by decide, q_tb 695 (by decide +kernel)⟩
theorem fl_Mo_40 : q_FL "LassoDeskModel" 40 6 17 := ⟨_, _, _, rfl, by decide, q_tb 696 (by decide +kernel)⟩
theorem fl_Mo_43 : q_FL "LassoDeskModel" 43 6 19 := ⟨_, _, _, rfl, by decide, q_tb 698 (by decide +kernel)⟩
theorem fl_Mo_46 : q_FL "LassoDeskModel" 46 6 21 := ⟨_, _, _, rfl, by decide, q_tb 700 (by decide +kernel)⟩
theorem fl_Mo_49 : q_FL "LassoDeskModel" 49 6 23 := ⟨_, _, _, rfl, by decide, q_tb 702 (by decide +kernel)⟩
theorem fl_Mo_52 : q_FL "LassoDeskModel" 52 6 24 := ⟨_, _, _, rfl, by decide, q_tb 703 (by decide +kernel)⟩
theorem fl_Mo_56 : q_FL "LassoDeskModel" 56 6 25 := ⟨_, _, _, rfl, by decide, q_tb 704 (by decide +kernel)⟩
theorem fl_Mo_59 : q_FL "LassoDeskModel" 59 6 26 := ⟨_, _, _, rfl, by decide, q_tb 705 (by decide +kernel)⟩
theorem fl_Mo_62 : q_FL "LassoDeskModel" 62 6 27 := ⟨_, _, _, rfl, by decide, q_tb 706 (by decide +kernel)⟩
theorem fl_Mo_65 : q_FL "LassoDeskModel" 65 6 28 := ⟨_, _, _, rfl, by decide, q_tb 707 (by decide +kernel)⟩
theorem fl_Mo_68 : q_FL "LassoDeskModel" 68 6 29 := ⟨_, _, _, rfl, by decide, q_tb 708 (by decide +kernel)⟩
theorem fl_Mo_71 : q_FL "LassoDeskModel" 71 6 30 := ⟨_, _, _, rfl, by decide, q_tb 709 (by decide +kernel)⟩
theorem fl_Mo_74 : q_FL "LassoDeskModel" 74 6 31 := ⟨_, _, _, rfl, by decide, q_tb 710 (by decide +kernel)⟩
theorem fl_Mo_77 : q_FL "LassoDeskModel" 77 6 34 := ⟨_, _, _, rfl, by decide, q_tb 713 (by decide +kernel)⟩
theorem fl_Mo_80 : q_FL "LassoDeskModel" 80 6 35 := ⟨_, _, _, rfl, by decide, q_tb 714 (by decide +kernel)⟩
theorem fl_Mo_83 : q_FL "LassoDeskModel" 83 6 38 := ⟨_, _, _, rfl, by decide, q_tb 717 (by decide +kernel)⟩
theorem fl_Mo_86 : q_FL "LassoDeskModel" 86 6 39 := ⟨_, _, _, rfl, by decide, q_tb 718 (by decide +kernel)⟩
theorem fl_Mo_89 : q_FL "LassoDeskModel" 89 6 37 := ⟨_, _, _, rfl, by decide, q_tb 716 (by decide +kernel)⟩
theorem fl_Mo_93 : q_FL "LassoDeskModel" 93 6 0 := ⟨_, _, _, rfl, by decide, q_tb 679 (by decide +kernel)⟩
theorem fl_Mo_96 : q_FL "LassoDeskModel" 96 6 2 := ⟨_, _, _, rfl, by decide, q_tb 681 (by decide +kernel)⟩
theorem fl_Mo_99 : q_FL "LassoDeskModel" 99 6 13 := ⟨_, _, _, rfl, by decide, q_tb 692 (by decide +kernel)⟩
theorem fl_Mo_102 : q_FL "LassoDeskModel" 102 6 20 := ⟨_, _, _, rfl, by decide, q_tb 699 (by decide +kernel)⟩
theorem fl_Mo_105 : q_FL "LassoDeskModel" 105 6 22 := ⟨_, _, _, rfl, by decide, q_tb 701 (by decide +kernel)⟩
theorem fl_Mo_120 : q_FL "LassoDeskModel" 120 6 18 := ⟨_, _, _, rfl, by decide, q_tb 697 (by decide +kernel)⟩
theorem fl_Mo_146 : q_FL "LassoDeskModel" 146 6 3 := ⟨_, _, _, rfl, by decide, q_tb 682 (by decide +kernel)⟩
theorem fl_Mo_150 : q_FL "LassoDeskModel" 150 6 4 := ⟨_, _, _, rfl, by decide, q_tb 683 (by decide +kernel)⟩
theorem fl_Mo_153 : q_FL "LassoDeskModel" 153 6 9 := ⟨_, _, _, rfl, by decide, q_tb 688 (by decide +kernel)⟩
theorem fl_Mo_156 : q_FL "LassoDeskModel" 156 6 11 := ⟨_, _, _, rfl, by decide, q_tb 690 (by decide +kernel)⟩
theorem fl_Mo_192 : q_FL "LassoDeskModel" 192 6 32 := ⟨_, _, _, rfl, by decide, q_tb 711 (by decide +kernel)⟩
theorem fl_Mo_195 : q_FL "LassoDeskModel" 195 6 33 := ⟨_, _, _, rfl, by decide, q_tb 712 (by decide +kernel)⟩
theorem fl_Mo_215 : q_FL "LassoDeskModel" 215 6 36 := ⟨_, _, _, rfl, by decide, q_tb 715 (by decide +kernel)⟩
theorem ml_D_54 : Cond.methodLink "LassoDesk" 54 y_Li_countTyped ∈ lw_tbl := q_tb 184 (by decide +kernel)
theorem ml_D_58 : Cond.methodLink "LassoDesk" 58 y_Li_areVisible ∈ lw_tbl := q_tb 190 (by decide +kernel)
theorem ml_D_69 : Cond.methodLink "LassoDesk" 69 y_Li_append ∈ lw_tbl := q_tb 261 (by decide +kernel)
theorem ml_D_72 : Cond.methodLink "LassoDesk" 72 y_Li_readInto ∈ lw_tbl := q_tb 272 (by decide +kernel)
theorem ml_D_76 : Cond.methodLink "LassoDesk" 76 y_Li_clear ∈ lw_tbl := q_tb 315 (by decide +kernel)
theorem ml_D_81 : Cond.methodLink "LassoDesk" 81 y_Fo_size ∈ lw_tbl := q_tb 320 (by decide +kernel)
theorem ml_D_85 : Cond.methodLink "LassoDesk" 85 y_D_requireFormula ∈ lw_tbl := q_tb 332 (by decide +kernel)
theorem ml_D_88 : Cond.methodLink "LassoDesk" 88 y_Fo_stateCount ∈ lw_tbl := q_tb 352 (by decide +kernel)
theorem ml_D_91 : Cond.methodLink "LassoDesk" 91 y_D_requireState ∈ lw_tbl := q_tb 364 (by decide +kernel)
theorem ml_D_95 : Cond.methodLink "LassoDesk" 95 y_Fo_partsAt ∈ lw_tbl := q_tb 384 (by decide +kernel)
theorem ml_D_98 : Cond.methodLink "LassoDesk" 98 y_Fo_isWholeIn ∈ lw_tbl := q_tb 395 (by decide +kernel)
theorem ml_D_102 : Cond.methodLink "LassoDesk" 102 y_Fo_expectedBefore ∈ lw_tbl := q_tb 406 (by decide +kernel)
theorem ml_D_105 : Cond.methodLink "LassoDesk" 105 y_D_settle ∈ lw_tbl := q_tb 417 (by decide +kernel)
theorem ml_D_108 : Cond.methodLink "LassoDesk" 108 y_La_has ∈ lw_tbl := q_tb 497 (by decide +kernel)
theorem ml_D_111 : Cond.methodLink "LassoDesk" 111 y_La_size ∈ lw_tbl := q_tb 508 (by decide +kernel)
theorem ml_D_112 : Cond.methodLink "LassoDesk" 112 y_Fo_promiseCount ∈ lw_tbl := q_tb 519 (by decide +kernel)
theorem ml_D_115 : Cond.methodLink "LassoDesk" 115 y_Wa_exists ∈ lw_tbl := q_tb 527 (by decide +kernel)
theorem ml_D_119 : Cond.methodLink "LassoDesk" 119 y_Wa_stemLength ∈ lw_tbl := q_tb 538 (by decide +kernel)
theorem ml_D_122 : Cond.methodLink "LassoDesk" 122 y_Wa_loopLength ∈ lw_tbl := q_tb 549 (by decide +kernel)
theorem ml_D_130 : Cond.methodLink "LassoDesk" 130 y_Wa_size ∈ lw_tbl := q_tb 561 (by decide +kernel)
theorem ml_D_136 : Cond.methodLink "LassoDesk" 136 y_Wa_stateAt ∈ lw_tbl := q_tb 567 (by decide +kernel)
theorem ml_D_139 : Cond.methodLink "LassoDesk" 139 y_Gw_fits ∈ lw_tbl := q_tb 578 (by decide +kernel)
theorem ml_D_144 : Cond.methodLink "LassoDesk" 144 y_Gw_reshape ∈ lw_tbl := q_tb 582 (by decide +kernel)
theorem ml_D_148 : Cond.methodLink "LassoDesk" 148 y_Gw_size ∈ lw_tbl := q_tb 597 (by decide +kernel)
theorem ml_D_151 : Cond.methodLink "LassoDesk" 151 y_Gw_replace ∈ lw_tbl := q_tb 599 (by decide +kernel)
theorem ml_D_155 : Cond.methodLink "LassoDesk" 155 y_Gw_take ∈ lw_tbl := q_tb 610 (by decide +kernel)
theorem ml_D_159 : Cond.methodLink "LassoDesk" 159 y_D_requirePlace ∈ lw_tbl := q_tb 625 (by decide +kernel)
theorem ml_D_162 : Cond.methodLink "LassoDesk" 162 y_Gw_letterAt ∈ lw_tbl := q_tb 630 (by decide +kernel)
theorem ml_D_165 : Cond.methodLink "LassoDesk" 165 y_Fo_placesOn ∈ lw_tbl := q_tb 645 (by decide +kernel)
theorem ml_D_169 : Cond.methodLink "LassoDesk" 169 y_Gw_indexOf ∈ lw_tbl := q_tb 671 (by decide +kernel)
theorem ml_D_172 : Cond.methodLink "LassoDesk" 172 y_D_hasBit ∈ lw_tbl := q_tb 672 (by decide +kernel)
theorem ml_D_181 : Cond.methodLink "LassoDesk" 181 y_La_find ∈ lw_tbl := q_tb 421 (by decide +kernel)
theorem ml_D_185 : Cond.methodLink "LassoDesk" 185 y_Wa_go ∈ lw_tbl := q_tb 474 (by decide +kernel)
theorem ml_Fo_43 : Cond.methodLinkNest "LassoDesk$Formula" 43 y_D_isTemporal "LassoDesk" ∈ lw_tbl := q_tb 303 (by decide +kernel)
theorem ml_Fo_47 : Cond.methodLinkNest "LassoDesk$Formula" 47 y_D_hasBit "LassoDesk" ∈ lw_tbl := q_tb 392 (by decide +kernel)
theorem ml_Fo_51 : Cond.methodLink "LassoDesk$Formula" 51 y_Fo_isPartAt ∈ lw_tbl := q_tb 388 (by decide +kernel)
theorem ml_Fo_55 : Cond.methodLink "LassoDesk$Formula" 55 y_Fo_isForOnce ∈ lw_tbl := q_tb 440 (by decide +kernel)
theorem ml_Fo_58 : Cond.methodLink "LassoDesk$Formula" 58 y_Fo_partPlaces ∈ lw_tbl := q_tb 649 (by decide +kernel)
theorem ml_Fo_62 : Cond.methodLink "LassoDesk$Formula" 62 y_Gw_allPlaces ∈ lw_tbl := q_tb 653 (by decide +kernel)
theorem ml_Fo_68 : Cond.methodLink "LassoDesk$Formula" 68 y_Gw_placesWith ∈ lw_tbl := q_tb 657 (by decide +kernel)
theorem ml_Fo_72 : Cond.methodLink "LassoDesk$Formula" 72 y_Gw_placesBefore ∈ lw_tbl := q_tb 662 (by decide +kernel)
theorem ml_Fo_75 : Cond.methodLink "LassoDesk$Formula" 75 y_Gw_placesUntil ∈ lw_tbl := q_tb 666 (by decide +kernel)
theorem ml_Gw_22 : Cond.methodLink "LassoDesk$GivenWord" 22 y_Gw_size ∈ lw_tbl := q_tb 586 (by decide +kernel)
theorem ml_Gw_26 : Cond.methodLink "LassoDesk$GivenWord" 26 y_Wa_stemLength ∈ lw_tbl := q_tb 614 (by decide +kernel)
theorem ml_Gw_30 : Cond.methodLink "LassoDesk$GivenWord" 30 y_Wa_loopLength ∈ lw_tbl := q_tb 615 (by decide +kernel)
theorem ml_Gw_32 : Cond.methodLink "LassoDesk$GivenWord" 32 y_Gw_reshape ∈ lw_tbl := q_tb 616 (by decide +kernel)
theorem ml_Gw_36 : Cond.methodLink "LassoDesk$GivenWord" 36 y_Wa_stateAt ∈ lw_tbl := q_tb 617 (by decide +kernel)
theorem ml_Gw_40 : Cond.methodLink "LassoDesk$GivenWord" 40 y_Gw_indexOf ∈ lw_tbl := q_tb 634 (by decide +kernel)
theorem ml_Gw_43 : Cond.methodLinkNest "LassoDesk$GivenWord" 43 y_D_hasBit "LassoDesk" ∈ lw_tbl := q_tb 661 (by decide +kernel)
theorem ml_Gw_47 : Cond.methodLink "LassoDesk$GivenWord" 47 y_Gw_placesBefore ∈ lw_tbl := q_tb 670 (by decide +kernel)
theorem ml_La_44 : Cond.methodLink "LassoDesk$Lasting" 44 y_La_lookAtStates ∈ lw_tbl := q_tb 425 (by decide +kernel)
theorem ml_La_48 : Cond.methodLink "LassoDesk$Lasting" 48 y_La_sweepDeadEnds ∈ lw_tbl := q_tb 449 (by decide +kernel)
theorem ml_La_51 : Cond.methodLink "LassoDesk$Lasting" 51 y_La_countSteps ∈ lw_tbl := q_tb 458 (by decide +kernel)
theorem ml_La_55 : Cond.methodLink "LassoDesk$Lasting" 55 y_La_sweepUnkept ∈ lw_tbl := q_tb 466 (by decide +kernel)
theorem ml_La_58 : Cond.methodLink "LassoDesk$Lasting" 58 y_Fo_stateCount ∈ lw_tbl := q_tb 429 (by decide +kernel)
theorem ml_La_64 : Cond.methodLink "LassoDesk$Lasting" 64 y_Fo_promiseCount ∈ lw_tbl := q_tb 430 (by decide +kernel)
theorem ml_La_67 : Cond.methodLink "LassoDesk$Lasting" 67 y_Fo_partsAt ∈ lw_tbl := q_tb 434 (by decide +kernel)
theorem ml_La_71 : Cond.methodLink "LassoDesk$Lasting" 71 y_Fo_expectedBefore ∈ lw_tbl := q_tb 435 (by decide +kernel)
theorem ml_La_74 : Cond.methodLink "LassoDesk$Lasting" 74 y_Fo_keptIn ∈ lw_tbl := q_tb 436 (by decide +kernel)
theorem ml_La_77 : Cond.methodLink "LassoDesk$Lasting" 77 y_Fo_openIn ∈ lw_tbl := q_tb 444 (by decide +kernel)
theorem ml_La_80 : Cond.methodLink "LassoDesk$Lasting" 80 y_Fo_isWholeIn ∈ lw_tbl := q_tb 448 (by decide +kernel)
theorem ml_La_84 : Cond.methodLinkNest "LassoDesk$Lasting" 84 y_D_hasBit "LassoDesk" ∈ lw_tbl := q_tb 453 (by decide +kernel)
theorem ml_La_88 : Cond.methodLink "LassoDesk$Lasting" 88 y_La_takeAway ∈ lw_tbl := q_tb 454 (by decide +kernel)
theorem ml_La_91 : Cond.methodLink "LassoDesk$Lasting" 91 y_La_stepsFrom ∈ lw_tbl := q_tb 470 (by decide +kernel)
theorem ml_La_95 : Cond.methodLink "LassoDesk$Lasting" 95 y_La_reachBefore ∈ lw_tbl := q_tb 462 (by decide +kernel)
theorem ml_La_99 : Cond.methodLink "LassoDesk$Lasting" 99 y_La_isNearer ∈ lw_tbl := q_tb 493 (by decide +kernel)
theorem ml_Li_22 : Cond.methodLink "LassoDesk$Line" 22 y_Li_byteOf ∈ lw_tbl := q_tb 187 (by decide +kernel)
theorem ml_Li_26 : Cond.methodLink "LassoDesk$Line" 26 y_Li_signAt ∈ lw_tbl := q_tb 284 (by decide +kernel)
theorem ml_Li_30 : Cond.methodLinkNest "LassoDesk$Line" 30 y_D_isTemporal "LassoDesk" ∈ lw_tbl := q_tb 288 (by decide +kernel)
theorem ml_Li_34 : Cond.methodLink "LassoDesk$Line" 34 y_Fo_clear ∈ lw_tbl := q_tb 276 (by decide +kernel)
theorem ml_Li_39 : Cond.methodLink "LassoDesk$Line" 39 y_Li_temporalsBefore ∈ lw_tbl := q_tb 280 (by decide +kernel)
theorem ml_Li_42 : Cond.methodLink "LassoDesk$Line" 42 y_Li_readLevel ∈ lw_tbl := q_tb 291 (by decide +kernel)
theorem ml_Li_46 : Cond.methodLink "LassoDesk$Line" 46 y_Fo_listPromises ∈ lw_tbl := q_tb 311 (by decide +kernel)
theorem ml_Li_49 : Cond.methodLink "LassoDesk$Line" 49 y_Li_readSimple ∈ lw_tbl := q_tb 295 (by decide +kernel)
theorem ml_Li_53 : Cond.methodLink "LassoDesk$Line" 53 y_Li_levelJoinedBy ∈ lw_tbl := q_tb 308 (by decide +kernel)
theorem ml_Li_56 : Cond.methodLink "LassoDesk$Line" 56 y_Fo_add ∈ lw_tbl := q_tb 299 (by decide +kernel)
theorem ml_Li_60 : Cond.methodLink "LassoDesk$Line" 60 y_Li_readBracket ∈ lw_tbl := q_tb 304 (by decide +kernel)
theorem ml_Wa_25 : Cond.methodLink "LassoDesk$Walk" 25 y_Ar_fill ∈ lw_tbl := q_tb 478 (by decide +kernel)
theorem ml_Wa_31 : Cond.methodLink "LassoDesk$Walk" 31 y_La_leastWhole ∈ lw_tbl := q_tb 481 (by decide +kernel)
theorem ml_Wa_44 : Cond.methodLink "LassoDesk$Walk" 44 y_Wa_exists ∈ lw_tbl := q_tb 565 (by decide +kernel)
theorem ml_Lw_7 : Cond.methodLink "LassoDeskLaw" 7 y_D_type ∈ lw_tbl := q_tb 180 (by decide +kernel)
theorem ml_Lw_15 : Cond.methodLink "LassoDeskLaw" 15 y_D_formula ∈ lw_tbl := q_tb 268 (by decide +kernel)
theorem ml_Lw_19 : Cond.methodLink "LassoDeskLaw" 19 y_D_states ∈ lw_tbl := q_tb 328 (by decide +kernel)
theorem ml_Lw_24 : Cond.methodLink "LassoDeskLaw" 24 y_D_isAt ∈ lw_tbl := q_tb 360 (by decide +kernel)
theorem ml_Lw_29 : Cond.methodLink "LassoDeskLaw" 29 y_D_leads ∈ lw_tbl := q_tb 402 (by decide +kernel)
theorem ml_Lw_33 : Cond.methodLink "LassoDeskLaw" 33 y_D_lasts ∈ lw_tbl := q_tb 413 (by decide +kernel)
theorem ml_Lw_36 : Cond.methodLink "LassoDeskLaw" 36 y_D_lasting ∈ lw_tbl := q_tb 504 (by decide +kernel)
theorem ml_Lw_39 : Cond.methodLink "LassoDeskLaw" 39 y_D_promises ∈ lw_tbl := q_tb 515 (by decide +kernel)
theorem ml_Lw_42 : Cond.methodLink "LassoDeskLaw" 42 y_D_can ∈ lw_tbl := q_tb 523 (by decide +kernel)
theorem ml_Lw_46 : Cond.methodLink "LassoDeskLaw" 46 y_D_stem ∈ lw_tbl := q_tb 534 (by decide +kernel)
theorem ml_Lw_49 : Cond.methodLink "LassoDeskLaw" 49 y_D_loop ∈ lw_tbl := q_tb 545 (by decide +kernel)
theorem ml_Lw_52 : Cond.methodLink "LassoDeskLaw" 52 y_D_step ∈ lw_tbl := q_tb 556 (by decide +kernel)
theorem ml_Lw_56 : Cond.methodLink "LassoDeskLaw" 56 y_D_shape ∈ lw_tbl := q_tb 574 (by decide +kernel)
theorem ml_Lw_60 : Cond.methodLink "LassoDeskLaw" 60 y_D_set ∈ lw_tbl := q_tb 593 (by decide +kernel)
theorem ml_Lw_64 : Cond.methodLink "LassoDeskLaw" 64 y_D_adopt ∈ lw_tbl := q_tb 606 (by decide +kernel)
theorem ml_Lw_67 : Cond.methodLink "LassoDeskLaw" 67 y_D_letter ∈ lw_tbl := q_tb 621 (by decide +kernel)
theorem ml_Lw_70 : Cond.methodLink "LassoDeskLaw" 70 y_D_holds ∈ lw_tbl := q_tb 641 (by decide +kernel)
theorem ml_Mo_108 : Cond.methodLink "LassoDeskModel" 108 y_Mo_tightness ∈ lw_tbl := q_tb 837 (by decide +kernel)
theorem ml_Mo_112 : Cond.methodLink "LassoDeskModel" 112 y_Mo_taken ∈ lw_tbl := q_tb 840 (by decide +kernel)
theorem ml_Mo_116 : Cond.methodLink "LassoDeskModel" 116 y_Mo_part ∈ lw_tbl := q_tb 819 (by decide +kernel)
theorem ml_Mo_123 : Cond.methodLink "LassoDeskModel" 123 y_Mo_isTemporal ∈ lw_tbl := q_tb 830 (by decide +kernel)
theorem ml_Mo_127 : Cond.methodLink "LassoDeskModel" 127 y_Mo_leafOf ∈ lw_tbl := q_tb 816 (by decide +kernel)
theorem ml_Mo_130 : Cond.methodLink "LassoDeskModel" 130 y_Mo_prefixOf ∈ lw_tbl := q_tb 823 (by decide +kernel)
theorem ml_Mo_133 : Cond.methodLink "LassoDeskModel" 133 y_Mo_push ∈ lw_tbl := q_tb 826 (by decide +kernel)
theorem ml_Mo_137 : Cond.methodLink "LassoDeskModel" 137 y_Mo_settle ∈ lw_tbl := q_tb 833 (by decide +kernel)
theorem ml_Mo_140 : Cond.methodLink "LassoDeskModel" 140 y_Mo_signOf ∈ lw_tbl := q_tb 844 (by decide +kernel)
theorem ml_Mo_143 : Cond.methodLink "LassoDeskModel" 143 y_Mo_reads ∈ lw_tbl := q_tb 812 (by decide +kernel)
theorem ml_Mo_159 : Cond.methodLink "LassoDeskModel" 159 y_Mo_count ∈ lw_tbl := q_tb 847 (by decide +kernel)
theorem ml_Mo_162 : Cond.methodLink "LassoDeskModel" 162 y_Mo_look ∈ lw_tbl := q_tb 851 (by decide +kernel)
theorem ml_Mo_165 : Cond.methodLink "LassoDeskModel" 165 y_Mo_takeOut ∈ lw_tbl := q_tb 859 (by decide +kernel)
theorem ml_Mo_168 : Cond.methodLink "LassoDeskModel" 168 y_Mo_goWalk ∈ lw_tbl := q_tb 875 (by decide +kernel)
theorem ml_Mo_171 : Cond.methodLink "LassoDeskModel" 171 y_Mo_valueOf ∈ lw_tbl := q_tb 855 (by decide +kernel)
theorem ml_Mo_175 : Cond.methodLink "LassoDeskModel" 175 y_Mo_noteSome ∈ lw_tbl := q_tb 867 (by decide +kernel)
theorem ml_Mo_178 : Cond.methodLink "LassoDeskModel" 178 y_Mo_leadsToOne ∈ lw_tbl := q_tb 871 (by decide +kernel)
theorem ml_Mo_181 : Cond.methodLink "LassoDeskModel" 181 y_Mo_countSteps ∈ lw_tbl := q_tb 863 (by decide +kernel)
theorem ml_Mo_184 : Cond.methodLink "LassoDeskModel" 184 y_Mo_isDue ∈ lw_tbl := q_tb 887 (by decide +kernel)
theorem ml_Mo_189 : Cond.methodLink "LassoDeskModel" 189 y_Mo_goes ∈ lw_tbl := q_tb 896 (by decide +kernel)
theorem ml_Mo_198 : Cond.methodLink "LassoDeskModel" 198 y_Mo_firstState ∈ lw_tbl := q_tb 879 (by decide +kernel)
theorem ml_Mo_201 : Cond.methodLink "LassoDeskModel" 201 y_Mo_dutyAt ∈ lw_tbl := q_tb 883 (by decide +kernel)
theorem ml_Mo_205 : Cond.methodLink "LassoDeskModel" 205 y_Mo_nextOf ∈ lw_tbl := q_tb 891 (by decide +kernel)
theorem ml_Mo_208 : Cond.methodLink "LassoDeskModel" 208 y_Mo_refused ∈ lw_tbl := q_tb 904 (by decide +kernel)
theorem ml_Mo_212 : Cond.methodLink "LassoDeskModel" 212 y_Mo_isState ∈ lw_tbl := q_tb 912 (by decide +kernel)
theorem ml_Mo_218 : Cond.methodLink "LassoDeskModel" 218 y_Mo_placeOf ∈ lw_tbl := q_tb 964 (by decide +kernel)
theorem ml_Mo_221 : Cond.methodLink "LassoDeskModel" 221 y_Mo_spread ∈ lw_tbl := q_tb 972 (by decide +kernel)
end
section
/-! THE WORLD AS IT STANDS ONCE IT IS MADE: c, d: the places of the formula that holds and of the draft; x: the law's answer cell, and a number for each place and slot. Rows of the abstract walk over it, each with the equation of the method's function. -/
abbrev q_W : Type := Int64 × (Nat → Nat → Int32)
def q_wr (x : q_W) (p k : Nat) (v : Int32) : q_W := (x.1, fun p' => if p' = p then upd (x.2 p) k v else x.2 p')
def q_ld (x : q_W) (p n : Nat) (i : Int32) : Option Int32 := if i < 0 ∨ n ≤ i.toNatClampNeg then none else some (x.2 p i.toNatClampNeg)
def q_sto (x : q_W) (p n : Nat) (i v : Int32) : Option q_W := if i < 0 ∨ n ≤ i.toNatClampNeg then none else some (q_wr x p i.toNatClampNeg v)
def q_let {α β : Type} (a : α) (f : α → β) : β := f a
theorem q_ite {c : Prop} [Decidable c] {α : Type} {A B r : α} {P : Prop} (h : (if c then A else B) = r) (f : c → A = r → P) (g : ¬ c → B = r → P) : P := by
  by_cases hc : c
  · rw [if_pos hc] at h
    exact f hc h
  · rw [if_neg hc] at h
    exact g hc h
theorem q_ai {x a b : Int32} (h : a = b) : x + a = x + b := by rw [h]
def q_fu : Nat := 3000
def q_rm (n : Nat) : Room := { frames := n, cells := 1, slots := 6, locals := 64 * n }
theorem q_ro {n n' k : Nat} (h : n' < n) (hk : k ≤ 45) : (q_rm n').frames + 1 ≤ (q_rm n).frames ∧ 8 + (k + 11) + (q_rm n').locals ≤ (q_rm n).locals ∧ 0 + (q_rm n').cells ≤ (q_rm n).cells ∧ 0 + (q_rm n').slots ≤ (q_rm n).slots := by
  simp only [q_rm]
  omega
def q_cells (E : q_E) (c d : Nat) (x : q_W) : List va_E := (List.range q_NT).map fun p => q_mk E c d x.1 p (x.2 p)
theorem q_cells_at {E : q_E} {c d : Nat} {x : q_W} {p : Nat} (h : p < q_NT) : (q_cells E c d x)[p]? = some (q_mk E c d x.1 p (x.2 p)) := by
  simp [q_cells, h]
theorem q_cells_set {E : q_E} {c d : Nat} {x : q_W} {p k : Nat} {v : Int32} {e : va_E} (h : q_mk E c d x.1 p (upd (x.2 p) k v) = e) : (q_cells E c d x).set p e = q_cells E c d (q_wr x p k v) := by
  apply List.ext_getElem?
  intro j
  by_cases hj : p = j
  · subst hj
    by_cases hp : p < q_NT
    · rw [q_cells_at hp, List.getElem?_set_self (by simp [q_cells, hp])]
      simp [q_wr, h]
    · simp [q_cells, hp]
  · rw [List.getElem?_set_ne hj]
    by_cases hp : j < q_NT
    · rw [q_cells_at hp, q_cells_at hp]
      simp [q_wr, Ne.symm hj]
    · simp [q_cells, hp]
theorem q_cells_out {E : q_E} {c d : Nat} {x : q_W} {z : Int64} {e : va_E} (h : q_mk E c d z q_PO (x.2 q_PO) = e) : (q_cells E c d x).set q_PO e = q_cells E c d (z, x.2) := by
  apply List.ext_getElem?
  intro j
  by_cases hj : q_PO = j
  · subst hj
    rw [q_cells_at (by decide), List.getElem?_set_self (by simp [q_cells, q_NT, q_PO])]
    rw [← h]
  · rw [List.getElem?_set_ne hj]
    by_cases hp : j < q_NT
    · rw [q_cells_at hp, q_cells_at hp]
      exact congrArg some (q_mk_out (Ne.symm hj))
    · simp [q_cells, hp]
theorem q_cells_cd {E : q_E} {c d c' d' : Nat} {x : q_W} {e : va_E} (h : q_mk E c' d' x.1 0 (x.2 0) = e) : (q_cells E c d x).set 0 e = q_cells E c' d' x := by
  apply List.ext_getElem?
  intro j
  by_cases hj : 0 = j
  · subst hj
    rw [q_cells_at (by decide), List.getElem?_set_self (by simp [q_cells, q_NT])]
    rw [← h]
  · rw [List.getElem?_set_ne hj]
    by_cases hp : j < q_NT
    · rw [q_cells_at hp, q_cells_at hp]
      exact congrArg some (q_mk_cd (Ne.symm hj))
    · simp [q_cells, hp]
abbrev q_rP (E : q_E) (c d : Nat) (x : q_W) (v : Int32) : q_R := (.inl (some (.int v)), q_cells E c d x, 0, 0)
abbrev q_rS (E : q_E) (c d : Nat) (ρ : Int32 × q_W) : q_R := (.inl (some (.int ρ.1)), q_cells E c d ρ.2, 0, 0)
abbrev q_rV (E : q_E) (c d : Nat) (ρ : q_W) : q_R := (.inl none, q_cells E c d ρ, 0, 0)
def q_rT (E : q_E) (c d : Nat) (vd : Bool) (ρ : (Int32 ⊕ Nat) × q_W) : q_R := match ρ.1 with
  | .inl v => (.inl (bif vd then none else some (.int v)), q_cells E c d ρ.2, 0, 0)
  | .inr k => (.inr k, q_cells E c d ρ.2, 1, 6)
abbrev q_rPT (E : q_E) (c d : Nat) (vd : Bool) (x : q_W) (ρ : Int32 ⊕ Nat) : q_R := q_rT E c d vd (ρ, x)
abbrev q_rTF (E : q_E) (ρ : (Int32 ⊕ Nat) × (Nat × Nat × q_W)) : q_R := q_rT E ρ.2.1 ρ.2.2.1 false (ρ.1, ρ.2.2.2)
abbrev q_rL (E : q_E) (c d : Nat) (ρ : Int32 × q_W) : q_R := (.inl (some (.int ρ.1)), q_cells E c d ρ.2, 1, 6)
abbrev q_rSF (E : q_E) (ρ : Int32 × (Nat × Nat × q_W)) : q_R := (.inl (some (.int ρ.1)), q_cells E ρ.2.1 ρ.2.2.1 ρ.2.2.2, 1, 6)
/-- a callee that may throw: what it throws goes on -/
def q_thb {α : Type} (F : Option ((Int32 ⊕ Nat) × α)) (K : Int32 → α → Option ((Int32 ⊕ Nat) × α)) : Option ((Int32 ⊕ Nat) × α) := match F with
  | none => none
  | some (.inl v, x) => K v x
  | some (.inr k, x) => some (.inr k, x)
def q_tp {α : Type} (F : Option (Int32 ⊕ Nat)) (x : α) (K : Int32 → Option ((Int32 ⊕ Nat) × α)) : Option ((Int32 ⊕ Nat) × α) := match F with
  | none => none
  | some (.inl v) => K v
  | some (.inr k) => some (.inr k, x)
def q_tpp (F : Option (Int32 ⊕ Nat)) (K : Int32 → Option (Int32 ⊕ Nat)) : Option (Int32 ⊕ Nat) := match F with
  | none => none
  | some (.inl v) => K v
  | some (.inr k) => some (.inr k)
section QX
variable {E : q_E} {R : Room} {M Y : q_M} {c d ce sl pc : Nat} {x : q_W} {lv : List (Nat × Value)} {st : List Value} {r : q_R} {β : Type} {ρ : β}
theorem q_xtop {z : Int32} {K : Int32 → Option β} {ws : List va_E} (h : q_let z K = some ρ) (k : ∀ v, v = z → K v = some ρ → AW E R M ws ce sl pc lv (.int v :: st) r) : AW E R M ws ce sl pc lv (.int z :: st) r := k z rfl h
theorem q_xget {idx ci f q0 : Nat} {fs : List Value} {v : Value} (n : Nat) (hd : decode M.1 pc = .ok (.getfield idx, 3)) (hn : pc + 3 = n) (hf : q_FL M.2.2.2.1 idx ci f) (hq : q0 < q_NT) (he : q_mk E c d x.1 q0 (x.2 q0) = .inr (ci, fs)) (hv : fs[f]? = some v) (k : AW E R M (q_cells E c d x) ce sl n lv (v :: st) r) : AW E R M (q_cells E c d x) ce sl pc lv (.ref q0 :: st) r :=
  q_get n hd hn hf (Nat.lt_trans hq (by decide)) ((q_cells_at hq).trans (congrArg some he)) hv k
theorem q_xput {idx ci f q0 : Nat} {fs : List Value} {z : Int32} {ty : FieldType} {K : q_W → Option β} (n : Nat) (hd : decode M.1 pc = .ok (.putfield idx, 3)) (hn : pc + 3 = n) (hf : q_FL M.2.2.2.1 idx ci f) (hq : q0 < q_NT) (he : q_mk E c d x.1 q0 (x.2 q0) = .inr (ci, fs)) (hty : q_fty ci f = some (ty, false)) (hna : narrow ty (.int z) = .int z) (hfit : fits ty (.int z) = true) (hl0 : f < fs.length) (hu : ∀ u, q_mk E c d x.1 q0 (upd (x.2 q0) f u) = .inr (ci, fs.set f (.int u))) (h : q_let (q_wr x q0 f z) K = some ρ) (k : ∀ x', x' = q_wr x q0 f z → K x' = some ρ → AW E R M (q_cells E c d x') ce sl n lv st r) : AW E R M (q_cells E c d x) ce sl pc lv (.int z :: .ref q0 :: st) r :=
  q_put n hd hn hf (Nat.lt_trans hq (by decide)) ((q_cells_at hq).trans (congrArg some he)) hty hna hfit hl0 (q_cells_set (hu z)) (k _ rfl h)
theorem q_xputc {idx : Nat} {u : Nat} {ty : FieldType} (n : Nat) (hd : decode M.1 pc = .ok (.putfield idx, 3)) (hn : pc + 3 = n) (hf : q_FL M.2.2.2.1 idx 0 4) (hty : q_fty 0 4 = some (.object "LassoDesk$Formula", false)) (k : AW E R M (q_cells E u d x) ce sl n lv st r) : AW E R M (q_cells E c d x) ce sl pc lv (.ref u :: .ref 0 :: st) r :=
  q_put n hd hn hf (by decide) ((q_cells_at (by decide)).trans (congrArg some rfl)) hty rfl rfl (Nat.le_of_ble_eq_true rfl) (q_cells_cd rfl) k
theorem q_xputd {idx : Nat} {u : Nat} {ty : FieldType} (n : Nat) (hd : decode M.1 pc = .ok (.putfield idx, 3)) (hn : pc + 3 = n) (hf : q_FL M.2.2.2.1 idx 0 5) (hty : q_fty 0 5 = some (.object "LassoDesk$Formula", false)) (k : AW E R M (q_cells E c u x) ce sl n lv st r) : AW E R M (q_cells E c d x) ce sl pc lv (.ref u :: .ref 0 :: st) r :=
  q_put n hd hn hf (by decide) ((q_cells_at (by decide)).trans (congrArg some rfl)) hty rfl rfl (Nat.le_of_ble_eq_true rfl) (q_cells_cd rfl) k
theorem q_ld_bind {p len : Nat} {i : Int32} {K : Int32 → Option β} (h : (q_ld x p len i).bind K = some ρ) : vp_in i len ∧ K (x.2 p i.toNatClampNeg) = some ρ := by
  unfold q_ld at h
  by_cases hc : i < 0 ∨ len ≤ i.toNatClampNeg
  · rw [if_pos hc] at h
    cases h
  · rw [if_neg hc] at h
    exact ⟨hc, h⟩
theorem q_sto_bind {p len : Nat} {i v : Int32} {K : q_W → Option β} (h : (q_sto x p len i v).bind K = some ρ) : vp_in i len ∧ K (q_wr x p i.toNatClampNeg v) = some ρ := by
  unfold q_sto at h
  by_cases hc : i < 0 ∨ len ≤ i.toNatClampNeg
  · rw [if_pos hc] at h
    cases h
  · rw [if_neg hc] at h
    exact ⟨hc, h⟩
theorem q_xiald {q0 len : Nat} {i : Int32} {K : Int32 → Option β} (n : Nat) (hd : decode M.1 pc = .ok (.iaload, 1)) (hn : pc + 1 = n) (hq : q0 < q_NT) (he : ∀ f, q_mk E c d x.1 q0 f = .inl (q_kA E 0, len, .inl f)) (h : (q_ld x q0 len i).bind K = some ρ) (k : ∀ w, w = x.2 q0 i.toNatClampNeg → K w = some ρ → AW E R M (q_cells E c d x) ce sl n lv (.int w :: st) r) : AW E R M (q_cells E c d x) ce sl pc lv (.int i :: .ref q0 :: st) r :=
  q_iald n hd hn (Nat.lt_trans hq (by decide)) ((q_cells_at hq).trans (congrArg some (he _))) (q_ld_bind h).1 (k _ rfl (q_ld_bind h).2)
theorem q_xiast {q0 len : Nat} {i y : Int32} {K : q_W → Option β} (n : Nat) (hd : decode M.1 pc = .ok (.iastore, 1)) (hn : pc + 1 = n) (hq : q0 < q_NT) (he : ∀ f, q_mk E c d x.1 q0 f = .inl (q_kA E 0, len, .inl f)) (h : (q_sto x q0 len i (y)).bind K = some ρ) (k : ∀ x', x' = q_wr x q0 i.toNatClampNeg (y) → K x' = some ρ → AW E R M (q_cells E c d x') ce sl n lv st r) : AW E R M (q_cells E c d x) ce sl pc lv (.int y :: .int i :: .ref q0 :: st) r :=
  q_iast n hd hn (Nat.lt_trans hq (by decide)) ((q_cells_at hq).trans (congrArg some (he _))) (q_sto_bind h).1 (q_cells_set (he _)) (k _ rfl (q_sto_bind h).2)
theorem q_xzald {q0 len : Nat} {i : Int32} {K : Int32 → Option β} (n : Nat) (hd : decode M.1 pc = .ok (.baload, 1)) (hn : pc + 1 = n) (hq : q0 < q_NT) (he : ∀ f, q_mk E c d x.1 q0 f = .inl (q_kA E 1, len, .inl f)) (h : (q_ld x q0 len i).bind K = some ρ) (k : ∀ w, w = x.2 q0 i.toNatClampNeg → K w = some ρ → AW E R M (q_cells E c d x) ce sl n lv (.int w :: st) r) : AW E R M (q_cells E c d x) ce sl pc lv (.int i :: .ref q0 :: st) r :=
  q_zald n hd hn (Nat.lt_trans hq (by decide)) ((q_cells_at hq).trans (congrArg some (he _))) (q_ld_bind h).1 (k _ rfl (q_ld_bind h).2)
theorem q_xzast {q0 len : Nat} {i y : Int32} {K : q_W → Option β} (n : Nat) (hd : decode M.1 pc = .ok (.bastore, 1)) (hn : pc + 1 = n) (hq : q0 < q_NT) (he : ∀ f, q_mk E c d x.1 q0 f = .inl (q_kA E 1, len, .inl f)) (h : (q_sto x q0 len i (vp_nar .boolean y)).bind K = some ρ) (k : ∀ x', x' = q_wr x q0 i.toNatClampNeg (vp_nar .boolean y) → K x' = some ρ → AW E R M (q_cells E c d x') ce sl n lv st r) : AW E R M (q_cells E c d x) ce sl pc lv (.int y :: .int i :: .ref q0 :: st) r :=
  q_zast n hd hn (Nat.lt_trans hq (by decide)) ((q_cells_at hq).trans (congrArg some (he _))) (q_sto_bind h).1 (q_cells_set (he _)) (k _ rfl (q_sto_bind h).2)
theorem q_xcald {q0 len : Nat} {i : Int32} {K : Int32 → Option β} (n : Nat) (hd : decode M.1 pc = .ok (.caload, 1)) (hn : pc + 1 = n) (hq : q0 < q_NT) (he : ∀ f, q_mk E c d x.1 q0 f = .inl (q_kA E 2, len, .inl f)) (h : (q_ld x q0 len i).bind K = some ρ) (k : ∀ w, w = x.2 q0 i.toNatClampNeg → K w = some ρ → AW E R M (q_cells E c d x) ce sl n lv (.int w :: st) r) : AW E R M (q_cells E c d x) ce sl pc lv (.int i :: .ref q0 :: st) r :=
  q_cald n hd hn (Nat.lt_trans hq (by decide)) ((q_cells_at hq).trans (congrArg some (he _))) (q_ld_bind h).1 (k _ rfl (q_ld_bind h).2)
theorem q_xcast {q0 len : Nat} {i y : Int32} {K : q_W → Option β} (n : Nat) (hd : decode M.1 pc = .ok (.castore, 1)) (hn : pc + 1 = n) (hq : q0 < q_NT) (he : ∀ f, q_mk E c d x.1 q0 f = .inl (q_kA E 2, len, .inl f)) (h : (q_sto x q0 len i (vp_nar .char y)).bind K = some ρ) (k : ∀ x', x' = q_wr x q0 i.toNatClampNeg (vp_nar .char y) → K x' = some ρ → AW E R M (q_cells E c d x') ce sl n lv st r) : AW E R M (q_cells E c d x) ce sl pc lv (.int y :: .int i :: .ref q0 :: st) r :=
  q_cast n hd hn (Nat.lt_trans hq (by decide)) ((q_cells_at hq).trans (congrArg some (he _))) (q_sto_bind h).1 (q_cells_set (he _)) (k _ rfl (q_sto_bind h).2)
theorem q_in01 : vp_in 0 1 := by
  unfold vp_in
  decide
theorem q_xlald (n : Nat) (hd : decode M.1 pc = .ok (.laload, 1)) (hn : pc + 1 = n) (k : AW E R M (q_cells E c d x) ce sl n lv (.long x.1 :: st) r) : AW E R M (q_cells E c d x) ce sl pc lv (.int 0 :: .ref q_PO :: st) r := by
  refine q_lald (f := q_of x.1) n hd hn (by decide) ((q_cells_at (by decide)).trans (congrArg some rfl)) q_in01 ?_
  rw [show (0 : Int32).toNatClampNeg = 0 by decide, show q_of x.1 0 = x.1 from rfl]
  exact k
theorem q_xlast {z : Int64} {K : q_W → Option β} (n : Nat) (hd : decode M.1 pc = .ok (.lastore, 1)) (hn : pc + 1 = n) (h : q_let (z, x.2) K = some ρ) (k : ∀ x', x' = (z, x.2) → K x' = some ρ → AW E R M (q_cells E c d x') ce sl n lv st r) : AW E R M (q_cells E c d x) ce sl pc lv (.long z :: .int 0 :: .ref q_PO :: st) r :=
  q_last n hd hn (by decide) ((q_cells_at (by decide)).trans (congrArg some rfl)) q_in01 (q_cells_out (by
    simp only [q_mk, q_PO, Sum.inl.injEq, Prod.mk.injEq, true_and, Sum.inr.injEq]
    funext j
    rw [show (0 : Int32).toNatClampNeg = 0 by decide]
    by_cases hj : j = 0 <;> simp [vp_updL, q_of, hj])) (k _ rfl h)
theorem q_xalen {q0 len t : Nat} {ty : FieldType} {v : Int32} (n : Nat) (hd : decode M.1 pc = .ok (.arraylength, 1)) (hn : pc + 1 = n) (hq : q0 < q_NT) (he : ∀ f, q_mk E c d x.1 q0 f = .inl (q_kA E t, len, .inl f)) (ht0 : (q_tys E)[t]? = some (q_kA E t, ty)) (hv : Int32.ofNat len = v) (k : AW E R M (q_cells E c d x) ce sl n lv (.int v :: st) r) : AW E R M (q_cells E c d x) ce sl pc lv (.ref q0 :: st) r :=
  q_alen n hd hn (Nat.lt_trans hq (by decide)) ((q_cells_at hq).trans (congrArg some (he _))) ht0 hv k
def q_xld (E : q_E) (i : Int32) : Option Int32 := if i < 0 ∨ q_L E ≤ i.toNatClampNeg then none else some (q_xs E i.toNatClampNeg)
theorem q_xsld {i : Int32} {K : Int32 → Option β} {ws : List va_E} (n : Nat) (hd : decode M.1 pc = .ok (.iaload, 1)) (hn : pc + 1 = n) (h : (q_xld E i).bind K = some ρ) (k : ∀ w, w = q_xs E i.toNatClampNeg → K w = some ρ → AW E R M ws ce sl n lv (.int w :: st) r) : AW E R M ws ce sl pc lv (.int i :: .ref 900 :: st) r := by
  unfold q_xld at h
  by_cases hc : i < 0 ∨ q_L E ≤ i.toNatClampNeg
  · rw [if_pos hc] at h
    cases h
  · rw [if_neg hc] at h
    exact q_sld n hd hn hc (k _ rfl h)
variable {y : MethodName} {as rest st0 : List Value} {rm : Room} {ig : Instr} {idx : Nat}
theorem q_xinvV {q0 ci N : Nat} {fs : List Value} {T0 : u_T} (hd : decode M.1 pc = .ok (.invokevirtual idx, 3)) (hl : Cond.methodLink M.2.2.2.1 idx y ∈ lw_tbl) (hs : Cond.instanceMethod y ∈ lw_tbl) (hse : Cond.selects y.cls y y ∈ lw_tbl) (hc : q_hd y Y ∈ lw_tbl) (hy : y.cls ≠ "java/lang/invoke/MethodHandle" ∧ y.cls ≠ "java/lang/invoke/VarHandle") (hlen : (parseMethodDescriptor y.desc).map (fun d => d.parameters.length) = some as.length) (hq : q0 < q_NT) (he : q_mk E c d x.1 q0 (x.2 q0) = .inr (ci, fs)) (hcl : q_cl[ci]? = some (y.cls, T0, N)) : q_Inv E R M (q_cells E c d x) pc y (.ref q0 :: as) rest :=
  q_invV (Y := Y) hd hl hs hse hc hy hlen (Nat.lt_trans hq (by decide)) ((q_cells_at hq).trans (congrArg some he)) hcl
theorem q_xinvVN {host : String} {q0 ci N : Nat} {fs : List Value} {T0 : u_T} (hd : decode M.1 pc = .ok (.invokevirtual idx, 3)) (hl : Cond.methodLinkNest M.2.2.2.1 idx y host ∈ lw_tbl) (hs : Cond.instanceMethod y ∈ lw_tbl) (hse : Cond.selects y.cls y y ∈ lw_tbl) (hc : q_hd y Y ∈ lw_tbl) (hy : y.cls ≠ "java/lang/invoke/MethodHandle" ∧ y.cls ≠ "java/lang/invoke/VarHandle") (hlen : (parseMethodDescriptor y.desc).map (fun d => d.parameters.length) = some as.length) (hq : q0 < q_NT) (he : q_mk E c d x.1 q0 (x.2 q0) = .inr (ci, fs)) (hcl : q_cl[ci]? = some (y.cls, T0, N)) : q_Inv E R M (q_cells E c d x) pc y (.ref q0 :: as) rest :=
  q_invVN (Y := Y) hd hl hs hse hc hy hlen (Nat.lt_trans hq (by decide)) ((q_cells_at hq).trans (congrArg some he)) hcl
theorem q_xcallP {F : Option Int32} {K : Int32 → Option β} (n : Nat) (h : F.bind K = some ρ) (hM : ∀ v, F = some v → q_Ct E y Y rm (q_cells E c d x) as (q_rP E c d x v)) (hI : q_Inv E R M (q_cells E c d x) pc y as rest) (hk : q_hd y Y ∈ lw_tbl ∧ Cond.initialized y.cls ∈ lw_tbl) (hro : rm.frames + 1 ≤ R.frames ∧ 8 + (Y.2.1 + 11) + rm.locals ≤ R.locals ∧ ce + rm.cells ≤ R.cells ∧ sl + rm.slots ≤ R.slots) (hst : (rest.map fun v => v.category).sum ≤ 8) (hd : decode M.1 pc = .ok (ig, 3)) (hn : pc + 3 = n) (hy0 : Y.2.2.2.2.2.2 = none) (hs : as.reverse ++ rest = st0) (k : ∀ v, F = some v → K v = some ρ → AW E R M (q_cells E c d x) ce sl n lv (.int v :: rest) r) : AW E R M (q_cells E c d x) ce sl pc lv st0 r := by
  subst hs
  cases hF : F with
  | none => rw [hF] at h; cases h
  | some v => exact q_call n (hM v hF) hI hk hro hst hd hn (Or.inl hy0) (k v hF (by rw [hF] at h; exact h))
theorem q_xcallS {F : Option (Int32 × q_W)} {K : Int32 × q_W → Option β} (n : Nat) (h : F.bind K = some ρ) (hM : ∀ v, F = some v → q_Ct E y Y rm (q_cells E c d x) as (q_rS E c d v)) (hI : q_Inv E R M (q_cells E c d x) pc y as rest) (hk : q_hd y Y ∈ lw_tbl ∧ Cond.initialized y.cls ∈ lw_tbl) (hro : rm.frames + 1 ≤ R.frames ∧ 8 + (Y.2.1 + 11) + rm.locals ≤ R.locals ∧ ce + rm.cells ≤ R.cells ∧ sl + rm.slots ≤ R.slots) (hst : (rest.map fun v => v.category).sum ≤ 8) (hd : decode M.1 pc = .ok (ig, 3)) (hn : pc + 3 = n) (hy0 : Y.2.2.2.2.2.2 = none) (hs : as.reverse ++ rest = st0) (k : ∀ v, F = some v → K v = some ρ → AW E R M (q_cells E c d v.2) ce sl n lv (.int v.1 :: rest) r) : AW E R M (q_cells E c d x) ce sl pc lv st0 r := by
  subst hs
  cases hF : F with
  | none => rw [hF] at h; cases h
  | some v => exact q_call n (hM v hF) hI hk hro hst hd hn (Or.inl hy0) (k v hF (by rw [hF] at h; exact h))
theorem q_xcallV {F : Option q_W} {K : q_W → Option β} (n : Nat) (h : F.bind K = some ρ) (hM : ∀ v, F = some v → q_Ct E y Y rm (q_cells E c d x) as (q_rV E c d v)) (hI : q_Inv E R M (q_cells E c d x) pc y as rest) (hk : q_hd y Y ∈ lw_tbl ∧ Cond.initialized y.cls ∈ lw_tbl) (hro : rm.frames + 1 ≤ R.frames ∧ 8 + (Y.2.1 + 11) + rm.locals ≤ R.locals ∧ ce + rm.cells ≤ R.cells ∧ sl + rm.slots ≤ R.slots) (hst : (rest.map fun v => v.category).sum ≤ 8) (hd : decode M.1 pc = .ok (ig, 3)) (hn : pc + 3 = n) (hy0 : Y.2.2.2.2.2.2 = none) (hs : as.reverse ++ rest = st0) (k : ∀ v, F = some v → K v = some ρ → AW E R M (q_cells E c d v) ce sl n lv rest r) : AW E R M (q_cells E c d x) ce sl pc lv st0 r := by
  subst hs
  cases hF : F with
  | none => rw [hF] at h; cases h
  | some v => exact q_call n (hM v hF) hI hk hro hst hd hn (Or.inl hy0) (k v hF (by rw [hF] at h; exact h))
theorem q_no {M : q_M} {pc : Nat} (h : M.2.2.2.2.2.1 = []) : ∀ h ∈ M.2.2.2.2.2.1, (decide (h.1 ≤ pc) && decide (pc < h.2.1)) = false := by
  rw [h]
  intro q hq
  cases hq
theorem q_xcallPP {F : Option (Int32 ⊕ Nat)} {K : Int32 → Option (Int32 ⊕ Nat)} {ρ : Int32 ⊕ Nat} {vd vd' : Bool} {lv : List (Nat × Value)} (n : Nat) (h : q_tpp F K = some ρ) (hM : ∀ v, F = some v → q_Ct E y Y rm (q_cells E c d x) as (q_rPT E c d vd' x v)) (hI : q_Inv E R M (q_cells E c d x) pc y as rest) (hk : q_hd y Y ∈ lw_tbl ∧ Cond.initialized y.cls ∈ lw_tbl) (hro : rm.frames + 1 ≤ R.frames ∧ 8 + (Y.2.1 + 11) + rm.locals ≤ R.locals ∧ 0 + rm.cells ≤ R.cells ∧ 0 + rm.slots ≤ R.slots) (hst : (rest.map fun v => v.category).sum ≤ 8) (hd : decode M.1 pc = .ok (ig, 3)) (hn : pc + 3 = n) (hy0 : Y.2.2.2.2.2.2 = none) (hs : as.reverse ++ rest = st0) (hM0 : M.2.2.2.2.2.1 = []) (k : ∀ v, F = some (.inl v) → K v = some ρ → AW E R M (q_cells E c d x) 0 0 n lv ((bif vd' then [] else [.int v]) ++ rest) (q_rPT E c d vd x ρ)) : AW E R M (q_cells E c d x) 0 0 pc lv st0 (q_rPT E c d vd x ρ) := by
  subst hs
  cases hF : F with
  | none => rw [hF] at h; cases h
  | some v =>
    cases v with
    | inl v =>
      have hk' := k v hF (by rw [hF] at h; exact h)
      cases vd' with
      | true => exact q_call n (hM _ hF) hI hk hro hst hd hn (Or.inl hy0) hk'
      | false => exact q_call n (hM _ hF) hI hk hro hst hd hn (Or.inl hy0) hk'
    | inr kx =>
      rw [hF] at h
      cases h
      exact q_callT (hM _ hF) hI hk hro hst hd (Or.inl hy0) (q_no hM0) (by decide) (by decide)
theorem q_xcallPT {F : Option (Int32 ⊕ Nat)} {K : Int32 → Option ((Int32 ⊕ Nat) × q_W)} {ρ : (Int32 ⊕ Nat) × q_W} {vd vd' : Bool} {lv : List (Nat × Value)} (n : Nat) (h : q_tp F x K = some ρ) (hM : ∀ v, F = some v → q_Ct E y Y rm (q_cells E c d x) as (q_rPT E c d vd' x v)) (hI : q_Inv E R M (q_cells E c d x) pc y as rest) (hk : q_hd y Y ∈ lw_tbl ∧ Cond.initialized y.cls ∈ lw_tbl) (hro : rm.frames + 1 ≤ R.frames ∧ 8 + (Y.2.1 + 11) + rm.locals ≤ R.locals ∧ 0 + rm.cells ≤ R.cells ∧ 0 + rm.slots ≤ R.slots) (hst : (rest.map fun v => v.category).sum ≤ 8) (hd : decode M.1 pc = .ok (ig, 3)) (hn : pc + 3 = n) (hy0 : Y.2.2.2.2.2.2 = none) (hs : as.reverse ++ rest = st0) (hM0 : M.2.2.2.2.2.1 = []) (k : ∀ v, F = some (.inl v) → K v = some ρ → AW E R M (q_cells E c d x) 0 0 n lv ((bif vd' then [] else [.int v]) ++ rest) (q_rT E c d vd ρ)) : AW E R M (q_cells E c d x) 0 0 pc lv st0 (q_rT E c d vd ρ) := by
  subst hs
  cases hF : F with
  | none => rw [hF] at h; cases h
  | some v =>
    cases v with
    | inl v =>
      have hk' := k v hF (by rw [hF] at h; exact h)
      cases vd' with
      | true => exact q_call n (hM _ hF) hI hk hro hst hd hn (Or.inl hy0) hk'
      | false => exact q_call n (hM _ hF) hI hk hro hst hd hn (Or.inl hy0) hk'
    | inr kx =>
      rw [hF] at h
      cases h
      exact q_callT (hM _ hF) hI hk hro hst hd (Or.inl hy0) (q_no hM0) (by decide) (by decide)
theorem q_xcallT {F : Option ((Int32 ⊕ Nat) × q_W)} {K : Int32 → q_W → Option ((Int32 ⊕ Nat) × q_W)} {ρ : (Int32 ⊕ Nat) × q_W} {vd vd' : Bool} {lv : List (Nat × Value)} (n : Nat) (h : q_thb F K = some ρ) (hM : ∀ v, F = some v → q_Ct E y Y rm (q_cells E c d x) as (q_rT E c d vd' v)) (hI : q_Inv E R M (q_cells E c d x) pc y as rest) (hk : q_hd y Y ∈ lw_tbl ∧ Cond.initialized y.cls ∈ lw_tbl) (hro : rm.frames + 1 ≤ R.frames ∧ 8 + (Y.2.1 + 11) + rm.locals ≤ R.locals ∧ 0 + rm.cells ≤ R.cells ∧ 0 + rm.slots ≤ R.slots) (hst : (rest.map fun v => v.category).sum ≤ 8) (hd : decode M.1 pc = .ok (ig, 3)) (hn : pc + 3 = n) (hy0 : Y.2.2.2.2.2.2 = none) (hs : as.reverse ++ rest = st0) (hM0 : M.2.2.2.2.2.1 = []) (k : ∀ v x', F = some (.inl v, x') → K v x' = some ρ → AW E R M (q_cells E c d x') 0 0 n lv ((bif vd' then [] else [.int v]) ++ rest) (q_rT E c d vd ρ)) : AW E R M (q_cells E c d x) 0 0 pc lv st0 (q_rT E c d vd ρ) := by
  subst hs
  cases hF : F with
  | none => rw [hF] at h; cases h
  | some v =>
    obtain ⟨v, x'⟩ := v
    cases v with
    | inl v =>
      have hk' := k v x' hF (by rw [hF] at h; exact h)
      cases vd' with
      | true => exact q_call n (hM _ hF) hI hk hro hst hd hn (Or.inl hy0) hk'
      | false => exact q_call n (hM _ hF) hI hk hro hst hd hn (Or.inl hy0) hk'
    | inr kx =>
      rw [hF] at h
      cases h
      exact q_callT (hM _ hF) hI hk hro hst hd (Or.inl hy0) (q_no hM0) (by decide) (by decide)
end QX
end
section
def f_Li_byteOf (x : q_W) (a0 : Int32) (a1 : Int32) : Option Int32 :=
  some ((((a0).toUInt32 >>> (((8 * a1)).toUInt32 &&& Int32.toUInt32 31)).toInt32) &&& 255)
def f_Li_append_L15 : Nat → q_W → Int32 → Int32 → Int32 → Option (Int32 × q_W)
  | 0 => fun _ _ _ _ => none
  | n + 1 => fun x v1 v2 v3 =>
    if v2 ≤ v3 then
      q_let (q_wr x 1 1 ((x.2 1 1) + v2)) fun x2 =>
      some ((q_nb 1), x2)
    else
      (f_Li_byteOf x v1 v3).bind fun w3 =>
      (q_sto x 2 18 ((x.2 1 1) + v3) (vp_nar .char ((w3.toUInt32 % 65536).toInt32))).bind fun x4 =>
      ((f_Li_append_L15  n) x4 v1 v2 (v3 + 1))
def f_Li_append (x : q_W) (a1 : Int32) (a2 : Int32) : Option (Int32 × q_W) :=
  if ((x.2 1 1) + a2) ≤ 18 then
    (f_Li_append_L15  q_fu x a1 a2 0)
  else
    some ((q_nb 0), x)
def f_Li_areVisible_L2 : Nat → q_W → Int32 → Int32 → Int32 → Option Int32
  | 0 => fun _ _ _ _ => none
  | n + 1 => fun x v0 v1 v2 =>
    if v1 ≤ v2 then
      some (q_nb 1)
    else
      (f_Li_byteOf x v0 v2).bind fun w1 =>
      if w1 < 33 then
        some (q_nb 0)
      else
        if w1 ≤ 126 then
          ((f_Li_areVisible_L2  n) x v0 v1 (v2 + 1))
        else
          some (q_nb 0)
def f_Li_areVisible (x : q_W) (a0 : Int32) (a1 : Int32) : Option Int32 :=
  (f_Li_areVisible_L2  q_fu x a0 a1 0)
def f_Li_countTyped_L2 : Nat → q_W → Int32 → Int32 → Option Int32
  | 0 => fun _ _ _ => none
  | n + 1 => fun x v0 v1 =>
    if 4 ≤ v1 then
      some v1
    else
      (f_Li_byteOf x v0 v1).bind fun w1 =>
      if w1 = 0 then
        some v1
      else
        ((f_Li_countTyped_L2  n) x v0 (v1 + 1))
def f_Li_countTyped (x : q_W) (a0 : Int32) : Option Int32 :=
  (f_Li_countTyped_L2  q_fu x a0 0)
def f_D_type (c d : Nat) (x : q_W) (a1 : Int32) : Option ((Int32 ⊕ Nat) × q_W) :=
  (f_Li_countTyped x a1).bind fun w1 =>
  (f_Li_areVisible x a1 w1).bind fun w2 =>
  if ¬ w2 = 0 then
    (f_Li_append x a1 w1).bind fun q3 =>
    some (.inl (q_nb q3.1), q3.2)
  else
    some (.inr 0, x)
def f_Fo_size (f : Nat) (x : q_W) : Option Int32 :=
  some (x.2 f 7)
def f_Li_clear (x : q_W) : Option q_W :=
  q_let (q_wr x 1 1 0) fun x1 =>
  some x1
def f_Fo_clear (f : Nat) (x : q_W) : Option q_W :=
  q_let (q_wr x f 7 0) fun x1 =>
  q_let (q_wr x1 f 8 0) fun x2 =>
  q_let (q_wr x2 f 9 0) fun x3 =>
  some x3
def f_Fo_listPromises_L7 (f : Nat) : Nat → q_W → Int32 → Option q_W
  | 0 => fun _ _ => none
  | n + 1 => fun x v1 =>
    if x.2 f 8 ≤ v1 then
      some x
    else
      if 5 ≤ v1 then
        some x
      else
        (q_ld x (f + 5) 5 v1).bind fun w2 =>
        (q_ld x (f + 1) 18 w2).bind fun w3 =>
        if w3 = 88 then
          ((f_Fo_listPromises_L7 f n) x (v1 + 1))
        else
          (q_ld x (f + 5) 5 v1).bind fun w4 =>
          (q_sto x (f + 6) 5 (x.2 f 9) w4).bind fun x5 =>
          q_let (q_wr x5 f 9 ((x5.2 f 9) + 1)) fun x6 =>
          ((f_Fo_listPromises_L7 f n) x6 (v1 + 1))
def f_Fo_listPromises (f : Nat) (x : q_W) : Option q_W :=
  q_let (q_wr x f 9 0) fun x1 =>
  (f_Fo_listPromises_L7 f q_fu x1 0)
def f_D_isTemporal (x : q_W) (a0 : Int32) : Option Int32 :=
  if a0 = 88 then
    some (q_nb 1)
  else
    if a0 = 70 then
      some (q_nb 1)
    else
      if a0 = 71 then
        some (q_nb 1)
      else
        if a0 = 85 then
          some (q_nb 1)
        else
          if ¬ a0 = 82 then
            some (q_nb 0)
          else
            some (q_nb 1)
def f_Fo_add_J86 (f : Nat) (x : q_W) : Option (Int32 × q_W) :=
  q_let (q_wr x f 7 ((x.2 f 7) + 1)) fun x11 =>
  some (((x11.2 f 7) - 1), x11)
def f_Fo_add (f : Nat) (x : q_W) (a1 : Int32) (a2 : Int32) (a3 : Int32) (a4 : Int32) : Option (Int32 × q_W) :=
  if x.2 f 7 < 18 then
    (q_sto x (f + 1) 18 (x.2 f 7) a1).bind fun x1 =>
    (q_sto x1 (f + 2) 18 (x1.2 f 7) a2).bind fun x2 =>
    (q_sto x2 (f + 3) 18 (x2.2 f 7) a3).bind fun x3 =>
    (q_sto x3 (f + 4) 18 (x3.2 f 7) a4).bind fun x4 =>
    (f_D_isTemporal x4 a1).bind fun w5 =>
    if w5 = 0 then
      (f_Fo_add_J86 f x4 )
    else
      if 5 ≤ a4 then
        (f_Fo_add_J86 f x4 )
      else
        (q_sto x4 (f + 5) 5 a4 (x4.2 f 7)).bind fun x6 =>
        q_let (q_wr x6 f 8 ((x6.2 f 8) + 1)) fun x7 =>
        (f_Fo_add_J86 f x7 )
  else
    some ((-1), x)
def f_Li_levelJoinedBy (x : q_W) (a0 : Int32) : Option Int32 :=
  if a0 = 38 then
    some 2
  else if a0 = 62 then
    some 0
  else if a0 = 82 then
    some 3
  else if a0 = 85 then
    some 3
  else if a0 = 124 then
    some 1
  else 
    some (-1)
def f_Li_signAt (x : q_W) (a1 : Int32) : Option Int32 :=
  if a1 < 0 then
    some 0
  else
    if x.2 1 1 ≤ a1 then
      some 0
    else
      (q_ld x 2 18 a1).bind fun w1 =>
      some w1
def f_Li_readBracket (REC : Nat → Int32 → Int32 → q_W → Option (Int32 × q_W)) (f : Nat) (x : q_W) (a2 : Int32) : Option (Int32 × q_W) :=
  (REC 0 0 a2 x).bind fun q1 =>
  (f_Li_signAt q1.2 (q1.2.2 1 2)).bind fun w2 =>
  if w2 = 41 then
    q_let (q_wr q1.2 1 2 ((q1.2.2 1 2) + 1)) fun x3 =>
    some (q1.1, x3)
  else
    some ((-1), q1.2)
def f_Li_temporalsBefore_L4 : Nat → q_W → Int32 → Int32 → Int32 → Option Int32
  | 0 => fun _ _ _ _ => none
  | n + 1 => fun x v1 v2 v3 =>
    if v1 ≤ v3 then
      some v2
    else
      (f_Li_signAt x v3).bind fun w1 =>
      (f_D_isTemporal x w1).bind fun w2 =>
      if w2 = 0 then
        ((f_Li_temporalsBefore_L4  n) x v1 v2 (v3 + 1))
      else
        ((f_Li_temporalsBefore_L4  n) x v1 (v2 + 1) (v3 + 1))
def f_Li_temporalsBefore (x : q_W) (a1 : Int32) : Option Int32 :=
  (f_Li_temporalsBefore_L4  q_fu x a1 0 0)
def f_Li_readSimple_J130 (REC : Nat → Int32 → Int32 → q_W → Option (Int32 × q_W)) (f : Nat) (x : q_W) (v2 : Int32) (v3 : Int32) (v4 : Int32) : Option (Int32 × q_W) :=
  (REC 1 v2 0 x).bind fun q16 =>
  if ¬ q16.1 = (-1) then
    (f_Fo_add f q16.2 v3 q16.1 q16.1 v4).bind fun q17 =>
    some (q17.1, q17.2)
  else
    some ((-1), q16.2)
def f_Li_readSimple_J120 (REC : Nat → Int32 → Int32 → q_W → Option (Int32 × q_W)) (f : Nat) (x : q_W) (v3 : Int32) (v4 : Int32) : Option (Int32 × q_W) :=
  (f_Fo_add f x v3 0 0 v4).bind fun q19 =>
  some (q19.1, q19.2)
def f_Li_readSimple (REC : Nat → Int32 → Int32 → q_W → Option (Int32 × q_W)) (f : Nat) (x : q_W) (a2 : Int32) : Option (Int32 × q_W) :=
  (f_Li_signAt x (x.2 1 2)).bind fun w1 =>
  (f_Li_temporalsBefore x (x.2 1 2)).bind fun w2 =>
  q_let (q_wr x 1 2 ((x.2 1 2) + 1)) fun x3 =>
  if w1 = 33 then
    (f_Li_readSimple_J130 REC f x3 a2 w1 w2)
  else if w1 = 40 then
    if a2 < 4 then
      (REC 2 (a2 + 1) 0 x3).bind fun q6 =>
      some (q6.1, q6.2)
    else
      some ((-1), x3)
  else if w1 = 48 then
    (f_Li_readSimple_J120 REC f x3 w1 w2)
  else if w1 = 49 then
    (f_Li_readSimple_J120 REC f x3 w1 w2)
  else if w1 = 70 then
    (f_Li_readSimple_J130 REC f x3 a2 w1 w2)
  else if w1 = 71 then
    (f_Li_readSimple_J130 REC f x3 a2 w1 w2)
  else if w1 = 88 then
    (f_Li_readSimple_J130 REC f x3 a2 w1 w2)
  else if w1 = 97 then
    (f_Li_readSimple_J120 REC f x3 w1 w2)
  else if w1 = 98 then
    (f_Li_readSimple_J120 REC f x3 w1 w2)
  else if w1 = 99 then
    (f_Li_readSimple_J120 REC f x3 w1 w2)
  else 
    some ((-1), x3)
def f_Li_readLevel (REC : Nat → Int32 → Int32 → q_W → Option (Int32 × q_W)) (f : Nat) (x : q_W) (a2 : Int32) (a3 : Int32) : Option (Int32 × q_W) :=
  if a2 < 4 then
    (REC 0 (a2 + 1) a3 x).bind fun q1 =>
    (f_Li_signAt q1.2 (q1.2.2 1 2)).bind fun w2 =>
    if q1.1 = (-1) then
      some (q1.1, q1.2)
    else
      (f_Li_levelJoinedBy q1.2 w2).bind fun w3 =>
      if w3 = a2 then
        (f_Li_temporalsBefore q1.2 (q1.2.2 1 2)).bind fun w4 =>
        q_let (q_wr q1.2 1 2 ((q1.2.2 1 2) + 1)) fun x5 =>
        (REC 0 a2 a3 x5).bind fun q6 =>
        if ¬ q6.1 = (-1) then
          (f_Fo_add f q6.2 w2 q1.1 q6.1 w4).bind fun q7 =>
          some (q7.1, q7.2)
        else
          some ((-1), q6.2)
      else
        some (q1.1, q1.2)
  else
    (REC 1 a3 0 x).bind fun q11 =>
    some (q11.1, q11.2)
def f_Li_readInto (f : Nat) (x : q_W) : Option (Int32 × q_W) :=
  (f_Fo_clear f x).bind fun x1 =>
  q_let (q_wr x1 1 2 0) fun x2 =>
  (f_Li_temporalsBefore x2 (x2.2 1 1)).bind fun w3 =>
  if w3 ≤ 5 then
    (f_read f 70 0 0 0 x2).bind fun q4 =>
    if q4.1 = (-1) then
      some ((q_nb 0), q4.2)
    else
      if q4.2.2 1 2 = q4.2.2 1 1 then
        (f_Fo_listPromises f q4.2).bind fun x5 =>
        some ((q_nb 1), x5)
      else
        some ((q_nb 0), q4.2)
  else
    some ((q_nb 0), x2)
def f_D_formula (c d : Nat) (x : q_W) : Option ((Int32 ⊕ Nat) × (Nat × Nat × q_W)) :=
  (f_Li_readInto d x).bind fun q1 =>
  (f_Li_clear q1.2).bind fun x2 =>
  if ¬ q1.1 = 0 then
    q_let (q_wr x2 0 6 1) fun x3 =>
    q_let (q_wr x3 0 7 0) fun x4 =>
    (f_Fo_size d x4).bind fun w5 =>
    some (.inl w5, (d, c, x4))
  else
    some (.inr 0, (c, d, x2))
def f_D_requireFormula (c d : Nat) (x : q_W) : Option (Int32 ⊕ Nat) :=
  if ¬ x.2 0 6 = 0 then
    some (.inl 0)
  else
    some (.inr 1)
def f_Fo_stateCount (f : Nat) (x : q_W) : Option Int32 :=
  some (8 <<< ((x.2 f 8) &&& 31))
def f_D_states (c d : Nat) (x : q_W) : Option (Int32 ⊕ Nat) :=
  q_tpp (f_D_requireFormula c d x) fun w1 =>
  (f_Fo_stateCount c x).bind fun w3 =>
  some (.inl w3)
def f_D_requireState (c d : Nat) (x : q_W) (a1 : Int32) : Option (Int32 ⊕ Nat) :=
  if a1 < 0 then
    some (.inr 2)
  else
    (f_Fo_stateCount c x).bind fun w1 =>
    if a1 < w1 then
      some (.inl 0)
    else
      some (.inr 2)
def f_D_hasBit (x : q_W) (a0 : Int32) (a1 : Int32) : Option Int32 :=
  if ((a0 >>> (a1 &&& 31)) &&& 1) = 0 then
    some (q_nb 0)
  else
    some (q_nb 1)
def f_Fo_isWholeIn (f : Nat) (x : q_W) (a1 : Int32) : Option Int32 :=
  (f_D_hasBit x a1 ((x.2 f 7) - 1)).bind fun w1 =>
  some (q_nb w1)
def f_Fo_isPartAt (f : Nat) (x : q_W) (a1 : Int32) (a2 : Int32) (a3 : Int32) : Option Int32 :=
  (q_ld x (f + 2) 18 a1).bind fun w1 =>
  (f_D_hasBit x a3 w1).bind fun w2 =>
  (q_ld x (f + 3) 18 a1).bind fun w3 =>
  (f_D_hasBit x a3 w3).bind fun w4 =>
  (q_ld x (f + 4) 18 a1).bind fun w5 =>
  (f_D_hasBit x a2 (3 + w5)).bind fun w6 =>
  (q_ld x (f + 1) 18 a1).bind fun w7 =>
  if w7 = 33 then
    if ¬ w4 = 0 then
      some (q_nb 0)
    else
      some (q_nb 1)
  else if w7 = 38 then
    if w2 = 0 then
      some (q_nb 0)
    else
      if w4 = 0 then
        some (q_nb 0)
      else
        some (q_nb 1)
  else if w7 = 49 then
    some (q_nb 1)
  else if w7 = 62 then
    if w2 = 0 then
      some (q_nb 1)
    else
      if w4 = 0 then
        some (q_nb 0)
      else
        some (q_nb 1)
  else if w7 = 70 then
    if ¬ w4 = 0 then
      some (q_nb 1)
    else
      if w6 = 0 then
        some (q_nb 0)
      else
        some (q_nb 1)
  else if w7 = 71 then
    if w4 = 0 then
      some (q_nb 0)
    else
      if w6 = 0 then
        some (q_nb 0)
      else
        some (q_nb 1)
  else if w7 = 82 then
    if w4 = 0 then
      some (q_nb 0)
    else
      if ¬ w2 = 0 then
        some (q_nb 1)
      else
        if w6 = 0 then
          some (q_nb 0)
        else
          some (q_nb 1)
  else if w7 = 85 then
    if ¬ w4 = 0 then
      some (q_nb 1)
    else
      if w2 = 0 then
        some (q_nb 0)
      else
        if w6 = 0 then
          some (q_nb 0)
        else
          some (q_nb 1)
  else if w7 = 88 then
    some (q_nb w6)
  else if w7 = 97 then
    (f_D_hasBit x a2 0).bind fun w33 =>
    some (q_nb w33)
  else if w7 = 98 then
    (f_D_hasBit x a2 1).bind fun w35 =>
    some (q_nb w35)
  else if w7 = 99 then
    (f_D_hasBit x a2 2).bind fun w37 =>
    some (q_nb w37)
  else if w7 = 124 then
    if ¬ w2 = 0 then
      some (q_nb 1)
    else
      if w4 = 0 then
        some (q_nb 0)
      else
        some (q_nb 1)
  else 
    some (q_nb 0)
def f_Fo_partsAt_L4 (f : Nat) : Nat → q_W → Int32 → Int32 → Int32 → Option Int32
  | 0 => fun _ _ _ _ => none
  | n + 1 => fun x v1 v2 v3 =>
    if x.2 f 7 ≤ v3 then
      some v2
    else
      (f_Fo_isPartAt f x v3 v1 v2).bind fun w1 =>
      if w1 = 0 then
        ((f_Fo_partsAt_L4 f n) x v1 v2 (v3 + 1))
      else
        q_let ((v2 ||| (1 <<< (v3 &&& 31)))) fun v2 =>
        ((f_Fo_partsAt_L4 f n) x v1 v2 (v3 + 1))
def f_Fo_partsAt (f : Nat) (x : q_W) (a1 : Int32) : Option Int32 :=
  (f_Fo_partsAt_L4 f q_fu x a1 0 0)
def f_D_isAt (c d : Nat) (x : q_W) (a1 : Int32) : Option (Int32 ⊕ Nat) :=
  q_tpp (f_D_requireFormula c d x) fun w1 =>
  q_tpp (f_D_requireState c d x a1) fun w3 =>
  (f_Fo_partsAt c x a1).bind fun w5 =>
  (f_Fo_isWholeIn c x w5).bind fun w6 =>
  some (.inl (q_nb w6))
def f_Fo_expectedBefore_J45 (f : Nat) (K4 : q_W → Int32 → Int32 → Int32 → Option Int32) (x : q_W) (v1 : Int32) (v2 : Int32) (v3 : Int32) (s0 : Int32) (s1 : Int32) : Option Int32 :=
  (f_D_hasBit x s1 s0).bind fun w6 =>
  if w6 = 0 then
    (K4 x v1 v2 (v3 + 1))
  else
    q_let ((v2 ||| (1 <<< (v3 &&& 31)))) fun v7 =>
    (K4 x v1 v7 (v3 + 1))
def f_Fo_expectedBefore_L4 (f : Nat) : Nat → q_W → Int32 → Int32 → Int32 → Option Int32
  | 0 => fun _ _ _ _ => none
  | n + 1 => fun x v1 v2 v3 =>
    if x.2 f 8 ≤ v3 then
      some v2
    else
      (q_ld x (f + 5) 5 v3).bind fun w1 =>
      (q_ld x (f + 1) 18 w1).bind fun w2 =>
      if ¬ w2 = 88 then
        (f_Fo_expectedBefore_J45 f (f_Fo_expectedBefore_L4 f n) x v1 v2 v3 w1 v1)
      else
        (q_ld x (f + 3) 18 w1).bind fun w3 =>
        (f_Fo_expectedBefore_J45 f (f_Fo_expectedBefore_L4 f n) x v1 v2 v3 w3 v1)
def f_Fo_expectedBefore (f : Nat) (x : q_W) (a1 : Int32) : Option Int32 :=
  (f_Fo_expectedBefore_L4 f q_fu x a1 0 0)
def f_D_leads (c d : Nat) (x : q_W) (a1 : Int32) (a2 : Int32) : Option (Int32 ⊕ Nat) :=
  q_tpp (f_D_requireFormula c d x) fun w1 =>
  q_tpp (f_D_requireState c d x a1) fun w3 =>
  q_tpp (f_D_requireState c d x a2) fun w5 =>
  (f_Fo_partsAt c x a2).bind fun w7 =>
  (f_Fo_expectedBefore c x w7).bind fun w8 =>
  if ¬ (a1 >>> (3 &&& 31)) = w8 then
    some (.inl (q_nb 0))
  else
    some (.inl (q_nb 1))
def f_La_reachBefore_L17 : Nat → q_W → Int32 → Int32 → Int32 → Int32 → Int32 → Option (Int32 × q_W)
  | 0 => fun _ _ _ _ _ _ => none
  | n + 1 => fun x v1 v2 v4 v5 v6 =>
    if (v5 + 8) ≤ v6 then
      some (v4, x)
    else
      (q_ld x 8 256 v6).bind fun w3 =>
      if w3 = 0 then
        ((f_La_reachBefore_L17  n) x v1 v2 v4 v5 (v6 + 1))
      else
        (q_ld x 9 1280 (v2 + v6)).bind fun w4 =>
        if ¬ w4 = (-1) then
          ((f_La_reachBefore_L17  n) x v1 v2 v4 v5 (v6 + 1))
        else
          (q_ld x 9 1280 (v2 + v1)).bind fun w5 =>
          (q_sto x 9 1280 (v2 + v6) (w5 + 1)).bind fun x6 =>
          (q_sto x6 10 256 v4 v6).bind fun x7 =>
          ((f_La_reachBefore_L17  n) x7 v1 v2 (v4 + 1) v5 (v6 + 1))
def f_La_reachBefore (x : q_W) (a1 : Int32) (a2 : Int32) (a3 : Int32) : Option (Int32 × q_W) :=
  (q_ld x 4 256 a1).bind fun w1 =>
  q_let ((w1 <<< (3 &&& 31))) fun v2 =>
  (f_La_reachBefore_L17  q_fu x a1 a2 a3 v2 v2)
def f_La_countSteps_L95 : Nat → q_W → Int32 → Int32 → Int32 → Option q_W
  | 0 => fun _ _ _ _ => none
  | n + 1 => fun x v2 v3 v4 =>
    if v3 ≤ v4 then
      some x
    else
      if x.2 3 7 ≤ v4 then
        some x
      else
        (q_ld x 10 256 v4).bind fun w8 =>
        (f_La_reachBefore x w8 v2 v3).bind fun q9 =>
        ((f_La_countSteps_L95  n) q9.2 v2 q9.1 (v4 + 1))
def f_La_countSteps_J69 (K11 : q_W → Int32 → Int32 → Int32 → Int32 → Option q_W) (x : q_W) (v1 : Int32) (v2 : Int32) (v3 : Int32) (v4 : Int32) (v5 : Int32) (s0 : Int32) (s1 : Int32) : Option q_W :=
  (q_sto x 9 1280 s1 s0).bind fun x13 =>
  if v5 = 0 then
    (K11 x13 v1 v2 v3 (v4 + 1))
  else
    (q_sto x13 10 256 v3 v4).bind fun x14 =>
    (K11 x14 v1 v2 (v3 + 1) (v4 + 1))
def f_La_countSteps_J49 (K11 : q_W → Int32 → Int32 → Int32 → Int32 → Option q_W) (x : q_W) (v1 : Int32) (v2 : Int32) (v3 : Int32) (v4 : Int32) (s0 : Int32) : Option q_W :=
  if s0 = 0 then
    (f_La_countSteps_J69 K11 x v1 v2 v3 v4 s0 (-1) (v2 + v4))
  else
    (f_La_countSteps_J69 K11 x v1 v2 v3 v4 s0 0 (v2 + v4))
def f_La_countSteps_J48 (K11 : q_W → Int32 → Int32 → Int32 → Int32 → Option q_W) (x : q_W) (v1 : Int32) (v2 : Int32) (v3 : Int32) (v4 : Int32) : Option q_W :=
  (f_La_countSteps_J49 K11 x v1 v2 v3 v4 0)
def f_La_countSteps_L11 : Nat → q_W → Int32 → Int32 → Int32 → Int32 → Option q_W
  | 0 => fun _ _ _ _ _ => none
  | n + 1 => fun x v1 v2 v3 v4 =>
    if x.2 3 7 ≤ v4 then
      (f_La_countSteps_L95  q_fu x v2 v3 0)
    else
      (q_ld x 8 256 v4).bind fun w2 =>
      if w2 = 0 then
        (f_La_countSteps_J48 (f_La_countSteps_L11  n) x v1 v2 v3 v4)
      else
        (q_ld x 5 256 v4).bind fun w3 =>
        (f_D_hasBit x w3 v1).bind fun w4 =>
        if w4 = 0 then
          (f_La_countSteps_J48 (f_La_countSteps_L11  n) x v1 v2 v3 v4)
        else
          (f_La_countSteps_J49 (f_La_countSteps_L11  n) x v1 v2 v3 v4 1)
def f_La_countSteps (x : q_W) (a1 : Int32) : Option q_W :=
  q_let ((a1 * 256)) fun v1 =>
  (f_La_countSteps_L11  q_fu x a1 v1 0 0)
def f_Fo_isForOnce (f : Nat) (x : q_W) (a1 : Int32) : Option Int32 :=
  (q_ld x (f + 1) 18 a1).bind fun w1 =>
  if w1 = 70 then
    some (q_nb 1)
  else
    (q_ld x (f + 1) 18 a1).bind fun w2 =>
    if ¬ w2 = 85 then
      some (q_nb 0)
    else
      some (q_nb 1)
def f_Fo_keptIn_L4 (f : Nat) : Nat → q_W → Int32 → Int32 → Int32 → Option Int32
  | 0 => fun _ _ _ _ => none
  | n + 1 => fun x v1 v2 v3 =>
    if x.2 f 9 ≤ v3 then
      some v2
    else
      (q_ld x (f + 6) 5 v3).bind fun w1 =>
      (q_ld x (f + 3) 18 w1).bind fun w2 =>
      (f_D_hasBit x v1 w2).bind fun w3 =>
      (f_Fo_isForOnce f x w1).bind fun w4 =>
      if ¬ w3 = w4 then
        ((f_Fo_keptIn_L4 f n) x v1 v2 (v3 + 1))
      else
        q_let ((v2 ||| (1 <<< (v3 &&& 31)))) fun v5 =>
        ((f_Fo_keptIn_L4 f n) x v1 v5 (v3 + 1))
def f_Fo_keptIn (f : Nat) (x : q_W) (a1 : Int32) : Option Int32 :=
  (f_Fo_keptIn_L4 f q_fu x a1 0 0)
def f_Fo_openIn_L4 (f : Nat) : Nat → q_W → Int32 → Int32 → Int32 → Option Int32
  | 0 => fun _ _ _ _ => none
  | n + 1 => fun x v1 v2 v3 =>
    if x.2 f 9 ≤ v3 then
      some v2
    else
      (q_ld x (f + 6) 5 v3).bind fun w1 =>
      (f_D_hasBit x v1 w1).bind fun w2 =>
      (f_Fo_isForOnce f x w1).bind fun w3 =>
      if ¬ w2 = w3 then
        ((f_Fo_openIn_L4 f n) x v1 v2 (v3 + 1))
      else
        q_let ((v2 ||| (1 <<< (v3 &&& 31)))) fun v4 =>
        ((f_Fo_openIn_L4 f n) x v1 v4 (v3 + 1))
def f_Fo_openIn (f : Nat) (x : q_W) (a1 : Int32) : Option Int32 :=
  (f_Fo_openIn_L4 f q_fu x a1 0 0)
def f_Fo_promiseCount (f : Nat) (x : q_W) : Option Int32 :=
  some (x.2 f 9)
def f_La_lookAtStates_L26 (f : Nat) : Nat → q_W → Int32 → Option q_W
  | 0 => fun _ _ => none
  | n + 1 => fun x v2 =>
    if x.2 3 7 ≤ v2 then
      some x
    else
      (f_Fo_partsAt f x v2).bind fun w6 =>
      (f_Fo_expectedBefore f x w6).bind fun w7 =>
      (q_sto x 4 256 v2 w7).bind fun x8 =>
      (f_Fo_keptIn f x8 w6).bind fun w9 =>
      (q_sto x8 5 256 v2 w9).bind fun x10 =>
      (f_Fo_openIn f x10 w6).bind fun w11 =>
      (q_ld x10 5 256 v2).bind fun w12 =>
      (q_sto x10 6 256 v2 (w11 &&& (w12 ^^^ (-1)))).bind fun x13 =>
      (f_Fo_isWholeIn f x13 w6).bind fun w14 =>
      (q_sto x13 7 256 v2 (vp_nar .boolean w14)).bind fun x15 =>
      (q_sto x15 8 256 v2 (vp_nar .boolean 1)).bind fun x16 =>
      ((f_La_lookAtStates_L26 f n) x16 (v2 + 1))
def f_La_lookAtStates (f : Nat) (x : q_W) : Option q_W :=
  (f_Fo_stateCount f x).bind fun w1 =>
  q_let (q_wr x 3 7 w1) fun x2 =>
  (f_Fo_promiseCount f x2).bind fun w3 =>
  q_let (q_wr x2 3 8 w3) fun x4 =>
  q_let (q_wr x4 3 9 (x4.2 3 7)) fun x5 =>
  (f_La_lookAtStates_L26 f q_fu x5 0)
def f_La_takeAway (x : q_W) (a1 : Int32) : Option q_W :=
  (q_sto x 8 256 a1 (vp_nar .boolean 0)).bind fun x1 =>
  q_let (q_wr x1 3 9 ((x1.2 3 9) - 1)) fun x2 =>
  some x2
def f_La_sweepDeadEnds_L40 : Nat → q_W → Int32 → Int32 → Option q_W
  | 0 => fun _ _ _ => none
  | n + 1 => fun x v1 v2 =>
    if x.2 3 7 ≤ v2 then
      some x
    else
      (q_ld x 8 256 v2).bind fun w6 =>
      if w6 = 0 then
        ((f_La_sweepDeadEnds_L40  n) x v1 (v2 + 1))
      else
        (f_D_hasBit x v1 (v2 >>> (3 &&& 31))).bind fun w7 =>
        if ¬ w7 = 0 then
          ((f_La_sweepDeadEnds_L40  n) x v1 (v2 + 1))
        else
          (f_La_takeAway x v2).bind fun x8 =>
          ((f_La_sweepDeadEnds_L40  n) x8 v1 (v2 + 1))
def f_La_sweepDeadEnds_L4 : Nat → q_W → Int32 → Int32 → Option q_W
  | 0 => fun _ _ _ => none
  | n + 1 => fun x v1 v2 =>
    if x.2 3 7 ≤ v2 then
      (f_La_sweepDeadEnds_L40  q_fu x v1 0)
    else
      (q_ld x 8 256 v2).bind fun w1 =>
      if w1 = 0 then
        ((f_La_sweepDeadEnds_L4  n) x v1 (v2 + 1))
      else
        (q_ld x 4 256 v2).bind fun w2 =>
        q_let ((v1 ||| (1 <<< (w2 &&& 31)))) fun v3 =>
        ((f_La_sweepDeadEnds_L4  n) x v3 (v2 + 1))
def f_La_sweepDeadEnds (x : q_W) : Option q_W :=
  (f_La_sweepDeadEnds_L4  q_fu x 0 0)
def f_La_stepsFrom (x : q_W) (a1 : Int32) (a2 : Int32) : Option Int32 :=
  (q_ld x 9 1280 ((a2 * 256) + a1)).bind fun w1 =>
  some w1
def f_La_sweepUnkept_L2 : Nat → q_W → Int32 → Int32 → Option q_W
  | 0 => fun _ _ _ => none
  | n + 1 => fun x v1 v2 =>
    if x.2 3 7 ≤ v2 then
      some x
    else
      (q_ld x 8 256 v2).bind fun w1 =>
      if w1 = 0 then
        ((f_La_sweepUnkept_L2  n) x v1 (v2 + 1))
      else
        (q_ld x 6 256 v2).bind fun w2 =>
        (f_D_hasBit x w2 v1).bind fun w3 =>
        if w3 = 0 then
          ((f_La_sweepUnkept_L2  n) x v1 (v2 + 1))
        else
          (f_La_stepsFrom x v2 v1).bind fun w4 =>
          if ¬ w4 = (-1) then
            ((f_La_sweepUnkept_L2  n) x v1 (v2 + 1))
          else
            (f_La_takeAway x v2).bind fun x5 =>
            ((f_La_sweepUnkept_L2  n) x5 v1 (v2 + 1))
def f_La_sweepUnkept (x : q_W) (a1 : Int32) : Option q_W :=
  (f_La_sweepUnkept_L2  q_fu x a1 0)
def f_La_find_L33 (f : Nat) (K9 : q_W → Int32 → Int32 → Option q_W) (E33 : q_W → Int32 → Int32 → Option q_W) : Nat → q_W → Int32 → Int32 → Int32 → Option q_W
  | 0 => fun _ _ _ _ => none
  | n + 1 => fun x v3 v4 v5 =>
    if x.2 3 8 ≤ v5 then
      (E33 x v3 v4)
    else
      (f_La_countSteps x v5).bind fun x10 =>
      (f_La_sweepUnkept x10 v5).bind fun x11 =>
      ((f_La_find_L33 f K9 E33 n) x11 v3 v4 (v5 + 1))
def f_La_find_L9 (f : Nat) : Nat → q_W → Int32 → Int32 → Option q_W
  | 0 => fun _ _ _ => none
  | n + 1 => fun x v2 v3 =>
    if v2 = 0 then
      some x
    else
      if 256 < v3 then
        some x
      else
        q_let (x.2 3 9) fun v2 =>
        (f_La_sweepDeadEnds x).bind fun x3 =>
        (f_La_find_L33 f (f_La_find_L9 f n) (fun x4 u5 u6 => if u6 ≤ x4.2 3 9 then
          ((f_La_find_L9 f n) x4 0 (u5 + 1))
        else
          ((f_La_find_L9 f n) x4 1 (u5 + 1))) q_fu x3 v3 v2 0)
def f_La_find (f : Nat) (x : q_W) : Option q_W :=
  (f_La_lookAtStates f x).bind fun x1 =>
  (f_La_find_L9 f q_fu x1 1 0)
def f_La_dutyFrom_L5 : Nat → q_W → Int32 → Int32 → Int32 → Int32 → Option Int32
  | 0 => fun _ _ _ _ _ => none
  | n + 1 => fun x v1 v2 v3 v4 =>
    if x.2 3 8 ≤ v4 then
      some v2
    else
      (q_ld x 6 256 v1).bind fun w1 =>
      (f_D_hasBit x w1 v3).bind fun w2 =>
      if w2 = 0 then
        if x.2 3 8 ≤ (v3 + 1) then
          ((f_La_dutyFrom_L5  n) x v1 v2 0 (v4 + 1))
        else
          q_let ((v3 + 1)) fun v3 =>
          ((f_La_dutyFrom_L5  n) x v1 v2 v3 (v4 + 1))
      else
        some v3
def f_La_dutyFrom (x : q_W) (a1 : Int32) (a2 : Int32) : Option Int32 :=
  (f_La_dutyFrom_L5  q_fu x a1 a2 a2 0)
def f_La_leastWhole_L2 : Nat → q_W → Int32 → Option Int32
  | 0 => fun _ _ => none
  | n + 1 => fun x v1 =>
    if x.2 3 7 ≤ v1 then
      some (-1)
    else
      (q_ld x 8 256 v1).bind fun w1 =>
      if w1 = 0 then
        ((f_La_leastWhole_L2  n) x (v1 + 1))
      else
        (q_ld x 7 256 v1).bind fun w2 =>
        if w2 = 0 then
          ((f_La_leastWhole_L2  n) x (v1 + 1))
        else
          some v1
def f_La_leastWhole (x : q_W) : Option Int32 :=
  (f_La_leastWhole_L2  q_fu x 0)
def f_La_isNearer (x : q_W) (a1 : Int32) (a2 : Int32) (a3 : Int32) : Option Int32 :=
  (f_La_stepsFrom x a2 a3).bind fun w1 =>
  (f_La_stepsFrom x a1 a3).bind fun w2 =>
  if w2 = (-1) then
    some (q_nb 0)
  else
    if w1 = (-1) then
      some (q_nb 1)
    else
      if w1 ≤ w2 then
        some (q_nb 0)
      else
        some (q_nb 1)
def f_La_nextFrom_J54 (K17 : q_W → Int32 → Int32 → Int32 → Int32 → Int32 → Option Int32) (x : q_W) (v1 : Int32) (v2 : Int32) (v3 : Int32) (v4 : Int32) (v5 : Int32) (s0 : Int32) : Option Int32 :=
  if s0 = 0 then
    (K17 x v1 v2 v3 v4 (v5 + 1))
  else
    if v4 = (-1) then
      (K17 x v1 v2 v3 v5 (v5 + 1))
    else
      if v3 = 0 then
        (K17 x v1 v2 v3 v4 (v5 + 1))
      else
        (f_La_isNearer x v5 v4 v2).bind fun w8 =>
        if w8 = 0 then
          (K17 x v1 v2 v3 v4 (v5 + 1))
        else
          (K17 x v1 v2 v3 v5 (v5 + 1))
def f_La_nextFrom_J53 (K17 : q_W → Int32 → Int32 → Int32 → Int32 → Int32 → Option Int32) (x : q_W) (v1 : Int32) (v2 : Int32) (v3 : Int32) (v4 : Int32) (v5 : Int32) : Option Int32 :=
  (f_La_nextFrom_J54 K17 x v1 v2 v3 v4 v5 0)
def f_La_nextFrom_L17 : Nat → q_W → Int32 → Int32 → Int32 → Int32 → Int32 → Option Int32
  | 0 => fun _ _ _ _ _ _ => none
  | n + 1 => fun x v1 v2 v3 v4 v5 =>
    if x.2 3 7 ≤ v5 then
      some v4
    else
      (q_ld x 8 256 v5).bind fun w3 =>
      if w3 = 0 then
        (f_La_nextFrom_J53 (f_La_nextFrom_L17  n) x v1 v2 v3 v4 v5)
      else
        (q_ld x 4 256 v5).bind fun w4 =>
        if ¬ w4 = (v1 >>> (3 &&& 31)) then
          (f_La_nextFrom_J53 (f_La_nextFrom_L17  n) x v1 v2 v3 v4 v5)
        else
          (f_La_nextFrom_J54 (f_La_nextFrom_L17  n) x v1 v2 v3 v4 v5 1)
def f_La_nextFrom (x : q_W) (a1 : Int32) (a2 : Int32) : Option Int32 :=
  (q_ld x 6 256 a1).bind fun w1 =>
  (f_D_hasBit x w1 a2).bind fun w2 =>
  (f_La_nextFrom_L17  q_fu x a1 a2 w2 (-1) 0)
def f_Ar_fill_L5 : Nat → q_W → Int32 → Int32 → Int32 → Option q_W
  | 0 => fun _ _ _ _ => none
  | n + 1 => fun x v1 v2 v3 =>
    if v3 ≤ v2 then
      some x
    else
      (q_sto x 13 1280 v2 v1).bind fun x1 =>
      ((f_Ar_fill_L5  n) x1 v1 (v2 + 1) v3)
def f_Ar_fill (x : q_W) (a1 : Int32) : Option q_W :=
  (f_Ar_fill_L5  q_fu x a1 0 1280)
def f_D_settle (c d : Nat) (x : q_W) : Option q_W :=
  if ¬ x.2 0 7 = 0 then
    some x
  else
    (f_La_find c x).bind fun x1 =>
    (f_Wa_go x1).bind fun x2 =>
    q_let (q_wr x2 0 7 1) fun x3 =>
    some x3
def f_La_has (x : q_W) (a1 : Int32) : Option Int32 :=
  (q_ld x 8 256 a1).bind fun w1 =>
  some (q_nb w1)
def f_D_lasts (c d : Nat) (x : q_W) (a1 : Int32) : Option ((Int32 ⊕ Nat) × q_W) :=
  q_tp (f_D_requireFormula c d x) x fun w1 =>
  q_tp (f_D_requireState c d x a1) x fun w3 =>
  (f_D_settle c d x).bind fun x5 =>
  (f_La_has x5 a1).bind fun w6 =>
  some (.inl (q_nb w6), x5)
def f_La_size (x : q_W) : Option Int32 :=
  some (x.2 3 9)
def f_D_lasting (c d : Nat) (x : q_W) : Option ((Int32 ⊕ Nat) × q_W) :=
  q_tp (f_D_requireFormula c d x) x fun w1 =>
  (f_D_settle c d x).bind fun x3 =>
  (f_La_size x3).bind fun w4 =>
  some (.inl w4, x3)
def f_D_promises (c d : Nat) (x : q_W) : Option (Int32 ⊕ Nat) :=
  q_tpp (f_D_requireFormula c d x) fun w1 =>
  (f_Fo_promiseCount c x).bind fun w3 =>
  some (.inl w3)
def f_Wa_exists (x : q_W) : Option Int32 :=
  if x.2 11 2 = (-1) then
    some (q_nb 0)
  else
    some (q_nb 1)
def f_D_can (c d : Nat) (x : q_W) : Option ((Int32 ⊕ Nat) × q_W) :=
  q_tp (f_D_requireFormula c d x) x fun w1 =>
  (f_D_settle c d x).bind fun x3 =>
  (f_Wa_exists x3).bind fun w4 =>
  some (.inl (q_nb w4), x3)
def f_Wa_stemLength (x : q_W) : Option Int32 :=
  some (x.2 11 2)
def f_D_stem (c d : Nat) (x : q_W) : Option ((Int32 ⊕ Nat) × q_W) :=
  q_tp (f_D_requireFormula c d x) x fun w1 =>
  (f_D_settle c d x).bind fun x3 =>
  (f_Wa_stemLength x3).bind fun w4 =>
  some (.inl w4, x3)
def f_Wa_loopLength (x : q_W) : Option Int32 :=
  some (x.2 11 3)
def f_D_loop (c d : Nat) (x : q_W) : Option ((Int32 ⊕ Nat) × q_W) :=
  q_tp (f_D_requireFormula c d x) x fun w1 =>
  (f_D_settle c d x).bind fun x3 =>
  (f_Wa_loopLength x3).bind fun w4 =>
  some (.inl w4, x3)
def f_Wa_size (x : q_W) : Option Int32 :=
  (f_Wa_exists x).bind fun w1 =>
  if w1 = 0 then
    some 0
  else
    some ((x.2 11 2) + (x.2 11 3))
def f_Wa_stateAt (x : q_W) (a1 : Int32) : Option Int32 :=
  (q_ld x 12 1281 a1).bind fun w1 =>
  some w1
def f_D_step (c d : Nat) (x : q_W) (a1 : Int32) : Option ((Int32 ⊕ Nat) × q_W) :=
  q_tp (f_D_requireFormula c d x) x fun w1 =>
  (f_D_settle c d x).bind fun x3 =>
  (f_Wa_exists x3).bind fun w4 =>
  if ¬ w4 = 0 then
    if a1 < 0 then
      some (.inr 2, x3)
    else
      (f_Wa_size x3).bind fun w5 =>
      if a1 < w5 then
        (f_Wa_stateAt x3 a1).bind fun w6 =>
        some (.inl w6, x3)
      else
        some (.inr 2, x3)
  else
    some (.inr 1, x3)
def f_Gw_fits (x : q_W) (a0 : Int32) (a1 : Int32) : Option Int32 :=
  if a0 < 0 then
    some (q_nb 0)
  else
    if 8 < a0 then
      some (q_nb 0)
    else
      if a1 < 1 then
        some (q_nb 0)
      else
        if 8 < a1 then
          some (q_nb 0)
        else
          some (q_nb 1)
def f_Gw_size (x : q_W) : Option Int32 :=
  some ((x.2 14 1) + (x.2 14 2))
def f_Gw_reshape_L15 : Nat → q_W → Int32 → Option q_W
  | 0 => fun _ _ => none
  | n + 1 => fun x v3 =>
    if 16 ≤ v3 then
      some x
    else
      (q_sto x 15 16 v3 0).bind fun x4 =>
      ((f_Gw_reshape_L15  n) x4 (v3 + 1))
def f_Gw_reshape (x : q_W) (a1 : Int32) (a2 : Int32) : Option q_W :=
  q_let (q_wr x 14 1 a1) fun x1 =>
  q_let (q_wr x1 14 2 a2) fun x2 =>
  (f_Gw_size x2).bind fun w3 =>
  (f_Gw_reshape_L15  q_fu x2 w3)
def f_D_shape (c d : Nat) (x : q_W) (a1 : Int32) (a2 : Int32) : Option ((Int32 ⊕ Nat) × q_W) :=
  (f_Gw_fits x a1 a2).bind fun w1 =>
  if ¬ w1 = 0 then
    (f_Gw_reshape x a1 a2).bind fun x2 =>
    some (.inl 0, x2)
  else
    some (.inr 0, x)
def f_Gw_replace (x : q_W) (a1 : Int32) (a2 : Int32) : Option (Int32 × q_W) :=
  (q_ld x 15 16 a1).bind fun w1 =>
  (q_sto x 15 16 a1 (a2 &&& 7)).bind fun x2 =>
  some (w1, x2)
def f_D_set (c d : Nat) (x : q_W) (a1 : Int32) (a2 : Int32) : Option ((Int32 ⊕ Nat) × q_W) :=
  if a1 < 0 then
    some (.inr 2, x)
  else
    (f_Gw_size x).bind fun w1 =>
    if a1 < w1 then
      (f_Gw_replace x a1 a2).bind fun q2 =>
      some (.inl q2.1, q2.2)
    else
      some (.inr 2, x)
def f_Gw_take_L14 : Nat → q_W → Int32 → Option q_W
  | 0 => fun _ _ => none
  | n + 1 => fun x v2 =>
    (f_Gw_size x).bind fun w4 =>
    if w4 ≤ v2 then
      some x
    else
      (f_Wa_stateAt x v2).bind fun w5 =>
      (q_sto x 15 16 v2 (w5 &&& 7)).bind fun x6 =>
      ((f_Gw_take_L14  n) x6 (v2 + 1))
def f_Gw_take (x : q_W) : Option q_W :=
  (f_Wa_stemLength x).bind fun w1 =>
  (f_Wa_loopLength x).bind fun w2 =>
  (f_Gw_reshape x w1 w2).bind fun x3 =>
  (f_Gw_take_L14  q_fu x3 0)
def f_D_adopt (c d : Nat) (x : q_W) : Option ((Int32 ⊕ Nat) × q_W) :=
  q_tp (f_D_requireFormula c d x) x fun w1 =>
  (f_D_settle c d x).bind fun x3 =>
  (f_Wa_exists x3).bind fun w4 =>
  if w4 = 0 then
    some (.inl (q_nb 0), x3)
  else
    (f_Wa_stemLength x3).bind fun w5 =>
    (f_Wa_loopLength x3).bind fun w6 =>
    (f_Gw_fits x3 w5 w6).bind fun w7 =>
    if ¬ w7 = 0 then
      (f_Gw_take x3).bind fun x8 =>
      some (.inl (q_nb 1), x8)
    else
      some (.inl (q_nb 0), x3)
def f_D_requirePlace (c d : Nat) (x : q_W) (a1 : Int32) : Option (Int32 ⊕ Nat) :=
  if 0 ≤ a1 then
    some (.inl 0)
  else
    some (.inr 2)
def f_Gw_indexOf (x : q_W) (a1 : Int32) : Option Int32 :=
  (f_Gw_size x).bind fun w1 =>
  if a1 < w1 then
    some a1
  else
    if 1 ≤ x.2 14 2 then
      if x.2 14 2 = 0 then none else
      some ((x.2 14 1) + ((a1 - (x.2 14 1)) - (a1 - (x.2 14 1)) / (x.2 14 2) * (x.2 14 2)))
    else
      some a1
def f_Gw_letterAt (x : q_W) (a1 : Int32) : Option Int32 :=
  (f_Gw_indexOf x a1).bind fun w1 =>
  (q_ld x 15 16 w1).bind fun w2 =>
  some w2
def f_D_letter (c d : Nat) (x : q_W) (a1 : Int32) : Option (Int32 ⊕ Nat) :=
  q_tpp (f_D_requirePlace c d x a1) fun w1 =>
  (f_Gw_letterAt x a1).bind fun w3 =>
  some (.inl w3)
def f_Gw_allPlaces (x : q_W) : Option Int32 :=
  (f_Gw_size x).bind fun w1 =>
  some ((1 <<< (w1 &&& 31)) - 1)
def f_Gw_placesBefore (x : q_W) (a1 : Int32) : Option Int32 :=
  (f_D_hasBit x a1 (x.2 14 1)).bind fun w1 =>
  if w1 = 0 then
    some ((a1 >>> (1 &&& 31)) ||| 0)
  else
    (f_Gw_size x).bind fun w2 =>
    q_let ((1 <<< ((w2 - 1) &&& 31))) fun v3 =>
    some ((a1 >>> (1 &&& 31)) ||| v3)
def f_Gw_placesUntil_L5 : Nat → q_W → Int32 → Int32 → Int32 → Int32 → Option Int32
  | 0 => fun _ _ _ _ _ => none
  | n + 1 => fun x v1 v2 v3 v4 =>
    (f_Gw_size x).bind fun w1 =>
    if w1 ≤ v4 then
      some v3
    else
      (f_Gw_placesBefore x v3).bind fun w2 =>
      q_let ((v2 ||| (v1 &&& w2))) fun v3 =>
      ((f_Gw_placesUntil_L5  n) x v1 v2 v3 (v4 + 1))
def f_Gw_placesUntil (x : q_W) (a1 : Int32) (a2 : Int32) : Option Int32 :=
  (f_Gw_placesUntil_L5  q_fu x a1 a2 a2 0)
def f_Gw_placesWith_L4 : Nat → q_W → Int32 → Int32 → Int32 → Option Int32
  | 0 => fun _ _ _ _ => none
  | n + 1 => fun x v1 v2 v3 =>
    (f_Gw_size x).bind fun w1 =>
    if w1 ≤ v3 then
      some v2
    else
      (q_ld x 15 16 v3).bind fun w2 =>
      (f_D_hasBit x w2 v1).bind fun w3 =>
      if w3 = 0 then
        ((f_Gw_placesWith_L4  n) x v1 v2 (v3 + 1))
      else
        q_let ((v2 ||| (1 <<< (v3 &&& 31)))) fun v4 =>
        ((f_Gw_placesWith_L4  n) x v1 v4 (v3 + 1))
def f_Gw_placesWith (x : q_W) (a1 : Int32) : Option Int32 :=
  (f_Gw_placesWith_L4  q_fu x a1 0 0)
def f_Fo_partPlaces (f : Nat) (x : q_W) (a1 : Int32) : Option Int32 :=
  (f_Gw_allPlaces x).bind fun w1 =>
  (q_ld x (f + 2) 18 a1).bind fun w2 =>
  (q_ld x (f + 7) 18 w2).bind fun w3 =>
  (q_ld x (f + 3) 18 a1).bind fun w4 =>
  (q_ld x (f + 7) 18 w4).bind fun w5 =>
  (q_ld x (f + 1) 18 a1).bind fun w6 =>
  if w6 = 33 then
    some (w1 &&& (w5 ^^^ (-1)))
  else if w6 = 38 then
    some (w3 &&& w5)
  else if w6 = 49 then
    some w1
  else if w6 = 62 then
    some ((w1 &&& (w3 ^^^ (-1))) ||| w5)
  else if w6 = 70 then
    (f_Gw_placesUntil x w1 w5).bind fun w12 =>
    some w12
  else if w6 = 71 then
    (f_Gw_placesUntil x w1 (w1 &&& (w5 ^^^ (-1)))).bind fun w14 =>
    some (w1 &&& (w14 ^^^ (-1)))
  else if w6 = 82 then
    (f_Gw_placesUntil x (w1 &&& (w3 ^^^ (-1))) (w1 &&& (w5 ^^^ (-1)))).bind fun w16 =>
    some (w1 &&& (w16 ^^^ (-1)))
  else if w6 = 85 then
    (f_Gw_placesUntil x w3 w5).bind fun w18 =>
    some w18
  else if w6 = 88 then
    (f_Gw_placesBefore x w5).bind fun w20 =>
    some w20
  else if w6 = 97 then
    (f_Gw_placesWith x 0).bind fun w22 =>
    some w22
  else if w6 = 98 then
    (f_Gw_placesWith x 1).bind fun w24 =>
    some w24
  else if w6 = 99 then
    (f_Gw_placesWith x 2).bind fun w26 =>
    some w26
  else if w6 = 124 then
    some (w3 ||| w5)
  else 
    some 0
def f_Fo_placesOn_L2 (f : Nat) (E2 : q_W → Option (Int32 × q_W)) : Nat → q_W → Int32 → Option (Int32 × q_W)
  | 0 => fun _ _ => none
  | n + 1 => fun x v2 =>
    if x.2 f 7 ≤ v2 then
      (E2 x )
    else
      (f_Fo_partPlaces f x v2).bind fun w4 =>
      (q_sto x (f + 7) 18 v2 w4).bind fun x5 =>
      ((f_Fo_placesOn_L2 f E2 n) x5 (v2 + 1))
def f_Fo_placesOn (f : Nat) (x : q_W) : Option (Int32 × q_W) :=
  (f_Fo_placesOn_L2 f (fun x1 => if ¬ x1.2 f 7 = 0 then
    (q_ld x1 (f + 7) 18 ((x1.2 f 7) - 1)).bind fun w2 =>
    some (w2, x1)
  else
    some (0, x1)) q_fu x 0)
def f_D_holds (c d : Nat) (x : q_W) (a1 : Int32) : Option ((Int32 ⊕ Nat) × q_W) :=
  q_tp (f_D_requireFormula c d x) x fun w1 =>
  q_tp (f_D_requirePlace c d x a1) x fun w3 =>
  (f_Fo_placesOn c x).bind fun q5 =>
  (f_Gw_indexOf q5.2 a1).bind fun w6 =>
  (f_D_hasBit q5.2 q5.1 w6).bind fun w7 =>
  some (.inl (q_nb w7), q5.2)
def f_Mo_thrown (x : q_W) : Option Int32 :=
  some (x.2 32 0)
def f_Mo_type_L127 : Nat → q_W → Int32 → Int32 → Int32 → Option (Int32 × q_W)
  | 0 => fun _ _ _ _ => none
  | n + 1 => fun x v1 v2 v5 =>
    if v2 ≤ v5 then
      some ((q_nb 1), x)
    else
      (q_sto x 33 18 (x.2 32 2) ((v1 >>> ((8 * v5) &&& 31)) &&& 255)).bind fun x13 =>
      q_let (q_wr x13 32 2 ((x13.2 32 2) + 1)) fun x14 =>
      ((f_Mo_type_L127  n) x14 v1 v2 (v5 + 1))
def f_Mo_type_J103 (x : q_W) (v1 : Int32) (v2 : Int32) (v4 : Int32) (s0 : Int32) : Option (Int32 × q_W) :=
  q_let (q_wr x 32 0 s0) fun x6 =>
  if ¬ v4 = 0 then
    some ((q_nb 0), x6)
  else
    if ((x6.2 32 2) + v2) ≤ 18 then
      (f_Mo_type_L127  q_fu x6 v1 v2 0)
    else
      some ((q_nb 0), x6)
def f_Mo_type_J72 (K10 : q_W → Int32 → Int32 → Int32 → Int32 → Int32 → Option (Int32 × q_W)) (E10 : q_W → Int32 → Int32 → Int32 → Option (Int32 × q_W)) (x : q_W) (v1 : Int32) (v2 : Int32) (v3 : Int32) (v5 : Int32) (s0 : Int32) : Option (Int32 × q_W) :=
  if v3 = 0 then
    (K10 x v1 v2 v3 s0 (v5 + 1))
  else
    q_let ((v2 + 1)) fun v20 =>
    (K10 x v1 v20 v3 s0 (v5 + 1))
def f_Mo_type_J71 (K10 : q_W → Int32 → Int32 → Int32 → Int32 → Int32 → Option (Int32 × q_W)) (E10 : q_W → Int32 → Int32 → Int32 → Option (Int32 × q_W)) (x : q_W) (v1 : Int32) (v2 : Int32) (v3 : Int32) (v5 : Int32) : Option (Int32 × q_W) :=
  (f_Mo_type_J72 K10 E10 x v1 v2 v3 v5 0)
def f_Mo_type_J67 (K10 : q_W → Int32 → Int32 → Int32 → Int32 → Int32 → Option (Int32 × q_W)) (E10 : q_W → Int32 → Int32 → Int32 → Option (Int32 × q_W)) (x : q_W) (v1 : Int32) (v2 : Int32) (v3 : Int32) (v5 : Int32) : Option (Int32 × q_W) :=
  (f_Mo_type_J72 K10 E10 x v1 v2 v3 v5 1)
def f_Mo_type_J43 (K10 : q_W → Int32 → Int32 → Int32 → Int32 → Int32 → Option (Int32 × q_W)) (E10 : q_W → Int32 → Int32 → Int32 → Option (Int32 × q_W)) (x : q_W) (v1 : Int32) (v2 : Int32) (v4 : Int32) (v5 : Int32) (v6 : Int32) (s0 : Int32) : Option (Int32 × q_W) :=
  if ¬ v4 = 0 then
    (f_Mo_type_J67 K10 E10 x v1 v2 s0 v5)
  else
    if s0 = 0 then
      (f_Mo_type_J71 K10 E10 x v1 v2 s0 v5)
    else
      if v6 < 33 then
        (f_Mo_type_J67 K10 E10 x v1 v2 s0 v5)
      else
        if v6 ≤ 126 then
          (f_Mo_type_J71 K10 E10 x v1 v2 s0 v5)
        else
          (f_Mo_type_J67 K10 E10 x v1 v2 s0 v5)
def f_Mo_type_J42 (K10 : q_W → Int32 → Int32 → Int32 → Int32 → Int32 → Option (Int32 × q_W)) (E10 : q_W → Int32 → Int32 → Int32 → Option (Int32 × q_W)) (x : q_W) (v1 : Int32) (v2 : Int32) (v4 : Int32) (v5 : Int32) (v6 : Int32) : Option (Int32 × q_W) :=
  (f_Mo_type_J43 K10 E10 x v1 v2 v4 v5 v6 0)
def f_Mo_type_L10 (E10 : q_W → Int32 → Int32 → Int32 → Option (Int32 × q_W)) : Nat → q_W → Int32 → Int32 → Int32 → Int32 → Int32 → Option (Int32 × q_W)
  | 0 => fun _ _ _ _ _ _ => none
  | n + 1 => fun x v1 v2 v3 v4 v5 =>
    if 4 ≤ v5 then
      (E10 x v1 v2 v4)
    else
      q_let (((v1 >>> ((8 * v5) &&& 31)) &&& 255)) fun v9 =>
      if v3 = 0 then
        (f_Mo_type_J42 (f_Mo_type_L10 E10 n) E10 x v1 v2 v4 v5 v9)
      else
        if v9 = 0 then
          (f_Mo_type_J42 (f_Mo_type_L10 E10 n) E10 x v1 v2 v4 v5 v9)
        else
          (f_Mo_type_J43 (f_Mo_type_L10 E10 n) E10 x v1 v2 v4 v5 v9 1)
def f_Mo_type (x : q_W) (a1 : Int32) : Option (Int32 × q_W) :=
  (f_Mo_type_L10 (fun x1 u2 u3 u4 => if u4 = 0 then
    (f_Mo_type_J103  x1 u2 u3 u4 0)
  else
    (f_Mo_type_J103  x1 u2 u3 u4 1)) q_fu x a1 0 1 0 0)
def f_Mo_tightness (x : q_W) (a0 : Int32) : Option Int32 :=
  if 9 ≤ a0 then
    if 11 ≤ a0 then
      if ¬ a0 = 11 then
        if ¬ a0 = 12 then
          if ¬ a0 = 13 then
            some 0
          else
            some 1
        else
          some 2
      else
        some 3
    else
      some 4
  else
    some 5
def f_Mo_isTemporal (x : q_W) (a0 : Int32) : Option Int32 :=
  if a0 < 6 then
    some (q_nb 0)
  else
    if 10 < a0 then
      some (q_nb 0)
    else
      some (q_nb 1)
def f_Mo_part (x : q_W) (a1 : Int32) (a2 : Int32) (a3 : Int32) (a4 : Int32) : Option q_W :=
  (q_sto x 40 18 (x.2 32 13) a1).bind fun x1 =>
  (q_sto x1 43 18 (x1.2 32 13) a2).bind fun x2 =>
  (q_sto x2 41 18 (x2.2 32 13) a3).bind fun x3 =>
  (q_sto x3 42 18 (x3.2 32 13) a4).bind fun x4 =>
  (q_sto x4 44 18 (x4.2 32 20) (x4.2 32 13)).bind fun x5 =>
  q_let (q_wr x5 32 20 ((x5.2 32 20) + 1)) fun x6 =>
  q_let (q_wr x6 32 13 ((x6.2 32 13) + 1)) fun x7 =>
  some x7
def f_Mo_taken (x : q_W) : Option (Int32 × q_W) :=
  q_let (q_wr x 32 20 ((x.2 32 20) - 1)) fun x1 =>
  (q_ld x1 44 18 (x1.2 32 20)).bind fun w2 =>
  some (w2, x1)
def f_Mo_settle_J70 (K0 : q_W → Int32 → Option q_W) (x : q_W) (v1 : Int32) (v2 : Int32) (v3 : Int32) (s0 : Int32) : Option q_W :=
  (q_ld x 45 18 (x.2 32 22)).bind fun w11 =>
  (f_Mo_part x v2 (w11 >>> (4 &&& 31)) s0 v3).bind fun x12 =>
  (K0 x12 v1)
def f_Mo_settle_L0 : Nat → q_W → Int32 → Option q_W
  | 0 => fun _ _ => none
  | n + 1 => fun x v1 =>
    if x.2 32 22 ≤ 0 then
      some x
    else
      (q_ld x 45 18 ((x.2 32 22) - 1)).bind fun w1 =>
      (f_Mo_tightness x (w1 &&& 15)).bind fun w2 =>
      if w2 < v1 then
        some x
      else
        q_let (q_wr x 32 22 ((x.2 32 22) - 1)) fun x3 =>
        (q_ld x3 45 18 (x3.2 32 22)).bind fun w4 =>
        q_let ((w4 &&& 15)) fun v5 =>
        (f_Mo_taken x3).bind fun q6 =>
        if 9 ≤ v5 then
          (f_Mo_taken q6.2).bind fun q7 =>
          (f_Mo_settle_J70 (f_Mo_settle_L0  n) q7.2 v1 v5 q6.1 q7.1)
        else
          (f_Mo_settle_J70 (f_Mo_settle_L0  n) q6.2 v1 v5 q6.1 q6.1)
def f_Mo_settle (x : q_W) (a1 : Int32) : Option q_W :=
  (f_Mo_settle_L0  q_fu x a1)
def f_Mo_push (x : q_W) (a1 : Int32) : Option q_W :=
  (q_sto x 45 18 (x.2 32 22) (a1 + (16 * (x.2 32 18)))).bind fun x1 =>
  q_let (q_wr x1 32 22 ((x1.2 32 22) + 1)) fun x2 =>
  (f_Mo_isTemporal x2 a1).bind fun w3 =>
  if w3 = 0 then
    q_let (q_wr x2 32 18 (x2.2 32 18)) fun x4 =>
    some x4
  else
    q_let (q_wr x2 32 18 ((x2.2 32 18) + 1)) fun x5 =>
    some x5
def f_Mo_leafOf (x : q_W) (a0 : Int32) : Option Int32 :=
  if ¬ a0 = 48 then
    if ¬ a0 = 49 then
      if a0 < 97 then
        some (-1)
      else
        if 99 < a0 then
          some (-1)
        else
          some ((2 + a0) - 97)
    else
      some 1
  else
    some 0
def f_Mo_prefixOf (x : q_W) (a0 : Int32) : Option Int32 :=
  if ¬ a0 = 33 then
    if ¬ a0 = 88 then
      if ¬ a0 = 70 then
        if ¬ a0 = 71 then
          some (-1)
        else
          some 8
      else
        some 7
    else
      some 6
  else
    some 5
def f_Mo_signOf (x : q_W) (a0 : Int32) : Option Int32 :=
  if ¬ a0 = 85 then
    if ¬ a0 = 82 then
      if ¬ a0 = 38 then
        if ¬ a0 = 124 then
          if ¬ a0 = 62 then
            some (-1)
          else
            some 13
        else
          some 12
      else
        some 11
    else
      some 10
  else
    some 9
def f_Mo_reads_J310 (x : q_W) (v3 : Int32) (v4 : Int32) : Option (Int32 × q_W) :=
  if v4 = 0 then
    some ((q_nb 0), x)
  else
    if v3 = 0 then
      some ((q_nb 0), x)
    else
      if ¬ x.2 32 22 = 0 then
        some ((q_nb 0), x)
      else
        if 6 ≤ x.2 32 18 then
          some ((q_nb 0), x)
        else
          some ((q_nb 1), x)
def f_Mo_reads_J296 (x : q_W) (v3 : Int32) (v4 : Int32) : Option (Int32 × q_W) :=
  if v4 = 0 then
    (f_Mo_reads_J310  x v3 v4)
  else
    if v3 = 0 then
      (f_Mo_reads_J310  x v3 v4)
    else
      (f_Mo_settle x 1).bind fun x8 =>
      (f_Mo_reads_J310  x8 v3 v4)
def f_Mo_reads_J285 (K30 : q_W → Int32 → Int32 → Int32 → Int32 → Int32 → Option (Int32 × q_W)) (E30 : q_W → Int32 → Int32 → Option (Int32 × q_W)) (x : q_W) (v1 : Int32) (v2 : Int32) (v4 : Int32) (v5 : Int32) (s0 : Int32) : Option (Int32 × q_W) :=
  (f_Mo_push x s0).bind fun x44 =>
  (K30 x44 v1 v2 0 v4 (v5 + 1))
def f_Mo_reads_J270 (K30 : q_W → Int32 → Int32 → Int32 → Int32 → Int32 → Option (Int32 × q_W)) (E30 : q_W → Int32 → Int32 → Option (Int32 × q_W)) (x : q_W) (v1 : Int32) (v2 : Int32) (v4 : Int32) (v5 : Int32) (v7 : Int32) (s0 : Int32) : Option (Int32 × q_W) :=
  (f_Mo_settle x s0).bind fun x39 =>
  if v4 = 0 then
    (f_Mo_reads_J285 K30 E30 x39 v1 v2 v4 v5 5)
  else
    (f_Mo_reads_J285 K30 E30 x39 v1 v2 v4 v5 v7)
def f_Mo_reads_J265 (K30 : q_W → Int32 → Int32 → Int32 → Int32 → Int32 → Option (Int32 × q_W)) (E30 : q_W → Int32 → Int32 → Option (Int32 × q_W)) (x : q_W) (v1 : Int32) (v2 : Int32) (v4 : Int32) (v5 : Int32) (v7 : Int32) : Option (Int32 × q_W) :=
  (f_Mo_reads_J270 K30 E30 x v1 v2 v4 v5 v7 2)
def f_Mo_reads_J237 (K30 : q_W → Int32 → Int32 → Int32 → Int32 → Int32 → Option (Int32 × q_W)) (E30 : q_W → Int32 → Int32 → Option (Int32 × q_W)) (x : q_W) (v1 : Int32) (v2 : Int32) (v5 : Int32) (v7 : Int32) (s0 : Int32) : Option (Int32 × q_W) :=
  if ¬ v7 = 11 then
    if v7 = 12 then
      (f_Mo_reads_J265 K30 E30 x v1 v2 s0 v5 v7)
    else
      if ¬ v7 = 13 then
        (f_Mo_reads_J270 K30 E30 x v1 v2 s0 v5 v7 5)
      else
        (f_Mo_reads_J265 K30 E30 x v1 v2 s0 v5 v7)
  else
    (f_Mo_reads_J270 K30 E30 x v1 v2 s0 v5 v7 3)
def f_Mo_reads_J211 (K30 : q_W → Int32 → Int32 → Int32 → Int32 → Int32 → Option (Int32 × q_W)) (E30 : q_W → Int32 → Int32 → Option (Int32 × q_W)) (x : q_W) (v1 : Int32) (v2 : Int32) (v3 : Int32) (v4 : Int32) (v5 : Int32) (s0 : Int32) : Option (Int32 × q_W) :=
  q_let (q_wr x 32 22 s0) fun x41 =>
  (K30 x41 v1 (v2 + (-1)) v3 v4 (v5 + 1))
def f_Mo_reads_J193 (K30 : q_W → Int32 → Int32 → Int32 → Int32 → Int32 → Option (Int32 × q_W)) (E30 : q_W → Int32 → Int32 → Option (Int32 × q_W)) (x : q_W) (v1 : Int32) (v2 : Int32) (v3 : Int32) (v5 : Int32) (s0 : Int32) : Option (Int32 × q_W) :=
  if s0 = 0 then
    (f_Mo_reads_J211 K30 E30 x v1 v2 v3 s0 v5 0)
  else
    (f_Mo_reads_J211 K30 E30 x v1 v2 v3 s0 v5 ((x.2 32 22) - 1))
def f_Mo_reads_J163 (K30 : q_W → Int32 → Int32 → Int32 → Int32 → Int32 → Option (Int32 × q_W)) (E30 : q_W → Int32 → Int32 → Option (Int32 × q_W)) (x : q_W) (v1 : Int32) (v2 : Int32) (v3 : Int32) (v4 : Int32) (v5 : Int32) (s0 : Int32) : Option (Int32 × q_W) :=
  (f_Mo_push x s0).bind fun x45 =>
  (K30 x45 v1 v2 v3 v4 (v5 + 1))
def f_Mo_reads_J146 (K30 : q_W → Int32 → Int32 → Int32 → Int32 → Int32 → Option (Int32 × q_W)) (E30 : q_W → Int32 → Int32 → Option (Int32 × q_W)) (x : q_W) (v1 : Int32) (v2 : Int32) (v3 : Int32) (v5 : Int32) (v6 : Int32) (s0 : Int32) : Option (Int32 × q_W) :=
  if s0 = 0 then
    (f_Mo_reads_J163 K30 E30 x v1 v2 v3 s0 v5 5)
  else
    (f_Mo_prefixOf x v6).bind fun w42 =>
    (f_Mo_reads_J163 K30 E30 x v1 v2 v3 s0 v5 w42)
def f_Mo_reads_J67 (K30 : q_W → Int32 → Int32 → Int32 → Int32 → Int32 → Option (Int32 × q_W)) (E30 : q_W → Int32 → Int32 → Option (Int32 × q_W)) (x : q_W) (v1 : Int32) (v2 : Int32) (v4 : Int32) (v5 : Int32) (v6 : Int32) (s0 : Int32) : Option (Int32 × q_W) :=
  if s0 = 0 then
    if ¬ v6 = 40 then
      (f_Mo_prefixOf x v6).bind fun w30 =>
      if w30 < 0 then
        (f_Mo_reads_J146 K30 E30 x v1 v2 s0 v5 v6 0)
      else
        (f_Mo_reads_J146 K30 E30 x v1 v2 s0 v5 v6 1)
    else
      (q_sto x 45 18 (x.2 32 22) 14).bind fun x32 =>
      q_let (q_wr x32 32 22 ((x32.2 32 22) + 1)) fun x33 =>
      if 5 ≤ (v2 + 1) then
        (K30 x33 v1 (v2 + 1) s0 0 (v5 + 1))
      else
        (K30 x33 v1 (v2 + 1) s0 1 (v5 + 1))
  else
    (f_Mo_leafOf x v6).bind fun w36 =>
    (f_Mo_part x w36 0 (-1) (-1)).bind fun x37 =>
    (K30 x37 v1 v2 s0 v4 (v5 + 1))
def f_Mo_reads_L30 (E30 : q_W → Int32 → Int32 → Option (Int32 × q_W)) : Nat → q_W → Int32 → Int32 → Int32 → Int32 → Int32 → Option (Int32 × q_W)
  | 0 => fun _ _ _ _ _ _ => none
  | n + 1 => fun x v1 v2 v3 v4 v5 =>
    if v1 ≤ v5 then
      (E30 x v3 v4)
    else
      if v4 = 0 then
        (E30 x v3 v4)
      else
        (q_ld x 33 18 v5).bind fun w11 =>
        if ¬ v3 = 0 then
          if ¬ w11 = 41 then
            (f_Mo_signOf x w11).bind fun w12 =>
            if w12 < 0 then
              (f_Mo_reads_J237 (f_Mo_reads_L30 E30 n) E30 x v1 v2 v5 w12 0)
            else
              (f_Mo_reads_J237 (f_Mo_reads_L30 E30 n) E30 x v1 v2 v5 w12 1)
          else
            (f_Mo_settle x 1).bind fun x14 =>
            if x14.2 32 22 ≤ 0 then
              (f_Mo_reads_J193 (f_Mo_reads_L30 E30 n) E30 x14 v1 v2 v3 v5 0)
            else
              (f_Mo_reads_J193 (f_Mo_reads_L30 E30 n) E30 x14 v1 v2 v3 v5 1)
        else
          (f_Mo_leafOf x w11).bind fun w17 =>
          if w17 < 0 then
            (f_Mo_reads_J67 (f_Mo_reads_L30 E30 n) E30 x v1 v2 v4 v5 w11 0)
          else
            (f_Mo_reads_J67 (f_Mo_reads_L30 E30 n) E30 x v1 v2 v4 v5 w11 1)
def f_Mo_reads (x : q_W) (a1 : Int32) : Option (Int32 × q_W) :=
  q_let (q_wr x 32 13 0) fun x1 =>
  q_let (q_wr x1 32 18 0) fun x2 =>
  q_let (q_wr x2 32 20 0) fun x3 =>
  q_let (q_wr x3 32 22 0) fun x4 =>
  (f_Mo_reads_L30 (fun x5 u6 u7 => (f_Mo_reads_J296  x5 u6 u7)) q_fu x4 a1 0 0 1 0)
def f_Mo_count (x : q_W) : Option Int32 :=
  some (8 <<< ((x.2 32 9) &&& 31))
def f_Mo_leadsToOne (x : q_W) (a1 : Int32) : Option Int32 :=
  (q_ld x 53 32 (a1 >>> (3 &&& 31))).bind fun w1 =>
  some (q_nb w1)
def f_Mo_noteSome_J64 (K23 : q_W → Int32 → Option q_W) (x : q_W) (v1 : Int32) (s0 : Int32) : Option q_W :=
  (q_sto x 53 32 s0 (vp_nar .boolean 1)).bind fun x12 =>
  (K23 x12 (v1 + 1))
def f_Mo_noteSome_L23 : Nat → q_W → Int32 → Option q_W
  | 0 => fun _ _ => none
  | n + 1 => fun x v1 =>
    (f_Mo_count x).bind fun w3 =>
    if w3 ≤ v1 then
      some x
    else
      (q_ld x 46 256 v1).bind fun w4 =>
      (q_ld x 46 256 v1).bind fun w5 =>
      (q_ld x 53 32 w5).bind fun w6 =>
      if ¬ w6 = 0 then
        (f_Mo_noteSome_J64 (f_Mo_noteSome_L23  n) x v1 w4)
      else
        (q_ld x 52 256 v1).bind fun w7 =>
        if w7 = 0 then
          (q_sto x 53 32 w4 (vp_nar .boolean 0)).bind fun x8 =>
          ((f_Mo_noteSome_L23  n) x8 (v1 + 1))
        else
          (f_Mo_noteSome_J64 (f_Mo_noteSome_L23  n) x v1 w4)
def f_Mo_noteSome_L2 : Nat → q_W → Int32 → Option q_W
  | 0 => fun _ _ => none
  | n + 1 => fun x v1 =>
    if 32 ≤ v1 then
      (f_Mo_noteSome_L23  q_fu x 0)
    else
      (q_sto x 53 32 v1 (vp_nar .boolean 0)).bind fun x1 =>
      ((f_Mo_noteSome_L2  n) x1 (v1 + 1))
def f_Mo_noteSome (x : q_W) : Option q_W :=
  (f_Mo_noteSome_L2  q_fu x 0)
def f_Mo_countSteps_L120 (K60 : q_W → Int32 → Int32 → Int32 → Option q_W) : Nat → q_W → Int32 → Int32 → Int32 → Int32 → Option q_W
  | 0 => fun _ _ _ _ _ => none
  | n + 1 => fun x v1 v2 v3 v4 =>
    (f_Mo_count x).bind fun w16 =>
    if w16 ≤ v4 then
      (K60 x v1 v2 (v3 + 1))
    else
      (q_ld x 51 256 v4).bind fun w17 =>
      if w17 = 0 then
        ((f_Mo_countSteps_L120 K60 n) x v1 v2 v3 (v4 + 1))
      else
        (q_ld x 54 1280 ((256 * v1) + v4)).bind fun w18 =>
        if 0 ≤ w18 then
          ((f_Mo_countSteps_L120 K60 n) x v1 v2 v3 (v4 + 1))
        else
          (f_Mo_leadsToOne x v4).bind fun w19 =>
          if w19 = 0 then
            ((f_Mo_countSteps_L120 K60 n) x v1 v2 v3 (v4 + 1))
          else
            (q_sto x 54 1280 ((256 * v1) + v4) (v3 + 1)).bind fun x20 =>
            ((f_Mo_countSteps_L120 K60 n) x20 v1 1 v3 (v4 + 1))
def f_Mo_countSteps_L69 (K60 : q_W → Int32 → Int32 → Int32 → Option q_W) (E69 : q_W → Int32 → Int32 → Int32 → Option q_W) : Nat → q_W → Int32 → Int32 → Int32 → Int32 → Option q_W
  | 0 => fun _ _ _ _ _ => none
  | n + 1 => fun x v1 v2 v3 v4 =>
    (f_Mo_count x).bind fun w25 =>
    if w25 ≤ v4 then
      (E69 x v1 v2 v3)
    else
      (q_ld x 54 1280 ((256 * v1) + v4)).bind fun w26 =>
      if ¬ w26 = v3 then
        (q_sto x 52 256 v4 (vp_nar .boolean 0)).bind fun x27 =>
        ((f_Mo_countSteps_L69 K60 E69 n) x27 v1 v2 v3 (v4 + 1))
      else
        (q_sto x 52 256 v4 (vp_nar .boolean 1)).bind fun x28 =>
        ((f_Mo_countSteps_L69 K60 E69 n) x28 v1 v2 v3 (v4 + 1))
def f_Mo_countSteps_L60 : Nat → q_W → Int32 → Int32 → Int32 → Option q_W
  | 0 => fun _ _ _ _ => none
  | n + 1 => fun x v1 v2 v3 =>
    if v2 = 0 then
      some x
    else
      (f_Mo_countSteps_L69 (f_Mo_countSteps_L60  n) (fun x10 u11 u12 u13 => (f_Mo_noteSome x10).bind fun x14 =>
      (f_Mo_countSteps_L120 (f_Mo_countSteps_L60  n) q_fu x14 u11 u12 u13 0)) q_fu x v1 0 v3 0)
def f_Mo_countSteps_L2 : Nat → q_W → Int32 → Int32 → Option q_W
  | 0 => fun _ _ _ => none
  | n + 1 => fun x v1 v2 =>
    (f_Mo_count x).bind fun w1 =>
    if w1 ≤ v2 then
      (f_Mo_countSteps_L60  q_fu x v1 1 0)
    else
      (q_ld x 51 256 v2).bind fun w2 =>
      if w2 = 0 then
        (q_sto x 54 1280 ((256 * v1) + v2) (-1)).bind fun x3 =>
        ((f_Mo_countSteps_L2  n) x3 v1 (v2 + 1))
      else
        (q_ld x 49 256 v2).bind fun w4 =>
        if ¬ ((w4 >>> (v1 &&& 31)) &&& 1) = 1 then
          (q_sto x 54 1280 ((256 * v1) + v2) (-1)).bind fun x5 =>
          ((f_Mo_countSteps_L2  n) x5 v1 (v2 + 1))
        else
          (q_sto x 54 1280 ((256 * v1) + v2) 0).bind fun x6 =>
          ((f_Mo_countSteps_L2  n) x6 v1 (v2 + 1))
def f_Mo_countSteps (x : q_W) (a1 : Int32) : Option q_W :=
  (f_Mo_countSteps_L2  q_fu x a1 0)
def f_Mo_isDue (x : q_W) (a1 : Int32) (a2 : Int32) : Option Int32 :=
  (q_ld x 48 256 a2).bind fun w1 =>
  if ¬ ((w1 >>> (a1 &&& 31)) &&& 1) = 1 then
    some (q_nb 0)
  else
    (q_ld x 49 256 a2).bind fun w2 =>
    if ¬ ((w2 >>> (a1 &&& 31)) &&& 1) = 0 then
      some (q_nb 0)
    else
      some (q_nb 1)
def f_Mo_dutyAt_L2 : Nat → q_W → Int32 → Int32 → Int32 → Option Int32
  | 0 => fun _ _ _ _ => none
  | n + 1 => fun x v1 v2 v3 =>
    if x.2 32 11 ≤ v3 then
      some v2
    else
      if x.2 32 11 = 0 then none else
      q_let (((v2 + v3) - (v2 + v3) / (x.2 32 11) * (x.2 32 11))) fun v1 =>
      (f_Mo_isDue x v1 v1).bind fun w2 =>
      if w2 = 0 then
        ((f_Mo_dutyAt_L2  n) x v1 v2 (v3 + 1))
      else
        some v1
def f_Mo_dutyAt (x : q_W) (a1 : Int32) (a2 : Int32) : Option Int32 :=
  (f_Mo_dutyAt_L2  q_fu x a1 a2 0)
def f_Mo_firstState_L2 : Nat → q_W → Int32 → Option Int32
  | 0 => fun _ _ => none
  | n + 1 => fun x v1 =>
    (f_Mo_count x).bind fun w1 =>
    if w1 ≤ v1 then
      some (-1)
    else
      (q_ld x 51 256 v1).bind fun w2 =>
      if w2 = 0 then
        ((f_Mo_firstState_L2  n) x (v1 + 1))
      else
        (q_ld x 47 256 v1).bind fun w3 =>
        if w3 = 0 then
          ((f_Mo_firstState_L2  n) x (v1 + 1))
        else
          some v1
def f_Mo_firstState (x : q_W) : Option Int32 :=
  (f_Mo_firstState_L2  q_fu x 0)
def f_Mo_goes (x : q_W) (a1 : Int32) (a2 : Int32) : Option Int32 :=
  (q_ld x 46 256 a2).bind fun w1 =>
  if ¬ (a1 >>> (3 &&& 31)) = w1 then
    some (q_nb 0)
  else
    some (q_nb 1)
def f_Mo_nextOf_J62 (K32 : q_W → Int32 → Int32 → Int32 → Int32 → Int32 → Int32 → Option Int32) (x : q_W) (v1 : Int32) (v2 : Int32) (v3 : Int32) (v4 : Int32) (v5 : Int32) (v6 : Int32) (s0 : Int32) : Option Int32 :=
  (q_ld x 51 256 v6).bind fun w8 =>
  if w8 = 0 then
    (K32 x v1 v2 v3 v4 v5 (v6 + 1))
  else
    (f_Mo_goes x v1 v6).bind fun w9 =>
    if w9 = 0 then
      (K32 x v1 v2 v3 v4 v5 (v6 + 1))
    else
      if s0 < 0 then
        (K32 x v1 v2 v3 v4 v5 (v6 + 1))
      else
        if v5 ≤ s0 then
          (K32 x v1 v2 v3 v4 v5 (v6 + 1))
        else
          (K32 x v1 v2 v3 v6 s0 (v6 + 1))
def f_Mo_nextOf_L32 : Nat → q_W → Int32 → Int32 → Int32 → Int32 → Int32 → Int32 → Option Int32
  | 0 => fun _ _ _ _ _ _ _ => none
  | n + 1 => fun x v1 v2 v3 v4 v5 v6 =>
    (f_Mo_count x).bind fun w4 =>
    if w4 ≤ v6 then
      some v4
    else
      if v3 = 0 then
        (f_Mo_nextOf_J62 (f_Mo_nextOf_L32  n) x v1 v2 v3 v4 v5 v6 0)
      else
        (q_ld x 54 1280 ((256 * v2) + v6)).bind fun w5 =>
        (f_Mo_nextOf_J62 (f_Mo_nextOf_L32  n) x v1 v2 v3 v4 v5 v6 w5)
def f_Mo_nextOf_J21 (x : q_W) (v1 : Int32) (v2 : Int32) (s0 : Int32) : Option Int32 :=
  (f_Mo_nextOf_L32  q_fu x v1 v2 s0 (-1) 100000 0)
def f_Mo_nextOf_J20 (x : q_W) (v1 : Int32) (v2 : Int32) : Option Int32 :=
  (f_Mo_nextOf_J21  x v1 v2 0)
def f_Mo_nextOf (x : q_W) (a1 : Int32) (a2 : Int32) : Option Int32 :=
  if x.2 32 11 ≤ 0 then
    (f_Mo_nextOf_J20  x a1 a2)
  else
    (f_Mo_isDue x a2 a1).bind fun w1 =>
    if w1 = 0 then
      (f_Mo_nextOf_J20  x a1 a2)
    else
      (f_Mo_nextOf_J21  x a1 a2 1)
def f_Mo_goWalk_L62 : Nat → q_W → Int32 → Int32 → Int32 → Option q_W
  | 0 => fun _ _ _ _ => none
  | n + 1 => fun x v1 v2 v3 =>
    if v1 < 0 then
      some x
    else
      if 0 ≤ x.2 32 32 then
        some x
      else
        (f_Mo_dutyAt x v1 v3).bind fun w7 =>
        q_let (((5 * v1) + w7)) fun v8 =>
        (q_ld x 56 1280 v8).bind fun w9 =>
        if w9 < 0 then
          (q_sto x 56 1280 v8 v2).bind fun x10 =>
          (q_sto x10 55 1280 v2 v1).bind fun x11 =>
          (f_Mo_nextOf x11 v1 w7).bind fun w12 =>
          ((f_Mo_goWalk_L62  n) x11 w12 (v2 + 1) w7)
        else
          (q_ld x 56 1280 v8).bind fun w13 =>
          q_let (q_wr x 32 32 w13) fun x14 =>
          (q_ld x14 56 1280 v8).bind fun w15 =>
          q_let (q_wr x14 32 33 (v2 - w15)) fun x16 =>
          ((f_Mo_goWalk_L62  n) x16 v1 v2 w7)
def f_Mo_goWalk_L33 (E33 : q_W → Option q_W) : Nat → q_W → Int32 → Option q_W
  | 0 => fun _ _ => none
  | n + 1 => fun x v1 =>
    if 1280 ≤ v1 then
      (E33 x )
    else
      (q_sto x 56 1280 v1 (-1)).bind fun x20 =>
      ((f_Mo_goWalk_L33 E33 n) x20 (v1 + 1))
def f_Mo_goWalk_L12 : Nat → q_W → Int32 → Option q_W
  | 0 => fun _ _ => none
  | n + 1 => fun x v1 =>
    if x.2 32 11 ≤ v1 then
      (f_Mo_goWalk_L33 (fun x3 => (f_Mo_firstState x3).bind fun w4 =>
      (f_Mo_goWalk_L62  q_fu x3 w4 0 0)) q_fu x 0)
    else
      (f_Mo_countSteps x v1).bind fun x5 =>
      ((f_Mo_goWalk_L12  n) x5 (v1 + 1))
def f_Mo_goWalk (x : q_W) : Option q_W :=
  q_let (q_wr x 32 32 (-1)) fun x1 =>
  q_let (q_wr x1 32 33 (-1)) fun x2 =>
  (f_Mo_goWalk_L12  q_fu x2 0)
def f_Mo_valueOf_J271 (x : q_W) (v1 : Int32) (v3 : Int32) : Option Int32 :=
  (q_ld x 34 18 v1).bind fun w43 =>
  if ¬ ((v3 >>> ((w43 - 2) &&& 31)) &&& 1) = 1 then
    some (q_nb 0)
  else
    some (q_nb 1)
def f_Mo_valueOf_J58 (x : q_W) (v1 : Int32) (v2 : Int32) (v3 : Int32) (v4 : Int32) (s0 : Int32) : Option Int32 :=
  (q_ld x 34 18 v1).bind fun w11 =>
  if w11 = 0 then
    some (q_nb 0)
  else if w11 = 1 then
    some (q_nb 1)
  else if w11 = 2 then
    (f_Mo_valueOf_J271  x v1 v3)
  else if w11 = 3 then
    (f_Mo_valueOf_J271  x v1 v3)
  else if w11 = 4 then
    (f_Mo_valueOf_J271  x v1 v3)
  else if w11 = 5 then
    if ¬ s0 = 0 then
      some (q_nb 0)
    else
      some (q_nb 1)
  else if w11 = 6 then
    some (q_nb v2)
  else if w11 = 7 then
    if ¬ s0 = 0 then
      some (q_nb 1)
    else
      if v2 = 0 then
        some (q_nb 0)
      else
        some (q_nb 1)
  else if w11 = 8 then
    if s0 = 0 then
      some (q_nb 0)
    else
      if v2 = 0 then
        some (q_nb 0)
      else
        some (q_nb 1)
  else if w11 = 9 then
    if ¬ s0 = 0 then
      some (q_nb 1)
    else
      if v4 = 0 then
        some (q_nb 0)
      else
        if v2 = 0 then
          some (q_nb 0)
        else
          some (q_nb 1)
  else if w11 = 10 then
    if s0 = 0 then
      some (q_nb 0)
    else
      if ¬ v4 = 0 then
        some (q_nb 1)
      else
        if v2 = 0 then
          some (q_nb 0)
        else
          some (q_nb 1)
  else if w11 = 11 then
    if v4 = 0 then
      some (q_nb 0)
    else
      if s0 = 0 then
        some (q_nb 0)
      else
        some (q_nb 1)
  else if w11 = 12 then
    if ¬ v4 = 0 then
      some (q_nb 1)
    else
      if s0 = 0 then
        some (q_nb 0)
      else
        some (q_nb 1)
  else if w11 = 13 then
    if v4 = 0 then
      some (q_nb 1)
    else
      if s0 = 0 then
        some (q_nb 0)
      else
        some (q_nb 1)
  else 
    (f_Mo_valueOf_J271  x v1 v3)
def f_Mo_valueOf_J57 (x : q_W) (v1 : Int32) (v2 : Int32) (v3 : Int32) (v4 : Int32) : Option Int32 :=
  (f_Mo_valueOf_J58  x v1 v2 v3 v4 0)
def f_Mo_valueOf_J28 (x : q_W) (v1 : Int32) (v2 : Int32) (v3 : Int32) (s0 : Int32) : Option Int32 :=
  (q_ld x 36 18 v1).bind fun w6 =>
  if w6 < 0 then
    (f_Mo_valueOf_J57  x v1 v2 v3 s0)
  else
    (q_ld x 36 18 v1).bind fun w7 =>
    (q_ld x 50 18 w7).bind fun w8 =>
    if w8 = 0 then
      (f_Mo_valueOf_J57  x v1 v2 v3 s0)
    else
      (f_Mo_valueOf_J58  x v1 v2 v3 s0 1)
def f_Mo_valueOf_J27 (x : q_W) (v1 : Int32) (v2 : Int32) (v3 : Int32) : Option Int32 :=
  (f_Mo_valueOf_J28  x v1 v2 v3 0)
def f_Mo_valueOf (x : q_W) (a1 : Int32) (a2 : Int32) (a3 : Int32) : Option Int32 :=
  (q_ld x 35 18 a1).bind fun w1 =>
  if w1 < 0 then
    (f_Mo_valueOf_J27  x a1 a2 a3)
  else
    (q_ld x 35 18 a1).bind fun w2 =>
    (q_ld x 50 18 w2).bind fun w3 =>
    if w3 = 0 then
      (f_Mo_valueOf_J27  x a1 a2 a3)
    else
      (f_Mo_valueOf_J28  x a1 a2 a3 1)
def f_Mo_look_J243 (K172 : q_W → Int32 → Int32 → Int32 → Int32 → Option q_W) (E172 : q_W → Int32 → Int32 → Int32 → Option q_W) (x : q_W) (v1 : Int32) (v4 : Int32) (v5 : Int32) (v6 : Int32) (v7 : Int32) (s0 : Int32) : Option q_W :=
  (q_ld x 36 18 v6).bind fun w40 =>
  (q_ld x 50 18 w40).bind fun w41 =>
  if ¬ w41 = v7 then
    (K172 x v1 s0 v4 (v5 + 1))
  else
    q_let ((v4 ||| (1 <<< (v5 &&& 31)))) fun v42 =>
    (K172 x v1 s0 v42 (v5 + 1))
def f_Mo_look_J219 (K172 : q_W → Int32 → Int32 → Int32 → Int32 → Option q_W) (E172 : q_W → Int32 → Int32 → Int32 → Option q_W) (x : q_W) (v1 : Int32) (v3 : Int32) (v4 : Int32) (v5 : Int32) (v6 : Int32) (s0 : Int32) : Option q_W :=
  (q_ld x 50 18 v6).bind fun w34 =>
  if ¬ w34 = s0 then
    (f_Mo_look_J243 K172 E172 x v1 v4 v5 v6 s0 v3)
  else
    (f_Mo_look_J243 K172 E172 x v1 v4 v5 v6 s0 (v3 ||| (1 <<< (v5 &&& 31))))
def f_Mo_look_J214 (K172 : q_W → Int32 → Int32 → Int32 → Int32 → Option q_W) (E172 : q_W → Int32 → Int32 → Int32 → Option q_W) (x : q_W) (v1 : Int32) (v3 : Int32) (v4 : Int32) (v5 : Int32) (v6 : Int32) : Option q_W :=
  (f_Mo_look_J219 K172 E172 x v1 v3 v4 v5 v6 1)
def f_Mo_look_L172 (E172 : q_W → Int32 → Int32 → Int32 → Option q_W) : Nat → q_W → Int32 → Int32 → Int32 → Int32 → Option q_W
  | 0 => fun _ _ _ _ _ => none
  | n + 1 => fun x v1 v3 v4 v5 =>
    if x.2 32 11 ≤ v5 then
      (E172 x v1 v3 v4)
    else
      (q_ld x 39 5 v5).bind fun w15 =>
      (q_ld x 34 18 w15).bind fun w16 =>
      if w16 = 7 then
        (f_Mo_look_J214 (f_Mo_look_L172 E172 n) E172 x v1 v3 v4 v5 w15)
      else
        (q_ld x 34 18 w15).bind fun w17 =>
        if ¬ w17 = 9 then
          (f_Mo_look_J219 (f_Mo_look_L172 E172 n) E172 x v1 v3 v4 v5 w15 0)
        else
          (f_Mo_look_J214 (f_Mo_look_L172 E172 n) E172 x v1 v3 v4 v5 w15)
def f_Mo_look_J134 (K84 : q_W → Int32 → Int32 → Int32 → Option q_W) (E84 : q_W → Int32 → Int32 → Option q_W) (x : q_W) (v1 : Int32) (v2 : Int32) (v3 : Int32) (s0 : Int32) : Option q_W :=
  if s0 = 0 then
    (K84 x v1 v2 (v3 + 1))
  else
    q_let ((v2 ||| (1 <<< (v3 &&& 31)))) fun v36 =>
    (K84 x v1 v36 (v3 + 1))
def f_Mo_look_L84 (E84 : q_W → Int32 → Int32 → Option q_W) : Nat → q_W → Int32 → Int32 → Int32 → Option q_W
  | 0 => fun _ _ _ _ => none
  | n + 1 => fun x v1 v2 v3 =>
    if x.2 32 9 ≤ v3 then
      (E84 x v1 v2)
    else
      (q_ld x 38 5 v3).bind fun w21 =>
      (q_ld x 34 18 w21).bind fun w22 =>
      if ¬ w22 = 6 then
        (q_ld x 50 18 w21).bind fun w23 =>
        (f_Mo_look_J134 (f_Mo_look_L84 E84 n) E84 x v1 v2 v3 w23)
      else
        (q_ld x 36 18 w21).bind fun w24 =>
        (q_ld x 50 18 w24).bind fun w25 =>
        (f_Mo_look_J134 (f_Mo_look_L84 E84 n) E84 x v1 v2 v3 w25)
def f_Mo_look_J43 (K2 : q_W → Int32 → Int32 → Option q_W) (E2 : q_W → Int32 → Option q_W) (x : q_W) (v1 : Int32) (v2 : Int32) (s0 : Int32) : Option q_W :=
  (f_Mo_valueOf x v2 s0 v1).bind fun w38 =>
  (q_sto x 50 18 v2 (vp_nar .boolean w38)).bind fun x39 =>
  (K2 x39 v1 (v2 + 1))
def f_Mo_look_J42 (K2 : q_W → Int32 → Int32 → Option q_W) (E2 : q_W → Int32 → Option q_W) (x : q_W) (v1 : Int32) (v2 : Int32) : Option q_W :=
  (f_Mo_look_J43 K2 E2 x v1 v2 0)
def f_Mo_look_L2 (E2 : q_W → Int32 → Option q_W) : Nat → q_W → Int32 → Int32 → Option q_W
  | 0 => fun _ _ _ => none
  | n + 1 => fun x v1 v2 =>
    if x.2 32 4 ≤ v2 then
      (E2 x v1)
    else
      (q_ld x 34 18 v2).bind fun w28 =>
      (f_Mo_isTemporal x w28).bind fun w29 =>
      if w29 = 0 then
        (f_Mo_look_J42 (f_Mo_look_L2 E2 n) E2 x v1 v2)
      else
        (q_ld x 37 18 v2).bind fun w30 =>
        if ¬ ((v1 >>> ((3 + w30) &&& 31)) &&& 1) = 1 then
          (f_Mo_look_J42 (f_Mo_look_L2 E2 n) E2 x v1 v2)
        else
          (f_Mo_look_J43 (f_Mo_look_L2 E2 n) E2 x v1 v2 1)
def f_Mo_look (x : q_W) (a1 : Int32) : Option q_W :=
  (f_Mo_look_L2 (fun x1 u2 => (q_ld x1 50 18 ((x1.2 32 4) - 1)).bind fun w3 =>
  (q_sto x1 47 256 u2 (vp_nar .boolean w3)).bind fun x4 =>
  (f_Mo_look_L84 (fun x5 u6 u7 => (q_sto x5 46 256 u6 u7).bind fun x8 =>
  (f_Mo_look_L172 (fun x9 u10 u11 u12 => (q_sto x9 48 256 u10 u11).bind fun x13 =>
  (q_sto x13 49 256 u10 u12).bind fun x14 =>
  some x14) q_fu x8 u6 0 0 0)) q_fu x4 u2 0 0)) q_fu x a1 0)
def f_Mo_takeOut_L149 (K25 : q_W → Int32 → Option q_W) : Nat → q_W → Int32 → Int32 → Option q_W
  | 0 => fun _ _ _ => none
  | n + 1 => fun x v1 v2 =>
    (f_Mo_count x).bind fun w10 =>
    if w10 ≤ v2 then
      (K25 x v1)
    else
      (q_ld x 51 256 v2).bind fun w11 =>
      if w11 = 0 then
        ((f_Mo_takeOut_L149 K25 n) x v1 (v2 + 1))
      else
        (f_Mo_leadsToOne x v2).bind fun w12 =>
        if ¬ w12 = 0 then
          ((f_Mo_takeOut_L149 K25 n) x v1 (v2 + 1))
        else
          (q_sto x 51 256 v2 (vp_nar .boolean 0)).bind fun x13 =>
          ((f_Mo_takeOut_L149 K25 n) x13 1 (v2 + 1))
def f_Mo_takeOut_L117 (K25 : q_W → Int32 → Option q_W) (E117 : q_W → Int32 → Option q_W) : Nat → q_W → Int32 → Int32 → Option q_W
  | 0 => fun _ _ _ => none
  | n + 1 => fun x v1 v2 =>
    (f_Mo_count x).bind fun w17 =>
    if w17 ≤ v2 then
      (E117 x v1)
    else
      (q_ld x 51 256 v2).bind fun w18 =>
      (q_sto x 52 256 v2 (vp_nar .boolean w18)).bind fun x19 =>
      ((f_Mo_takeOut_L117 K25 E117 n) x19 v1 (v2 + 1))
def f_Mo_takeOut_L48 (K25 : q_W → Int32 → Option q_W) (K33 : q_W → Int32 → Int32 → Option q_W) : Nat → q_W → Int32 → Int32 → Int32 → Option q_W
  | 0 => fun _ _ _ _ => none
  | n + 1 => fun x v1 v2 v3 =>
    (f_Mo_count x).bind fun w21 =>
    if w21 ≤ v3 then
      (K33 x v1 (v2 + 1))
    else
      (q_ld x 51 256 v3).bind fun w22 =>
      if w22 = 0 then
        ((f_Mo_takeOut_L48 K25 K33 n) x v1 v2 (v3 + 1))
      else
        (q_ld x 48 256 v3).bind fun w23 =>
        if ¬ ((w23 >>> (v2 &&& 31)) &&& 1) = 1 then
          ((f_Mo_takeOut_L48 K25 K33 n) x v1 v2 (v3 + 1))
        else
          (q_ld x 54 1280 ((256 * v2) + v3)).bind fun w24 =>
          if 0 ≤ w24 then
            ((f_Mo_takeOut_L48 K25 K33 n) x v1 v2 (v3 + 1))
          else
            (q_sto x 51 256 v3 (vp_nar .boolean 0)).bind fun x25 =>
            ((f_Mo_takeOut_L48 K25 K33 n) x25 1 v2 (v3 + 1))
def f_Mo_takeOut_L33 (K25 : q_W → Int32 → Option q_W) : Nat → q_W → Int32 → Int32 → Option q_W
  | 0 => fun _ _ _ => none
  | n + 1 => fun x v1 v2 =>
    if x.2 32 11 ≤ v2 then
      (f_Mo_takeOut_L117 K25 (fun x5 u6 => (f_Mo_noteSome x5).bind fun x7 =>
      (f_Mo_takeOut_L149 K25 q_fu x7 u6 0)) q_fu x v1 0)
    else
      (f_Mo_countSteps x v2).bind fun x8 =>
      (f_Mo_takeOut_L48 K25 (f_Mo_takeOut_L33 K25 n) q_fu x8 v1 v2 0)
def f_Mo_takeOut_L25 : Nat → q_W → Int32 → Option q_W
  | 0 => fun _ _ => none
  | n + 1 => fun x v1 =>
    if v1 = 0 then
      some x
    else
      (f_Mo_takeOut_L33 (f_Mo_takeOut_L25  n) q_fu x 0 0)
def f_Mo_takeOut_L2 : Nat → q_W → Int32 → Option q_W
  | 0 => fun _ _ => none
  | n + 1 => fun x v1 =>
    (f_Mo_count x).bind fun w1 =>
    if w1 ≤ v1 then
      (f_Mo_takeOut_L25  q_fu x 1)
    else
      (q_sto x 51 256 v1 (vp_nar .boolean 1)).bind fun x2 =>
      ((f_Mo_takeOut_L2  n) x2 (v1 + 1))
def f_Mo_takeOut (x : q_W) : Option q_W :=
  (f_Mo_takeOut_L2  q_fu x 0)
def f_Mo_formula_L209 (E209 : q_W → Option (Int32 × q_W)) : Nat → q_W → Int32 → Option (Int32 × q_W)
  | 0 => fun _ _ => none
  | n + 1 => fun x v2 =>
    (f_Mo_count x).bind fun w35 =>
    if w35 ≤ v2 then
      (E209 x )
    else
      (f_Mo_look x v2).bind fun x36 =>
      ((f_Mo_formula_L209 E209 n) x36 (v2 + 1))
def f_Mo_formula_L152 : Nat → q_W → Int32 → Option (Int32 × q_W)
  | 0 => fun _ _ => none
  | n + 1 => fun x v2 =>
    if x.2 32 9 ≤ v2 then
      (f_Mo_formula_L209 (fun x25 => (f_Mo_takeOut x25).bind fun x26 =>
      (f_Mo_goWalk x26).bind fun x27 =>
      some (x27.2 32 4, x27)) q_fu x 0)
    else
      (q_ld x 38 5 v2).bind fun w28 =>
      (q_ld x 34 18 w28).bind fun w29 =>
      if w29 = 6 then
        ((f_Mo_formula_L152  n) x (v2 + 1))
      else
        (q_ld x 38 5 v2).bind fun w30 =>
        (q_sto x 39 5 (x.2 32 11) w30).bind fun x31 =>
        q_let (q_wr x31 32 11 ((x31.2 32 11) + 1)) fun x32 =>
        ((f_Mo_formula_L152  n) x32 (v2 + 1))
def f_Mo_formula_L64 : Nat → q_W → Int32 → Option (Int32 × q_W)
  | 0 => fun _ _ => none
  | n + 1 => fun x v2 =>
    if x.2 32 4 ≤ v2 then
      (f_Mo_formula_L152  q_fu x 0)
    else
      (q_ld x 40 18 v2).bind fun w11 =>
      (q_sto x 34 18 v2 w11).bind fun x12 =>
      (q_ld x12 41 18 v2).bind fun w13 =>
      (q_sto x12 35 18 v2 w13).bind fun x14 =>
      (q_ld x14 42 18 v2).bind fun w15 =>
      (q_sto x14 36 18 v2 w15).bind fun x16 =>
      (q_ld x16 43 18 v2).bind fun w17 =>
      (q_sto x16 37 18 v2 w17).bind fun x18 =>
      (q_ld x18 34 18 v2).bind fun w19 =>
      (f_Mo_isTemporal x18 w19).bind fun w20 =>
      if w20 = 0 then
        ((f_Mo_formula_L64  n) x18 (v2 + 1))
      else
        (q_ld x18 37 18 v2).bind fun w21 =>
        (q_sto x18 38 5 w21 v2).bind fun x22 =>
        ((f_Mo_formula_L64  n) x22 (v2 + 1))
def f_Mo_formula_J24 (x : q_W) (s0 : Int32) : Option (Int32 × q_W) :=
  q_let (q_wr x 32 0 s0) fun x5 =>
  if x5.2 32 0 ≤ 0 then
    q_let (q_wr x5 32 3 1) fun x6 =>
    q_let (q_wr x6 32 4 (x6.2 32 13)) fun x7 =>
    q_let (q_wr x7 32 9 (x7.2 32 18)) fun x8 =>
    q_let (q_wr x8 32 11 0) fun x9 =>
    (f_Mo_formula_L64  q_fu x9 0)
  else
    some (0, x5)
def f_Mo_formula (x : q_W) : Option (Int32 × q_W) :=
  q_let (x.2 32 2) fun v1 =>
  q_let (q_wr x 32 2 0) fun x2 =>
  (f_Mo_reads x2 v1).bind fun q3 =>
  if q3.1 = 0 then
    (f_Mo_formula_J24  q3.2 1)
  else
    (f_Mo_formula_J24  q3.2 0)
def f_Mo_refused_J21 (x : q_W) (s0 : Int32) : Option (Int32 × q_W) :=
  q_let (q_wr x 32 0 s0) fun x3 =>
  if x3.2 32 0 ≤ 0 then
    some ((q_nb 0), x3)
  else
    some ((q_nb 1), x3)
def f_Mo_refused (x : q_W) (a1 : Int32) : Option (Int32 × q_W) :=
  if ¬ x.2 32 3 = 0 then
    if a1 = 0 then
      (f_Mo_refused_J21  x 2)
    else
      (f_Mo_refused_J21  x 0)
  else
    (f_Mo_refused_J21  x 1)
def f_Mo_isState (x : q_W) (a1 : Int32) : Option Int32 :=
  if a1 < 0 then
    some (q_nb 0)
  else
    if x.2 32 3 = 0 then
      some (q_nb 0)
    else
      (f_Mo_count x).bind fun w1 =>
      if w1 ≤ a1 then
        some (q_nb 0)
      else
        some (q_nb 1)
def f_Mo_states (x : q_W) : Option (Int32 × q_W) :=
  (f_Mo_refused x 1).bind fun q1 =>
  if q1.1 = 0 then
    (f_Mo_count q1.2).bind fun w2 =>
    some (w2, q1.2)
  else
    some (0, q1.2)
def f_Mo_isAt (x : q_W) (a1 : Int32) : Option (Int32 × q_W) :=
  (f_Mo_isState x a1).bind fun w1 =>
  (f_Mo_refused x w1).bind fun q2 =>
  if ¬ q2.1 = 0 then
    some ((q_nb 0), q2.2)
  else
    (q_ld q2.2 47 256 a1).bind fun w3 =>
    if w3 = 0 then
      some ((q_nb 0), q2.2)
    else
      some ((q_nb 1), q2.2)
def f_Mo_leads_J22 (x : q_W) (v1 : Int32) (v2 : Int32) (s0 : Int32) : Option (Int32 × q_W) :=
  (f_Mo_refused x s0).bind fun q5 =>
  if ¬ q5.1 = 0 then
    some ((q_nb 0), q5.2)
  else
    (f_Mo_goes q5.2 v1 v2).bind fun w6 =>
    if w6 = 0 then
      some ((q_nb 0), q5.2)
    else
      some ((q_nb 1), q5.2)
def f_Mo_leads_J21 (x : q_W) (v1 : Int32) (v2 : Int32) : Option (Int32 × q_W) :=
  (f_Mo_leads_J22  x v1 v2 0)
def f_Mo_leads (x : q_W) (a1 : Int32) (a2 : Int32) : Option (Int32 × q_W) :=
  (f_Mo_isState x a1).bind fun w1 =>
  if w1 = 0 then
    (f_Mo_leads_J21  x a1 a2)
  else
    (f_Mo_isState x a2).bind fun w2 =>
    if w2 = 0 then
      (f_Mo_leads_J21  x a1 a2)
    else
      (f_Mo_leads_J22  x a1 a2 1)
def f_Mo_lasts (x : q_W) (a1 : Int32) : Option (Int32 × q_W) :=
  (f_Mo_isState x a1).bind fun w1 =>
  (f_Mo_refused x w1).bind fun q2 =>
  if ¬ q2.1 = 0 then
    some ((q_nb 0), q2.2)
  else
    (q_ld q2.2 51 256 a1).bind fun w3 =>
    if w3 = 0 then
      some ((q_nb 0), q2.2)
    else
      some ((q_nb 1), q2.2)
def f_Mo_lasting_L14 : Nat → q_W → Int32 → Int32 → Option (Int32 × q_W)
  | 0 => fun _ _ _ => none
  | n + 1 => fun x v1 v2 =>
    (f_Mo_count x).bind fun w3 =>
    if w3 ≤ v2 then
      some (v1, x)
    else
      (q_ld x 51 256 v2).bind fun w4 =>
      if w4 = 0 then
        ((f_Mo_lasting_L14  n) x v1 (v2 + 1))
      else
        q_let ((v1 + 1)) fun v5 =>
        ((f_Mo_lasting_L14  n) x v5 (v2 + 1))
def f_Mo_lasting (x : q_W) : Option (Int32 × q_W) :=
  (f_Mo_refused x 1).bind fun q1 =>
  if q1.1 = 0 then
    (f_Mo_lasting_L14  q_fu q1.2 0 0)
  else
    some (0, q1.2)
def f_Mo_promises (x : q_W) : Option (Int32 × q_W) :=
  (f_Mo_refused x 1).bind fun q1 =>
  if q1.1 = 0 then
    some (q1.2.2 32 11, q1.2)
  else
    some (0, q1.2)
def f_Mo_can (x : q_W) : Option (Int32 × q_W) :=
  (f_Mo_refused x 1).bind fun q1 =>
  if ¬ q1.1 = 0 then
    some ((q_nb 0), q1.2)
  else
    if q1.2.2 32 32 < 0 then
      some ((q_nb 0), q1.2)
    else
      some ((q_nb 1), q1.2)
def f_Mo_stem (x : q_W) : Option (Int32 × q_W) :=
  (f_Mo_refused x 1).bind fun q1 =>
  if q1.1 = 0 then
    some (q1.2.2 32 32, q1.2)
  else
    some (0, q1.2)
def f_Mo_loop (x : q_W) : Option (Int32 × q_W) :=
  (f_Mo_refused x 1).bind fun q1 =>
  if q1.1 = 0 then
    some (q1.2.2 32 33, q1.2)
  else
    some (0, q1.2)
def f_Mo_step_J41 (x : q_W) (v1 : Int32) (s0 : Int32) : Option (Int32 × q_W) :=
  q_let (q_wr x 32 0 s0) fun x5 =>
  if x5.2 32 0 ≤ 0 then
    (q_ld x5 55 1280 v1).bind fun w6 =>
    some (w6, x5)
  else
    some (0, x5)
def f_Mo_step_J36 (x : q_W) (v1 : Int32) : Option (Int32 × q_W) :=
  (f_Mo_step_J41  x v1 2)
def f_Mo_step_J15 (x : q_W) (v1 : Int32) : Option (Int32 × q_W) :=
  (f_Mo_step_J41  x v1 1)
def f_Mo_step (x : q_W) (a1 : Int32) : Option (Int32 × q_W) :=
  if x.2 32 3 = 0 then
    (f_Mo_step_J15  x a1)
  else
    if 0 ≤ x.2 32 32 then
      if a1 < 0 then
        (f_Mo_step_J36  x a1)
      else
        if a1 < ((x.2 32 32) + (x.2 32 33)) then
          (f_Mo_step_J41  x a1 0)
        else
          (f_Mo_step_J36  x a1)
    else
      (f_Mo_step_J15  x a1)
def f_Mo_shape_L71 : Nat → q_W → Int32 → Int32 → Int32 → Option q_W
  | 0 => fun _ _ _ _ => none
  | n + 1 => fun x v1 v2 v3 =>
    if 16 ≤ v3 then
      q_let (q_wr x 32 36 v1) fun x11 =>
      q_let (q_wr x11 32 37 v2) fun x12 =>
      some x12
    else
      (q_sto x 57 16 v3 0).bind fun x13 =>
      ((f_Mo_shape_L71  n) x13 v1 v2 (v3 + 1))
def f_Mo_shape_L48 : Nat → q_W → Int32 → Int32 → Int32 → Option q_W
  | 0 => fun _ _ _ _ => none
  | n + 1 => fun x v1 v2 v3 =>
    if 16 ≤ v3 then
      q_let ((v1 + v2)) fun v8 =>
      (f_Mo_shape_L71  q_fu x v1 v2 v8)
    else
      (q_sto x 57 16 v3 0).bind fun x9 =>
      ((f_Mo_shape_L48  n) x9 v1 v2 (v3 + 1))
def f_Mo_shape_J27 (x : q_W) (v1 : Int32) (v2 : Int32) (s0 : Int32) : Option q_W :=
  q_let (q_wr x 32 0 s0) fun x5 =>
  if x5.2 32 0 ≤ 0 then
    q_let (((x5.2 32 36) + (x5.2 32 37))) fun v6 =>
    (f_Mo_shape_L48  q_fu x5 v1 v2 v6)
  else
    some x5
def f_Mo_shape_J22 (x : q_W) (v1 : Int32) (v2 : Int32) : Option q_W :=
  (f_Mo_shape_J27  x v1 v2 1)
def f_Mo_shape (x : q_W) (a1 : Int32) (a2 : Int32) : Option q_W :=
  if a1 < 0 then
    (f_Mo_shape_J22  x a1 a2)
  else
    if 8 < a1 then
      (f_Mo_shape_J22  x a1 a2)
    else
      if a2 < 1 then
        (f_Mo_shape_J22  x a1 a2)
      else
        if a2 ≤ 8 then
          (f_Mo_shape_J27  x a1 a2 0)
        else
          (f_Mo_shape_J22  x a1 a2)
def f_Mo_set_J23 (x : q_W) (v1 : Int32) (v2 : Int32) (s0 : Int32) : Option (Int32 × q_W) :=
  q_let (q_wr x 32 0 s0) fun x3 =>
  if x3.2 32 0 ≤ 0 then
    (q_ld x3 57 16 v1).bind fun w4 =>
    (q_sto x3 57 16 v1 (v2 &&& 7)).bind fun x5 =>
    some (w4, x5)
  else
    some (0, x3)
def f_Mo_set_J18 (x : q_W) (v1 : Int32) (v2 : Int32) : Option (Int32 × q_W) :=
  (f_Mo_set_J23  x v1 v2 1)
def f_Mo_set (x : q_W) (a1 : Int32) (a2 : Int32) : Option (Int32 × q_W) :=
  if a1 < 0 then
    (f_Mo_set_J18  x a1 a2)
  else
    if a1 < ((x.2 32 36) + (x.2 32 37)) then
      (f_Mo_set_J23  x a1 a2 0)
    else
      (f_Mo_set_J18  x a1 a2)
def f_Mo_adopt_L53 : Nat → q_W → Int32 → Option (Int32 × q_W)
  | 0 => fun _ _ => none
  | n + 1 => fun x v1 =>
    if 16 ≤ v1 then
      some ((q_nb 1), x)
    else
      if ((x.2 32 32) + (x.2 32 33)) ≤ v1 then
        (q_sto x 57 16 v1 0).bind fun x8 =>
        ((f_Mo_adopt_L53  n) x8 (v1 + 1))
      else
        (q_ld x 55 1280 v1).bind fun w9 =>
        (q_sto x 57 16 v1 (w9 &&& 7)).bind fun x10 =>
        ((f_Mo_adopt_L53  n) x10 (v1 + 1))
def f_Mo_adopt (x : q_W) : Option (Int32 × q_W) :=
  (f_Mo_refused x 1).bind fun q1 =>
  if ¬ q1.1 = 0 then
    some ((q_nb 0), q1.2)
  else
    if q1.2.2 32 32 < 0 then
      some ((q_nb 0), q1.2)
    else
      if 8 < q1.2.2 32 32 then
        some ((q_nb 0), q1.2)
      else
        if q1.2.2 32 33 ≤ 8 then
          q_let (q_wr q1.2 32 36 (q1.2.2 32 32)) fun x2 =>
          q_let (q_wr x2 32 37 (x2.2 32 33)) fun x3 =>
          (f_Mo_adopt_L53  q_fu x3 0)
        else
          some ((q_nb 0), q1.2)
def f_Mo_placeOf (x : q_W) (a1 : Int32) : Option Int32 :=
  if x.2 32 36 ≤ a1 then
    if x.2 32 37 = 0 then none else
    some ((x.2 32 36) + ((a1 - (x.2 32 36)) - (a1 - (x.2 32 36)) / (x.2 32 37) * (x.2 32 37)))
  else
    some a1
def f_Mo_letter_J10 (x : q_W) (v1 : Int32) (s0 : Int32) : Option (Int32 × q_W) :=
  q_let (q_wr x 32 0 s0) fun x2 =>
  if x2.2 32 0 ≤ 0 then
    (f_Mo_placeOf x2 v1).bind fun w3 =>
    (q_ld x2 57 16 w3).bind fun w4 =>
    some (w4, x2)
  else
    some (0, x2)
def f_Mo_letter (x : q_W) (a1 : Int32) : Option (Int32 × q_W) :=
  if 0 ≤ a1 then
    (f_Mo_letter_J10  x a1 0)
  else
    (f_Mo_letter_J10  x a1 1)
def f_Mo_spread_J207 (K63 : q_W → Int32 → Int32 → Int32 → Option q_W) (K72 : q_W → Int32 → Int32 → Int32 → Int32 → Option q_W) (x : q_W) (v1 : Int32) (v2 : Int32) (v3 : Int32) (v4 : Int32) (s0 : Int32) : Option q_W :=
  (q_ld x 57 16 v4).bind fun w27 =>
  (f_Mo_valueOf x v1 s0 w27).bind fun w28 =>
  (q_sto x 58 288 ((16 * v1) + v4) (vp_nar .boolean w28)).bind fun x29 =>
  (K72 x29 v1 v2 v3 (v4 + 1))
def f_Mo_spread_J164 (K63 : q_W → Int32 → Int32 → Int32 → Option q_W) (K72 : q_W → Int32 → Int32 → Int32 → Int32 → Option q_W) (x : q_W) (v1 : Int32) (v2 : Int32) (v3 : Int32) (v4 : Int32) (v5 : Int32) : Option q_W :=
  (q_ld x 34 18 v1).bind fun w22 =>
  if ¬ w22 = 6 then
    (q_ld x 58 288 ((16 * v1) + v5)).bind fun w23 =>
    (f_Mo_spread_J207 K63 K72 x v1 v2 v3 v4 w23)
  else
    (q_ld x 36 18 v1).bind fun w24 =>
    (q_ld x 58 288 ((16 * w24) + v5)).bind fun w25 =>
    (f_Mo_spread_J207 K63 K72 x v1 v2 v3 v4 w25)
def f_Mo_spread_J97 (K63 : q_W → Int32 → Int32 → Int32 → Option q_W) (K72 : q_W → Int32 → Int32 → Int32 → Int32 → Option q_W) (x : q_W) (v1 : Int32) (v2 : Int32) (v3 : Int32) (v4 : Int32) (s0 : Int32) : Option q_W :=
  (q_ld x 35 18 v1).bind fun w12 =>
  if w12 < 0 then
    (f_Mo_spread_J164 K63 K72 x v1 v2 v3 v4 s0)
  else
    (q_ld x 35 18 v1).bind fun w13 =>
    (q_ld x 35 18 v1).bind fun w14 =>
    (q_ld x 58 288 ((16 * w14) + v4)).bind fun w15 =>
    (q_sto x 50 18 w13 (vp_nar .boolean w15)).bind fun x16 =>
    (q_ld x16 36 18 v1).bind fun w17 =>
    (q_ld x16 36 18 v1).bind fun w18 =>
    (q_ld x16 58 288 ((16 * w18) + v4)).bind fun w19 =>
    (q_sto x16 50 18 w17 (vp_nar .boolean w19)).bind fun x20 =>
    (f_Mo_spread_J164 K63 K72 x20 v1 v2 v3 v4 s0)
def f_Mo_spread_L72 (K63 : q_W → Int32 → Int32 → Int32 → Option q_W) : Nat → q_W → Int32 → Int32 → Int32 → Int32 → Option q_W
  | 0 => fun _ _ _ _ _ => none
  | n + 1 => fun x v1 v2 v3 v4 =>
    if v2 ≤ v4 then
      (K63 x v1 v2 (v3 + 1))
    else
      if v2 ≤ (v4 + 1) then
        (f_Mo_spread_J97 K63 (f_Mo_spread_L72 K63 n) x v1 v2 v3 v4 (x.2 32 36))
      else
        (f_Mo_spread_J97 K63 (f_Mo_spread_L72 K63 n) x v1 v2 v3 v4 (v4 + 1))
def f_Mo_spread_L63 : Nat → q_W → Int32 → Int32 → Int32 → Option q_W
  | 0 => fun _ _ _ _ => none
  | n + 1 => fun x v1 v2 v3 =>
    if 18 ≤ v3 then
      some x
    else
      (f_Mo_spread_L72 (f_Mo_spread_L63  n) q_fu x v1 v2 v3 0)
def f_Mo_spread_J49 (K12 : q_W → Int32 → Int32 → Int32 → Option q_W) (x : q_W) (v1 : Int32) (v2 : Int32) (v3 : Int32) (s0 : Int32) : Option q_W :=
  (q_sto x 58 288 s0 (vp_nar .boolean 1)).bind fun x9 =>
  (K12 x9 v1 v2 (v3 + 1))
def f_Mo_spread_L12 : Nat → q_W → Int32 → Int32 → Int32 → Option q_W
  | 0 => fun _ _ _ _ => none
  | n + 1 => fun x v1 v2 v3 =>
    if v2 ≤ v3 then
      (f_Mo_spread_L63  q_fu x v1 v2 0)
    else
      (q_ld x 34 18 v1).bind fun w2 =>
      if w2 = 8 then
        (f_Mo_spread_J49 (f_Mo_spread_L12  n) x v1 v2 v3 ((16 * v1) + v3))
      else
        (q_ld x 34 18 v1).bind fun w3 =>
        if ¬ w3 = 10 then
          (q_sto x 58 288 ((16 * v1) + v3) (vp_nar .boolean 0)).bind fun x4 =>
          ((f_Mo_spread_L12  n) x4 v1 v2 (v3 + 1))
        else
          (f_Mo_spread_J49 (f_Mo_spread_L12  n) x v1 v2 v3 ((16 * v1) + v3))
def f_Mo_spread (x : q_W) (a1 : Int32) : Option q_W :=
  q_let (((x.2 32 36) + (x.2 32 37))) fun v1 =>
  (f_Mo_spread_L12  q_fu x a1 v1 0)
def f_Mo_holds_L20 (E20 : q_W → Int32 → Option (Int32 × q_W)) : Nat → q_W → Int32 → Int32 → Option (Int32 × q_W)
  | 0 => fun _ _ _ => none
  | n + 1 => fun x v1 v2 =>
    if x.2 32 4 ≤ v2 then
      (E20 x v1)
    else
      (f_Mo_spread x v2).bind fun x8 =>
      ((f_Mo_holds_L20 E20 n) x8 v1 (v2 + 1))
def f_Mo_holds_J10 (x : q_W) (v1 : Int32) (s0 : Int32) : Option (Int32 × q_W) :=
  (f_Mo_refused x s0).bind fun q2 =>
  if q2.1 = 0 then
    (f_Mo_holds_L20 (fun x3 u4 => (f_Mo_placeOf x3 u4).bind fun w5 =>
    (q_ld x3 58 288 ((16 * ((x3.2 32 4) - 1)) + w5)).bind fun w6 =>
    some ((q_nb w6), x3)) q_fu q2.2 v1 0)
  else
    some ((q_nb 0), q2.2)
def f_Mo_holds (x : q_W) (a1 : Int32) : Option (Int32 × q_W) :=
  if a1 < 0 then
    (f_Mo_holds_J10  x a1 0)
  else
    (f_Mo_holds_J10  x a1 1)
end
