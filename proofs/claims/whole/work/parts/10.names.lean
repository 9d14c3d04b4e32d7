-- ===== PART A: goes FIRST, ahead of the names: the tables' words, and 'selects' of the private methods out of them =====
/-- a private method of a class that the tables say can be made, by its rows of tables_1 -/
def lw_okq (q : MethodName × Nat) : Prop := (q.1.cls ≠ "java/lang/invoke/MethodHandle" ∧ q.1.cls ≠ "java/lang/invoke/VarHandle") ∧ Cond.instantiable q.1.cls q.2 ∈ tables_1 ∧ Cond.privateMethod q.1 ∈ tables_1 ∧ Cond.instanceMethod q.1 ∈ tables_1
theorem lw_p0 : lw_okq (⟨"java/lang/Throwable", "fillInStackTrace", "(I)Ljava/lang/Throwable;"⟩, 6) := ⟨⟨by decide +kernel, by decide +kernel⟩, List.mem_of_getElem? (i := 232) (by decide +kernel), List.mem_of_getElem? (i := 230) (by decide +kernel), List.mem_of_getElem? (i := 231) (by decide +kernel)⟩
theorem lw_p1 : lw_okq (⟨"LassoDesk$Line", "temporalsBefore", "(I)I"⟩, 3) := ⟨⟨by decide +kernel, by decide +kernel⟩, List.mem_of_getElem? (i := 24) (by decide +kernel), List.mem_of_getElem? (i := 281) (by decide +kernel), List.mem_of_getElem? (i := 282) (by decide +kernel)⟩
theorem lw_p2 : lw_okq (⟨"LassoDesk$Line", "signAt", "(I)I"⟩, 3) := ⟨⟨by decide +kernel, by decide +kernel⟩, List.mem_of_getElem? (i := 24) (by decide +kernel), List.mem_of_getElem? (i := 285) (by decide +kernel), List.mem_of_getElem? (i := 286) (by decide +kernel)⟩
theorem lw_p3 : lw_okq (⟨"LassoDesk$Line", "readLevel", "(LLassoDesk$Formula;II)I"⟩, 3) := ⟨⟨by decide +kernel, by decide +kernel⟩, List.mem_of_getElem? (i := 24) (by decide +kernel), List.mem_of_getElem? (i := 292) (by decide +kernel), List.mem_of_getElem? (i := 293) (by decide +kernel)⟩
theorem lw_p4 : lw_okq (⟨"LassoDesk$Line", "readSimple", "(LLassoDesk$Formula;I)I"⟩, 3) := ⟨⟨by decide +kernel, by decide +kernel⟩, List.mem_of_getElem? (i := 24) (by decide +kernel), List.mem_of_getElem? (i := 296) (by decide +kernel), List.mem_of_getElem? (i := 297) (by decide +kernel)⟩
theorem lw_p5 : lw_okq (⟨"LassoDesk$Line", "readBracket", "(LLassoDesk$Formula;I)I"⟩, 3) := ⟨⟨by decide +kernel, by decide +kernel⟩, List.mem_of_getElem? (i := 24) (by decide +kernel), List.mem_of_getElem? (i := 305) (by decide +kernel), List.mem_of_getElem? (i := 306) (by decide +kernel)⟩
theorem lw_p6 : lw_okq (⟨"LassoDesk", "requireFormula", "()V"⟩, 8) := ⟨⟨by decide +kernel, by decide +kernel⟩, List.mem_of_getElem? (i := 16) (by decide +kernel), List.mem_of_getElem? (i := 333) (by decide +kernel), List.mem_of_getElem? (i := 334) (by decide +kernel)⟩
theorem lw_p7 : lw_okq (⟨"LassoDesk", "requireState", "(I)V"⟩, 8) := ⟨⟨by decide +kernel, by decide +kernel⟩, List.mem_of_getElem? (i := 16) (by decide +kernel), List.mem_of_getElem? (i := 365) (by decide +kernel), List.mem_of_getElem? (i := 366) (by decide +kernel)⟩
theorem lw_p8 : lw_okq (⟨"LassoDesk$Formula", "isPartAt", "(III)Z"⟩, 10) := ⟨⟨by decide +kernel, by decide +kernel⟩, List.mem_of_getElem? (i := 115) (by decide +kernel), List.mem_of_getElem? (i := 389) (by decide +kernel), List.mem_of_getElem? (i := 390) (by decide +kernel)⟩
theorem lw_p9 : lw_okq (⟨"LassoDesk", "settle", "()V"⟩, 8) := ⟨⟨by decide +kernel, by decide +kernel⟩, List.mem_of_getElem? (i := 16) (by decide +kernel), List.mem_of_getElem? (i := 418) (by decide +kernel), List.mem_of_getElem? (i := 419) (by decide +kernel)⟩
theorem lw_p10 : lw_okq (⟨"LassoDesk$Lasting", "lookAtStates", "(LLassoDesk$Formula;)V"⟩, 10) := ⟨⟨by decide +kernel, by decide +kernel⟩, List.mem_of_getElem? (i := 41) (by decide +kernel), List.mem_of_getElem? (i := 426) (by decide +kernel), List.mem_of_getElem? (i := 427) (by decide +kernel)⟩
theorem lw_p11 : lw_okq (⟨"LassoDesk$Formula", "isForOnce", "(I)Z"⟩, 10) := ⟨⟨by decide +kernel, by decide +kernel⟩, List.mem_of_getElem? (i := 115) (by decide +kernel), List.mem_of_getElem? (i := 441) (by decide +kernel), List.mem_of_getElem? (i := 442) (by decide +kernel)⟩
theorem lw_p12 : lw_okq (⟨"LassoDesk$Lasting", "sweepDeadEnds", "()V"⟩, 10) := ⟨⟨by decide +kernel, by decide +kernel⟩, List.mem_of_getElem? (i := 41) (by decide +kernel), List.mem_of_getElem? (i := 450) (by decide +kernel), List.mem_of_getElem? (i := 451) (by decide +kernel)⟩
theorem lw_p13 : lw_okq (⟨"LassoDesk$Lasting", "takeAway", "(I)V"⟩, 10) := ⟨⟨by decide +kernel, by decide +kernel⟩, List.mem_of_getElem? (i := 41) (by decide +kernel), List.mem_of_getElem? (i := 455) (by decide +kernel), List.mem_of_getElem? (i := 456) (by decide +kernel)⟩
theorem lw_p14 : lw_okq (⟨"LassoDesk$Lasting", "countSteps", "(I)V"⟩, 10) := ⟨⟨by decide +kernel, by decide +kernel⟩, List.mem_of_getElem? (i := 41) (by decide +kernel), List.mem_of_getElem? (i := 459) (by decide +kernel), List.mem_of_getElem? (i := 460) (by decide +kernel)⟩
theorem lw_p15 : lw_okq (⟨"LassoDesk$Lasting", "reachBefore", "(III)I"⟩, 10) := ⟨⟨by decide +kernel, by decide +kernel⟩, List.mem_of_getElem? (i := 41) (by decide +kernel), List.mem_of_getElem? (i := 463) (by decide +kernel), List.mem_of_getElem? (i := 464) (by decide +kernel)⟩
def lw_privs_1 : List (MethodName × Nat) := [(⟨"java/lang/Throwable", "fillInStackTrace", "(I)Ljava/lang/Throwable;"⟩, 6), (⟨"LassoDesk$Line", "temporalsBefore", "(I)I"⟩, 3), (⟨"LassoDesk$Line", "signAt", "(I)I"⟩, 3), (⟨"LassoDesk$Line", "readLevel", "(LLassoDesk$Formula;II)I"⟩, 3), (⟨"LassoDesk$Line", "readSimple", "(LLassoDesk$Formula;I)I"⟩, 3), (⟨"LassoDesk$Line", "readBracket", "(LLassoDesk$Formula;I)I"⟩, 3), (⟨"LassoDesk", "requireFormula", "()V"⟩, 8), (⟨"LassoDesk", "requireState", "(I)V"⟩, 8), (⟨"LassoDesk$Formula", "isPartAt", "(III)Z"⟩, 10), (⟨"LassoDesk", "settle", "()V"⟩, 8), (⟨"LassoDesk$Lasting", "lookAtStates", "(LLassoDesk$Formula;)V"⟩, 10), (⟨"LassoDesk$Formula", "isForOnce", "(I)Z"⟩, 10), (⟨"LassoDesk$Lasting", "sweepDeadEnds", "()V"⟩, 10), (⟨"LassoDesk$Lasting", "takeAway", "(I)V"⟩, 10), (⟨"LassoDesk$Lasting", "countSteps", "(I)V"⟩, 10), (⟨"LassoDesk$Lasting", "reachBefore", "(III)I"⟩, 10)]
theorem lw_r1 : ∀ q ∈ lw_privs_1, lw_okq q := List.forall_mem_cons.mpr ⟨lw_p0, List.forall_mem_cons.mpr ⟨lw_p1, List.forall_mem_cons.mpr ⟨lw_p2, List.forall_mem_cons.mpr ⟨lw_p3, List.forall_mem_cons.mpr ⟨lw_p4, List.forall_mem_cons.mpr ⟨lw_p5, List.forall_mem_cons.mpr ⟨lw_p6, List.forall_mem_cons.mpr ⟨lw_p7, List.forall_mem_cons.mpr ⟨lw_p8, List.forall_mem_cons.mpr ⟨lw_p9, List.forall_mem_cons.mpr ⟨lw_p10, List.forall_mem_cons.mpr ⟨lw_p11, List.forall_mem_cons.mpr ⟨lw_p12, List.forall_mem_cons.mpr ⟨lw_p13, List.forall_mem_cons.mpr ⟨lw_p14, List.forall_mem_cons.mpr ⟨lw_p15, fun _ h => absurd h List.not_mem_nil⟩⟩⟩⟩⟩⟩⟩⟩⟩⟩⟩⟩⟩⟩⟩⟩
theorem lw_p16 : lw_okq (⟨"LassoDesk$Lasting", "sweepUnkept", "(I)V"⟩, 10) := ⟨⟨by decide +kernel, by decide +kernel⟩, List.mem_of_getElem? (i := 41) (by decide +kernel), List.mem_of_getElem? (i := 467) (by decide +kernel), List.mem_of_getElem? (i := 468) (by decide +kernel)⟩
theorem lw_p17 : lw_okq (⟨"LassoDesk$Lasting", "stepsFrom", "(II)I"⟩, 10) := ⟨⟨by decide +kernel, by decide +kernel⟩, List.mem_of_getElem? (i := 41) (by decide +kernel), List.mem_of_getElem? (i := 471) (by decide +kernel), List.mem_of_getElem? (i := 472) (by decide +kernel)⟩
theorem lw_p18 : lw_okq (⟨"LassoDesk$Lasting", "isNearer", "(III)Z"⟩, 10) := ⟨⟨by decide +kernel, by decide +kernel⟩, List.mem_of_getElem? (i := 41) (by decide +kernel), List.mem_of_getElem? (i := 494) (by decide +kernel), List.mem_of_getElem? (i := 495) (by decide +kernel)⟩
theorem lw_p19 : lw_okq (⟨"LassoDesk", "requirePlace", "(I)V"⟩, 8) := ⟨⟨by decide +kernel, by decide +kernel⟩, List.mem_of_getElem? (i := 16) (by decide +kernel), List.mem_of_getElem? (i := 626) (by decide +kernel), List.mem_of_getElem? (i := 627) (by decide +kernel)⟩
theorem lw_p20 : lw_okq (⟨"LassoDesk$Formula", "partPlaces", "(ILLassoDesk$GivenWord;)I"⟩, 10) := ⟨⟨by decide +kernel, by decide +kernel⟩, List.mem_of_getElem? (i := 115) (by decide +kernel), List.mem_of_getElem? (i := 650) (by decide +kernel), List.mem_of_getElem? (i := 651) (by decide +kernel)⟩
theorem lw_p21 : lw_okq (⟨"LassoDeskModel", "reads", "(I)Z"⟩, 40) := ⟨⟨by decide +kernel, by decide +kernel⟩, List.mem_of_getElem? (i := 674) (by decide +kernel), List.mem_of_getElem? (i := 813) (by decide +kernel), List.mem_of_getElem? (i := 814) (by decide +kernel)⟩
theorem lw_p22 : lw_okq (⟨"LassoDeskModel", "part", "(IIII)V"⟩, 40) := ⟨⟨by decide +kernel, by decide +kernel⟩, List.mem_of_getElem? (i := 674) (by decide +kernel), List.mem_of_getElem? (i := 820) (by decide +kernel), List.mem_of_getElem? (i := 821) (by decide +kernel)⟩
theorem lw_p23 : lw_okq (⟨"LassoDeskModel", "push", "(I)V"⟩, 40) := ⟨⟨by decide +kernel, by decide +kernel⟩, List.mem_of_getElem? (i := 674) (by decide +kernel), List.mem_of_getElem? (i := 827) (by decide +kernel), List.mem_of_getElem? (i := 828) (by decide +kernel)⟩
theorem lw_p24 : lw_okq (⟨"LassoDeskModel", "settle", "(I)V"⟩, 40) := ⟨⟨by decide +kernel, by decide +kernel⟩, List.mem_of_getElem? (i := 674) (by decide +kernel), List.mem_of_getElem? (i := 834) (by decide +kernel), List.mem_of_getElem? (i := 835) (by decide +kernel)⟩
theorem lw_p25 : lw_okq (⟨"LassoDeskModel", "taken", "()I"⟩, 40) := ⟨⟨by decide +kernel, by decide +kernel⟩, List.mem_of_getElem? (i := 674) (by decide +kernel), List.mem_of_getElem? (i := 841) (by decide +kernel), List.mem_of_getElem? (i := 842) (by decide +kernel)⟩
theorem lw_p26 : lw_okq (⟨"LassoDeskModel", "count", "()I"⟩, 40) := ⟨⟨by decide +kernel, by decide +kernel⟩, List.mem_of_getElem? (i := 674) (by decide +kernel), List.mem_of_getElem? (i := 848) (by decide +kernel), List.mem_of_getElem? (i := 849) (by decide +kernel)⟩
theorem lw_p27 : lw_okq (⟨"LassoDeskModel", "look", "(I)V"⟩, 40) := ⟨⟨by decide +kernel, by decide +kernel⟩, List.mem_of_getElem? (i := 674) (by decide +kernel), List.mem_of_getElem? (i := 852) (by decide +kernel), List.mem_of_getElem? (i := 853) (by decide +kernel)⟩
theorem lw_p28 : lw_okq (⟨"LassoDeskModel", "valueOf", "(IZI)Z"⟩, 40) := ⟨⟨by decide +kernel, by decide +kernel⟩, List.mem_of_getElem? (i := 674) (by decide +kernel), List.mem_of_getElem? (i := 856) (by decide +kernel), List.mem_of_getElem? (i := 857) (by decide +kernel)⟩
theorem lw_p29 : lw_okq (⟨"LassoDeskModel", "takeOut", "()V"⟩, 40) := ⟨⟨by decide +kernel, by decide +kernel⟩, List.mem_of_getElem? (i := 674) (by decide +kernel), List.mem_of_getElem? (i := 860) (by decide +kernel), List.mem_of_getElem? (i := 861) (by decide +kernel)⟩
theorem lw_p30 : lw_okq (⟨"LassoDeskModel", "countSteps", "(I)V"⟩, 40) := ⟨⟨by decide +kernel, by decide +kernel⟩, List.mem_of_getElem? (i := 674) (by decide +kernel), List.mem_of_getElem? (i := 864) (by decide +kernel), List.mem_of_getElem? (i := 865) (by decide +kernel)⟩
theorem lw_p31 : lw_okq (⟨"LassoDeskModel", "noteSome", "()V"⟩, 40) := ⟨⟨by decide +kernel, by decide +kernel⟩, List.mem_of_getElem? (i := 674) (by decide +kernel), List.mem_of_getElem? (i := 868) (by decide +kernel), List.mem_of_getElem? (i := 869) (by decide +kernel)⟩
def lw_privs_2 : List (MethodName × Nat) := [(⟨"LassoDesk$Lasting", "sweepUnkept", "(I)V"⟩, 10), (⟨"LassoDesk$Lasting", "stepsFrom", "(II)I"⟩, 10), (⟨"LassoDesk$Lasting", "isNearer", "(III)Z"⟩, 10), (⟨"LassoDesk", "requirePlace", "(I)V"⟩, 8), (⟨"LassoDesk$Formula", "partPlaces", "(ILLassoDesk$GivenWord;)I"⟩, 10), (⟨"LassoDeskModel", "reads", "(I)Z"⟩, 40), (⟨"LassoDeskModel", "part", "(IIII)V"⟩, 40), (⟨"LassoDeskModel", "push", "(I)V"⟩, 40), (⟨"LassoDeskModel", "settle", "(I)V"⟩, 40), (⟨"LassoDeskModel", "taken", "()I"⟩, 40), (⟨"LassoDeskModel", "count", "()I"⟩, 40), (⟨"LassoDeskModel", "look", "(I)V"⟩, 40), (⟨"LassoDeskModel", "valueOf", "(IZI)Z"⟩, 40), (⟨"LassoDeskModel", "takeOut", "()V"⟩, 40), (⟨"LassoDeskModel", "countSteps", "(I)V"⟩, 40), (⟨"LassoDeskModel", "noteSome", "()V"⟩, 40)]
theorem lw_r2 : ∀ q ∈ lw_privs_2, lw_okq q := List.forall_mem_cons.mpr ⟨lw_p16, List.forall_mem_cons.mpr ⟨lw_p17, List.forall_mem_cons.mpr ⟨lw_p18, List.forall_mem_cons.mpr ⟨lw_p19, List.forall_mem_cons.mpr ⟨lw_p20, List.forall_mem_cons.mpr ⟨lw_p21, List.forall_mem_cons.mpr ⟨lw_p22, List.forall_mem_cons.mpr ⟨lw_p23, List.forall_mem_cons.mpr ⟨lw_p24, List.forall_mem_cons.mpr ⟨lw_p25, List.forall_mem_cons.mpr ⟨lw_p26, List.forall_mem_cons.mpr ⟨lw_p27, List.forall_mem_cons.mpr ⟨lw_p28, List.forall_mem_cons.mpr ⟨lw_p29, List.forall_mem_cons.mpr ⟨lw_p30, List.forall_mem_cons.mpr ⟨lw_p31, fun _ h => absurd h List.not_mem_nil⟩⟩⟩⟩⟩⟩⟩⟩⟩⟩⟩⟩⟩⟩⟩⟩
theorem lw_p32 : lw_okq (⟨"LassoDeskModel", "leadsToOne", "(I)Z"⟩, 40) := ⟨⟨by decide +kernel, by decide +kernel⟩, List.mem_of_getElem? (i := 674) (by decide +kernel), List.mem_of_getElem? (i := 872) (by decide +kernel), List.mem_of_getElem? (i := 873) (by decide +kernel)⟩
theorem lw_p33 : lw_okq (⟨"LassoDeskModel", "goWalk", "()V"⟩, 40) := ⟨⟨by decide +kernel, by decide +kernel⟩, List.mem_of_getElem? (i := 674) (by decide +kernel), List.mem_of_getElem? (i := 876) (by decide +kernel), List.mem_of_getElem? (i := 877) (by decide +kernel)⟩
theorem lw_p34 : lw_okq (⟨"LassoDeskModel", "firstState", "()I"⟩, 40) := ⟨⟨by decide +kernel, by decide +kernel⟩, List.mem_of_getElem? (i := 674) (by decide +kernel), List.mem_of_getElem? (i := 880) (by decide +kernel), List.mem_of_getElem? (i := 881) (by decide +kernel)⟩
theorem lw_p35 : lw_okq (⟨"LassoDeskModel", "dutyAt", "(II)I"⟩, 40) := ⟨⟨by decide +kernel, by decide +kernel⟩, List.mem_of_getElem? (i := 674) (by decide +kernel), List.mem_of_getElem? (i := 884) (by decide +kernel), List.mem_of_getElem? (i := 885) (by decide +kernel)⟩
theorem lw_p36 : lw_okq (⟨"LassoDeskModel", "isDue", "(II)Z"⟩, 40) := ⟨⟨by decide +kernel, by decide +kernel⟩, List.mem_of_getElem? (i := 674) (by decide +kernel), List.mem_of_getElem? (i := 888) (by decide +kernel), List.mem_of_getElem? (i := 889) (by decide +kernel)⟩
theorem lw_p37 : lw_okq (⟨"LassoDeskModel", "nextOf", "(II)I"⟩, 40) := ⟨⟨by decide +kernel, by decide +kernel⟩, List.mem_of_getElem? (i := 674) (by decide +kernel), List.mem_of_getElem? (i := 892) (by decide +kernel), List.mem_of_getElem? (i := 893) (by decide +kernel)⟩
theorem lw_p38 : lw_okq (⟨"LassoDeskModel", "goes", "(II)Z"⟩, 40) := ⟨⟨by decide +kernel, by decide +kernel⟩, List.mem_of_getElem? (i := 674) (by decide +kernel), List.mem_of_getElem? (i := 897) (by decide +kernel), List.mem_of_getElem? (i := 898) (by decide +kernel)⟩
theorem lw_p39 : lw_okq (⟨"LassoDeskModel", "refused", "(Z)Z"⟩, 40) := ⟨⟨by decide +kernel, by decide +kernel⟩, List.mem_of_getElem? (i := 674) (by decide +kernel), List.mem_of_getElem? (i := 905) (by decide +kernel), List.mem_of_getElem? (i := 906) (by decide +kernel)⟩
theorem lw_p40 : lw_okq (⟨"LassoDeskModel", "isState", "(I)Z"⟩, 40) := ⟨⟨by decide +kernel, by decide +kernel⟩, List.mem_of_getElem? (i := 674) (by decide +kernel), List.mem_of_getElem? (i := 913) (by decide +kernel), List.mem_of_getElem? (i := 914) (by decide +kernel)⟩
theorem lw_p41 : lw_okq (⟨"LassoDeskModel", "placeOf", "(I)I"⟩, 40) := ⟨⟨by decide +kernel, by decide +kernel⟩, List.mem_of_getElem? (i := 674) (by decide +kernel), List.mem_of_getElem? (i := 965) (by decide +kernel), List.mem_of_getElem? (i := 966) (by decide +kernel)⟩
theorem lw_p42 : lw_okq (⟨"LassoDeskModel", "spread", "(I)V"⟩, 40) := ⟨⟨by decide +kernel, by decide +kernel⟩, List.mem_of_getElem? (i := 674) (by decide +kernel), List.mem_of_getElem? (i := 973) (by decide +kernel), List.mem_of_getElem? (i := 974) (by decide +kernel)⟩
def lw_privs_3 : List (MethodName × Nat) := [(⟨"LassoDeskModel", "leadsToOne", "(I)Z"⟩, 40), (⟨"LassoDeskModel", "goWalk", "()V"⟩, 40), (⟨"LassoDeskModel", "firstState", "()I"⟩, 40), (⟨"LassoDeskModel", "dutyAt", "(II)I"⟩, 40), (⟨"LassoDeskModel", "isDue", "(II)Z"⟩, 40), (⟨"LassoDeskModel", "nextOf", "(II)I"⟩, 40), (⟨"LassoDeskModel", "goes", "(II)Z"⟩, 40), (⟨"LassoDeskModel", "refused", "(Z)Z"⟩, 40), (⟨"LassoDeskModel", "isState", "(I)Z"⟩, 40), (⟨"LassoDeskModel", "placeOf", "(I)I"⟩, 40), (⟨"LassoDeskModel", "spread", "(I)V"⟩, 40)]
theorem lw_r3 : ∀ q ∈ lw_privs_3, lw_okq q := List.forall_mem_cons.mpr ⟨lw_p32, List.forall_mem_cons.mpr ⟨lw_p33, List.forall_mem_cons.mpr ⟨lw_p34, List.forall_mem_cons.mpr ⟨lw_p35, List.forall_mem_cons.mpr ⟨lw_p36, List.forall_mem_cons.mpr ⟨lw_p37, List.forall_mem_cons.mpr ⟨lw_p38, List.forall_mem_cons.mpr ⟨lw_p39, List.forall_mem_cons.mpr ⟨lw_p40, List.forall_mem_cons.mpr ⟨lw_p41, List.forall_mem_cons.mpr ⟨lw_p42, fun _ h => absurd h List.not_mem_nil⟩⟩⟩⟩⟩⟩⟩⟩⟩⟩⟩
def lw_privs : List (MethodName × Nat) := lw_privs_1 ++ (lw_privs_2 ++ (lw_privs_3))
def lw_tbl : List Cond := k2_sels lw_privs ++ tables_1
theorem lw_privs_ok : ∀ q ∈ lw_privs, lw_okq q := by
  show ∀ q ∈ lw_privs_1 ++ (lw_privs_2 ++ (lw_privs_3)), lw_okq q
  exact List.forall_mem_append.mpr ⟨lw_r1, List.forall_mem_append.mpr ⟨lw_r2, lw_r3⟩⟩
theorem q_tb {w : Cond} (i : Nat) (h : tables_1[i]? = some w) : w ∈ lw_tbl := List.mem_append_right _ (List.mem_of_getElem? h)
theorem q_ts {y : MethodName} {n : Nat} (i : Nat) (h : lw_privs[i]? = some (y, n)) : Cond.selects y.cls y y ∈ lw_tbl := List.mem_append_left _ (List.mem_map.mpr ⟨(y, n), List.mem_of_getElem? h, rfl⟩)
def q_T0 : u_T := fun k => match k with
  | 0 => ("LassoDesk", "line", "LLassoDesk$Line;", true)
  | 1 => ("LassoDesk", "lastingStates", "LLassoDesk$Lasting;", true)
  | 2 => ("LassoDesk", "walk", "LLassoDesk$Walk;", true)
  | 3 => ("LassoDesk", "word", "LLassoDesk$GivenWord;", true)
  | 4 => ("LassoDesk", "current", "LLassoDesk$Formula;", false)
  | 5 => ("LassoDesk", "draft", "LLassoDesk$Formula;", false)
  | 6 => ("LassoDesk", "formed", "Z", false)
  | _ => ("LassoDesk", "settled", "Z", false)
def q_ty0 : Nat → FieldType := fun k => match k with
  | 0 => .object "LassoDesk$Line"
  | 1 => .object "LassoDesk$Lasting"
  | 2 => .object "LassoDesk$Walk"
  | 3 => .object "LassoDesk$GivenWord"
  | 4 => .object "LassoDesk$Formula"
  | 5 => .object "LassoDesk$Formula"
  | 6 => .boolean
  | _ => .boolean
theorem q_tyok0 : ∀ k, k < 8 → parseFieldDescriptor (q_T0 k).2.2.1 = some (q_ty0 k) := by decide +kernel
theorem q_nm0 : ∀ a, a < 8 → ∀ b, b < 8 → a ≠ b → (q_T0 a).2.1 ≠ (q_T0 b).2.1 := by decide +kernel
theorem q_in0 : ∀ w ∈ u_ws "LassoDesk" q_T0 8, w ∈ lw_tbl := fun w hw => by
  have e : u_ws "LassoDesk" q_T0 8 = [159, 161, 163, 165, 167, 169, 171, 173].filterMap (fun i => tables_1[i]?) := by decide +kernel
  rw [e] at hw
  obtain ⟨i, -, hi⟩ := List.mem_filterMap.mp hw
  exact q_tb i hi
def q_T1 : u_T := fun k => match k with
  | 0 => ("LassoDesk$Line", "characters", "[C", true)
  | 1 => ("LassoDesk$Line", "length", "I", false)
  | _ => ("LassoDesk$Line", "at", "I", false)
def q_ty1 : Nat → FieldType := fun k => match k with
  | 0 => .array .char
  | 1 => .int
  | _ => .int
theorem q_tyok1 : ∀ k, k < 3 → parseFieldDescriptor (q_T1 k).2.2.1 = some (q_ty1 k) := by decide +kernel
theorem q_nm1 : ∀ a, a < 3 → ∀ b, b < 3 → a ≠ b → (q_T1 a).2.1 ≠ (q_T1 b).2.1 := by decide +kernel
theorem q_in1 : ∀ w ∈ u_ws "LassoDesk$Line" q_T1 3, w ∈ lw_tbl := fun w hw => by
  have e : u_ws "LassoDesk$Line" q_T1 3 = [32, 34, 36].filterMap (fun i => tables_1[i]?) := by decide +kernel
  rw [e] at hw
  obtain ⟨i, -, hi⟩ := List.mem_filterMap.mp hw
  exact q_tb i hi
def q_T2 : u_T := fun k => match k with
  | 0 => ("LassoDesk$Formula", "sign", "[I", true)
  | 1 => ("LassoDesk$Formula", "left", "[I", true)
  | 2 => ("LassoDesk$Formula", "right", "[I", true)
  | 3 => ("LassoDesk$Formula", "number", "[I", true)
  | 4 => ("LassoDesk$Formula", "temporalPart", "[I", true)
  | 5 => ("LassoDesk$Formula", "promisePart", "[I", true)
  | 6 => ("LassoDesk$Formula", "places", "[I", true)
  | 7 => ("LassoDesk$Formula", "size", "I", false)
  | 8 => ("LassoDesk$Formula", "temporals", "I", false)
  | _ => ("LassoDesk$Formula", "promised", "I", false)
def q_ty2 : Nat → FieldType := fun k => match k with
  | 0 => .array .int
  | 1 => .array .int
  | 2 => .array .int
  | 3 => .array .int
  | 4 => .array .int
  | 5 => .array .int
  | 6 => .array .int
  | 7 => .int
  | 8 => .int
  | _ => .int
theorem q_tyok2 : ∀ k, k < 10 → parseFieldDescriptor (q_T2 k).2.2.1 = some (q_ty2 k) := by decide +kernel
theorem q_nm2 : ∀ a, a < 10 → ∀ b, b < 10 → a ≠ b → (q_T2 a).2.1 ≠ (q_T2 b).2.1 := by decide +kernel
theorem q_in2 : ∀ w ∈ u_ws "LassoDesk$Formula" q_T2 10, w ∈ lw_tbl := fun w hw => by
  have e : u_ws "LassoDesk$Formula" q_T2 10 = [130, 132, 134, 136, 138, 140, 142, 144, 146, 148].filterMap (fun i => tables_1[i]?) := by decide +kernel
  rw [e] at hw
  obtain ⟨i, -, hi⟩ := List.mem_filterMap.mp hw
  exact q_tb i hi
def q_T3 : u_T := fun k => match k with
  | 0 => ("LassoDesk$Lasting", "needed", "[I", true)
  | 1 => ("LassoDesk$Lasting", "kept", "[I", true)
  | 2 => ("LassoDesk$Lasting", "pending", "[I", true)
  | 3 => ("LassoDesk$Lasting", "whole", "[Z", true)
  | 4 => ("LassoDesk$Lasting", "inSet", "[Z", true)
  | 5 => ("LassoDesk$Lasting", "steps", "[I", true)
  | 6 => ("LassoDesk$Lasting", "queue", "[I", true)
  | 7 => ("LassoDesk$Lasting", "states", "I", false)
  | 8 => ("LassoDesk$Lasting", "promised", "I", false)
  | _ => ("LassoDesk$Lasting", "count", "I", false)
def q_ty3 : Nat → FieldType := fun k => match k with
  | 0 => .array .int
  | 1 => .array .int
  | 2 => .array .int
  | 3 => .array .boolean
  | 4 => .array .boolean
  | 5 => .array .int
  | 6 => .array .int
  | 7 => .int
  | 8 => .int
  | _ => .int
theorem q_tyok3 : ∀ k, k < 10 → parseFieldDescriptor (q_T3 k).2.2.1 = some (q_ty3 k) := by decide +kernel
theorem q_nm3 : ∀ a, a < 10 → ∀ b, b < 10 → a ≠ b → (q_T3 a).2.1 ≠ (q_T3 b).2.1 := by decide +kernel
theorem q_in3 : ∀ w ∈ u_ws "LassoDesk$Lasting" q_T3 10, w ∈ lw_tbl := fun w hw => by
  have e : u_ws "LassoDesk$Lasting" q_T3 10 = [56, 58, 60, 62, 64, 66, 68, 70, 72, 74].filterMap (fun i => tables_1[i]?) := by decide +kernel
  rw [e] at hw
  obtain ⟨i, -, hi⟩ := List.mem_filterMap.mp hw
  exact q_tb i hi
def q_T4 : u_T := fun k => match k with
  | 0 => ("LassoDesk$Walk", "row", "[I", true)
  | 1 => ("LassoDesk$Walk", "cameAt", "[I", true)
  | 2 => ("LassoDesk$Walk", "stemLength", "I", false)
  | _ => ("LassoDesk$Walk", "loopLength", "I", false)
def q_ty4 : Nat → FieldType := fun k => match k with
  | 0 => .array .int
  | 1 => .array .int
  | 2 => .int
  | _ => .int
theorem q_tyok4 : ∀ k, k < 4 → parseFieldDescriptor (q_T4 k).2.2.1 = some (q_ty4 k) := by decide +kernel
theorem q_nm4 : ∀ a, a < 4 → ∀ b, b < 4 → a ≠ b → (q_T4 a).2.1 ≠ (q_T4 b).2.1 := by decide +kernel
theorem q_in4 : ∀ w ∈ u_ws "LassoDesk$Walk" q_T4 4, w ∈ lw_tbl := fun w hw => by
  have e : u_ws "LassoDesk$Walk" q_T4 4 = [89, 91, 93, 95].filterMap (fun i => tables_1[i]?) := by decide +kernel
  rw [e] at hw
  obtain ⟨i, -, hi⟩ := List.mem_filterMap.mp hw
  exact q_tb i hi
def q_T5 : u_T := fun k => match k with
  | 0 => ("LassoDesk$GivenWord", "letters", "[I", true)
  | 1 => ("LassoDesk$GivenWord", "stemLength", "I", false)
  | _ => ("LassoDesk$GivenWord", "loopLength", "I", false)
def q_ty5 : Nat → FieldType := fun k => match k with
  | 0 => .array .int
  | 1 => .int
  | _ => .int
theorem q_tyok5 : ∀ k, k < 3 → parseFieldDescriptor (q_T5 k).2.2.1 = some (q_ty5 k) := by decide +kernel
theorem q_nm5 : ∀ a, a < 3 → ∀ b, b < 3 → a ≠ b → (q_T5 a).2.1 ≠ (q_T5 b).2.1 := by decide +kernel
theorem q_in5 : ∀ w ∈ u_ws "LassoDesk$GivenWord" q_T5 3, w ∈ lw_tbl := fun w hw => by
  have e : u_ws "LassoDesk$GivenWord" q_T5 3 = [107, 109, 111].filterMap (fun i => tables_1[i]?) := by decide +kernel
  rw [e] at hw
  obtain ⟨i, -, hi⟩ := List.mem_filterMap.mp hw
  exact q_tb i hi
def q_T6 : u_T := fun k => match k with
  | 0 => ("LassoDeskModel", "thrown", "I", false)
  | 1 => ("LassoDeskModel", "line", "[I", true)
  | 2 => ("LassoDeskModel", "typed", "I", false)
  | 3 => ("LassoDeskModel", "is", "Z", false)
  | 4 => ("LassoDeskModel", "parts", "I", false)
  | 5 => ("LassoDeskModel", "kinds", "[I", true)
  | 6 => ("LassoDeskModel", "lefts", "[I", true)
  | 7 => ("LassoDeskModel", "rights", "[I", true)
  | 8 => ("LassoDeskModel", "numbers", "[I", true)
  | 9 => ("LassoDeskModel", "temporals", "I", false)
  | 10 => ("LassoDeskModel", "temporal", "[I", true)
  | 11 => ("LassoDeskModel", "promised", "I", false)
  | 12 => ("LassoDeskModel", "promise", "[I", true)
  | 13 => ("LassoDeskModel", "newParts", "I", false)
  | 14 => ("LassoDeskModel", "newKinds", "[I", true)
  | 15 => ("LassoDeskModel", "newLefts", "[I", true)
  | 16 => ("LassoDeskModel", "newRights", "[I", true)
  | 17 => ("LassoDeskModel", "newNumbers", "[I", true)
  | 18 => ("LassoDeskModel", "newTemporals", "I", false)
  | 19 => ("LassoDeskModel", "loose", "[I", true)
  | 20 => ("LassoDeskModel", "looseCount", "I", false)
  | 21 => ("LassoDeskModel", "open", "[I", true)
  | 22 => ("LassoDeskModel", "opens", "I", false)
  | 23 => ("LassoDeskModel", "wants", "[I", true)
  | 24 => ("LassoDeskModel", "so", "[Z", true)
  | 25 => ("LassoDeskModel", "openAt", "[I", true)
  | 26 => ("LassoDeskModel", "keptAt", "[I", true)
  | 27 => ("LassoDeskModel", "values", "[Z", true)
  | 28 => ("LassoDeskModel", "lasting", "[Z", true)
  | 29 => ("LassoDeskModel", "comes", "[Z", true)
  | 30 => ("LassoDeskModel", "some", "[Z", true)
  | 31 => ("LassoDeskModel", "steps", "[I", true)
  | 32 => ("LassoDeskModel", "stemOf", "I", false)
  | 33 => ("LassoDeskModel", "loopOf", "I", false)
  | 34 => ("LassoDeskModel", "walk", "[I", true)
  | 35 => ("LassoDeskModel", "seen", "[I", true)
  | 36 => ("LassoDeskModel", "stemLength", "I", false)
  | 37 => ("LassoDeskModel", "loopLength", "I", false)
  | 38 => ("LassoDeskModel", "letters", "[I", true)
  | _ => ("LassoDeskModel", "at", "[Z", true)
def q_ty6 : Nat → FieldType := fun k => match k with
  | 0 => .int
  | 1 => .array .int
  | 2 => .int
  | 3 => .boolean
  | 4 => .int
  | 5 => .array .int
  | 6 => .array .int
  | 7 => .array .int
  | 8 => .array .int
  | 9 => .int
  | 10 => .array .int
  | 11 => .int
  | 12 => .array .int
  | 13 => .int
  | 14 => .array .int
  | 15 => .array .int
  | 16 => .array .int
  | 17 => .array .int
  | 18 => .int
  | 19 => .array .int
  | 20 => .int
  | 21 => .array .int
  | 22 => .int
  | 23 => .array .int
  | 24 => .array .boolean
  | 25 => .array .int
  | 26 => .array .int
  | 27 => .array .boolean
  | 28 => .array .boolean
  | 29 => .array .boolean
  | 30 => .array .boolean
  | 31 => .array .int
  | 32 => .int
  | 33 => .int
  | 34 => .array .int
  | 35 => .array .int
  | 36 => .int
  | 37 => .int
  | 38 => .array .int
  | _ => .array .boolean
theorem q_tyok6 : ∀ k, k < 40 → parseFieldDescriptor (q_T6 k).2.2.1 = some (q_ty6 k) := by decide +kernel
theorem q_nm6 : ∀ a, a < 40 → ∀ b, b < 40 → a ≠ b → (q_T6 a).2.1 ≠ (q_T6 b).2.1 := by decide +kernel
theorem q_in6 : ∀ w ∈ u_ws "LassoDeskModel" q_T6 40, w ∈ lw_tbl := fun w hw => by
  have e : u_ws "LassoDeskModel" q_T6 40 = [719, 721, 723, 725, 727, 729, 731, 733, 735, 737, 739, 741, 743, 745, 747, 749, 751, 753, 755, 757, 759, 761, 763, 765, 767, 769, 771, 773, 775, 777, 779, 781, 783, 785, 787, 789, 791, 793, 795, 797].filterMap (fun i => tables_1[i]?) := by decide +kernel
  rw [e] at hw
  obtain ⟨i, -, hi⟩ := List.mem_filterMap.mp hw
  exact q_tb i hi
abbrev q_cl : List vw_C := [("LassoDesk", q_T0, 8), ("LassoDesk$Line", q_T1, 3), ("LassoDesk$Formula", q_T2, 10), ("LassoDesk$Lasting", q_T3, 10), ("LassoDesk$Walk", q_T4, 4), ("LassoDesk$GivenWord", q_T5, 3), ("LassoDeskModel", q_T6, 40)]
theorem q_cl_ok : ∀ (ci : Nat) (C : String) (T : u_T) (N : Nat), q_cl[ci]? = some (C, T, N) → (∀ w ∈ u_ws C T N, w ∈ lw_tbl) ∧ (∃ ty0 : Nat → FieldType, ∀ k, k < N → parseFieldDescriptor (T k).2.2.1 = some (ty0 k)) ∧ ∀ a, a < N → ∀ b, b < N → a ≠ b → (T a).2.1 ≠ (T b).2.1
  | 0, _, _, _, h => by cases h; exact ⟨q_in0, ⟨q_ty0, q_tyok0⟩, q_nm0⟩
  | 1, _, _, _, h => by cases h; exact ⟨q_in1, ⟨q_ty1, q_tyok1⟩, q_nm1⟩
  | 2, _, _, _, h => by cases h; exact ⟨q_in2, ⟨q_ty2, q_tyok2⟩, q_nm2⟩
  | 3, _, _, _, h => by cases h; exact ⟨q_in3, ⟨q_ty3, q_tyok3⟩, q_nm3⟩
  | 4, _, _, _, h => by cases h; exact ⟨q_in4, ⟨q_ty4, q_tyok4⟩, q_nm4⟩
  | 5, _, _, _, h => by cases h; exact ⟨q_in5, ⟨q_ty5, q_tyok5⟩, q_nm5⟩
  | 6, _, _, _, h => by cases h; exact ⟨q_in6, ⟨q_ty6, q_tyok6⟩, q_nm6⟩
  | _ + 7, _, _, _, h => by simp at h
def q_ftl : List (List (FieldType × Bool)) := [[(.object "LassoDesk$Line", true), (.object "LassoDesk$Lasting", true), (.object "LassoDesk$Walk", true), (.object "LassoDesk$GivenWord", true), (.object "LassoDesk$Formula", false), (.object "LassoDesk$Formula", false), (.boolean, false), (.boolean, false)], [(.array .char, true), (.int, false), (.int, false)], [(.array .int, true), (.array .int, true), (.array .int, true), (.array .int, true), (.array .int, true), (.array .int, true), (.array .int, true), (.int, false), (.int, false), (.int, false)], [(.array .int, true), (.array .int, true), (.array .int, true), (.array .boolean, true), (.array .boolean, true), (.array .int, true), (.array .int, true), (.int, false), (.int, false), (.int, false)], [(.array .int, true), (.array .int, true), (.int, false), (.int, false)], [(.array .int, true), (.int, false), (.int, false)], [(.int, false), (.array .int, true), (.int, false), (.boolean, false), (.int, false), (.array .int, true), (.array .int, true), (.array .int, true), (.array .int, true), (.int, false), (.array .int, true), (.int, false), (.array .int, true), (.int, false), (.array .int, true), (.array .int, true), (.array .int, true), (.array .int, true), (.int, false), (.array .int, true), (.int, false), (.array .int, true), (.int, false), (.array .int, true), (.array .boolean, true), (.array .int, true), (.array .int, true), (.array .boolean, true), (.array .boolean, true), (.array .boolean, true), (.array .boolean, true), (.array .int, true), (.int, false), (.int, false), (.array .int, true), (.array .int, true), (.int, false), (.int, false), (.array .int, true), (.array .boolean, true)]]
def q_fty (ci f : Nat) : Option (FieldType × Bool) := (q_ftl[ci]?).bind fun l => l[f]?
theorem q_ftok0 : ∀ f, f < 8 → ∀ q, q_fty 0 f = some q → (q_T0 f).2.2.2 = q.2 ∧ parseFieldDescriptor (q_T0 f).2.2.1 = some q.1 := by
  intro f hf q hq
  have h : ∀ f, f < 8 → q_fty 0 f = some (q_ty0 f, (q_T0 f).2.2.2) := by decide +kernel
  rw [h f hf] at hq
  cases hq
  exact ⟨rfl, q_tyok0 f hf⟩
theorem q_ftok1 : ∀ f, f < 3 → ∀ q, q_fty 1 f = some q → (q_T1 f).2.2.2 = q.2 ∧ parseFieldDescriptor (q_T1 f).2.2.1 = some q.1 := by
  intro f hf q hq
  have h : ∀ f, f < 3 → q_fty 1 f = some (q_ty1 f, (q_T1 f).2.2.2) := by decide +kernel
  rw [h f hf] at hq
  cases hq
  exact ⟨rfl, q_tyok1 f hf⟩
theorem q_ftok2 : ∀ f, f < 10 → ∀ q, q_fty 2 f = some q → (q_T2 f).2.2.2 = q.2 ∧ parseFieldDescriptor (q_T2 f).2.2.1 = some q.1 := by
  intro f hf q hq
  have h : ∀ f, f < 10 → q_fty 2 f = some (q_ty2 f, (q_T2 f).2.2.2) := by decide +kernel
  rw [h f hf] at hq
  cases hq
  exact ⟨rfl, q_tyok2 f hf⟩
theorem q_ftok3 : ∀ f, f < 10 → ∀ q, q_fty 3 f = some q → (q_T3 f).2.2.2 = q.2 ∧ parseFieldDescriptor (q_T3 f).2.2.1 = some q.1 := by
  intro f hf q hq
  have h : ∀ f, f < 10 → q_fty 3 f = some (q_ty3 f, (q_T3 f).2.2.2) := by decide +kernel
  rw [h f hf] at hq
  cases hq
  exact ⟨rfl, q_tyok3 f hf⟩
theorem q_ftok4 : ∀ f, f < 4 → ∀ q, q_fty 4 f = some q → (q_T4 f).2.2.2 = q.2 ∧ parseFieldDescriptor (q_T4 f).2.2.1 = some q.1 := by
  intro f hf q hq
  have h : ∀ f, f < 4 → q_fty 4 f = some (q_ty4 f, (q_T4 f).2.2.2) := by decide +kernel
  rw [h f hf] at hq
  cases hq
  exact ⟨rfl, q_tyok4 f hf⟩
theorem q_ftok5 : ∀ f, f < 3 → ∀ q, q_fty 5 f = some q → (q_T5 f).2.2.2 = q.2 ∧ parseFieldDescriptor (q_T5 f).2.2.1 = some q.1 := by
  intro f hf q hq
  have h : ∀ f, f < 3 → q_fty 5 f = some (q_ty5 f, (q_T5 f).2.2.2) := by decide +kernel
  rw [h f hf] at hq
  cases hq
  exact ⟨rfl, q_tyok5 f hf⟩
theorem q_ftok6 : ∀ f, f < 40 → ∀ q, q_fty 6 f = some q → (q_T6 f).2.2.2 = q.2 ∧ parseFieldDescriptor (q_T6 f).2.2.1 = some q.1 := by
  intro f hf q hq
  have h : ∀ f, f < 40 → q_fty 6 f = some (q_ty6 f, (q_T6 f).2.2.2) := by decide +kernel
  rw [h f hf] at hq
  cases hq
  exact ⟨rfl, q_tyok6 f hf⟩
theorem q_fty_ok : ∀ {ci f : Nat} {C : String} {T : u_T} {N : Nat} {ty : FieldType} {b : Bool}, q_cl[ci]? = some (C, T, N) → f < N → q_fty ci f = some (ty, b) → (T f).2.2.2 = b ∧ parseFieldDescriptor (T f).2.2.1 = some ty
  | 0, _, _, _, _, _, _, h, hf, hq => by cases h; exact q_ftok0 _ hf _ hq
  | 1, _, _, _, _, _, _, h, hf, hq => by cases h; exact q_ftok1 _ hf _ hq
  | 2, _, _, _, _, _, _, h, hf, hq => by cases h; exact q_ftok2 _ hf _ hq
  | 3, _, _, _, _, _, _, h, hf, hq => by cases h; exact q_ftok3 _ hf _ hq
  | 4, _, _, _, _, _, _, h, hf, hq => by cases h; exact q_ftok4 _ hf _ hq
  | 5, _, _, _, _, _, _, h, hf, hq => by cases h; exact q_ftok5 _ hf _ hq
  | 6, _, _, _, _, _, _, h, hf, hq => by cases h; exact q_ftok6 _ hf _ hq
  | _ + 7, _, _, _, _, _, _, h, _, _ => by simp at h
def q_NT : Nat := 60
def q_PO : Nat := 59
def q_ex (k : Nat) : String := match k with
  | 0 => "java/lang/IllegalArgumentException"
  | 1 => "java/lang/IllegalStateException"
  | _ => "java/lang/IndexOutOfBoundsException"
