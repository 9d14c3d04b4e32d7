section
-- ===== PART A: goes FIRST, ahead of the names: the tables' words, and 'selects' of the private methods out of them =====
/-- a private method of a class that the tables say can be made, by its rows of tables_1 -/
def lw_okq (q : MethodName × Nat) : Prop := (q.1.cls ≠ "java/lang/invoke/MethodHandle" ∧ q.1.cls ≠ "java/lang/invoke/VarHandle") ∧ Cond.instantiable q.1.cls q.2 ∈ tables_1 ∧ Cond.privateMethod q.1 ∈ tables_1 ∧ Cond.instanceMethod q.1 ∈ tables_1
theorem lw_p0 : lw_okq (⟨"java/lang/Throwable", "fillInStackTrace", "(I)Ljava/lang/Throwable;"⟩, 6) := ⟨⟨by decide +kernel, by decide +kernel⟩, List.mem_of_getElem? (i := 232) (by decide +kernel), List.mem_of_getElem? (i := 230) (by decide +kernel), List.mem_of_getElem? (i := 231) (by decide +kernel)⟩
theorem lw_p1 : lw_okq (⟨"LassoDesk$Line", "temporalsBefore", "(I)I"⟩, 3) := ⟨⟨by decide +kernel, by decide +kernel⟩, List.mem_of_getElem? (i := 24) (by decide +kernel), List.mem_of_getElem? (i := 281) (by decide +kernel), List.mem_of_getElem? (i := 282) (by decide +kernel)⟩
theorem lw_p2 : lw_okq (⟨"LassoDesk$Line", "signAt", "(I)I"⟩, 3) := ⟨⟨by decide +kernel, by decide +kernel⟩, List.mem_of_getElem? (i := 24) (by decide +kernel), List.mem_of_getElem? (i := 285) (by decide +kernel), List.mem_of_getElem? (i := 286) (by decide +kernel)⟩
theorem lw_p3 : lw_okq (⟨"LassoDesk$Line", "readLevel", "(LLassoDesk$Formula;II)I"⟩, 3) := ⟨⟨by decide +kernel, by decide +kernel⟩, List.mem_of_getElem? (i := 24) (by decide +kernel), List.mem_of_getElem? (i := 292) (by decide +kernel), List.mem_of_getElem? (i := 293) (by decide +kernel)⟩
theorem lw_p4 : lw_okq (⟨"LassoDesk$Line", "readSimple", "(LLassoDesk$Formula;I)I"⟩, 3) := ⟨⟨by decide +kernel, by decide +kernel⟩, List.mem_of_getElem? (i := 24) (by decide +kernel), List.mem_of_getElem? (i := 296) (by decide +kernel), List.mem_of_getElem? (i := 297) (by decide +kernel)⟩
theorem lw_p5 : lw_okq (⟨"LassoDesk$Line", "readBracket", "(LLassoDesk$Formula;I)I"⟩, 3) := ⟨⟨by decide +kernel, by decide +kernel⟩, List.mem_of_getElem? (i := 24) (by decide +kernel), List.mem_of_getElem? (i := 305) (by decide +kernel), List.mem_of_getElem? (i := 306) (by decide +kernel)⟩
theorem lw_p6 : lw_okq (⟨"LassoDesk", "requireFormula", "()V"⟩, 8) := ⟨⟨by decide +kernel, by decide +kernel⟩, List.mem_of_getElem? (i := 16) (by decide +kernel), List.mem_of_getElem? (i := 333) (by decide +kernel), List.mem_of_getElem? (i := 334) (by decide +kernel)⟩
theorem lw_p7 : lw_okq (⟨"LassoDesk", "requireState", "(I)V"⟩, 8) := ⟨⟨by decide +kernel, by decide +kernel⟩, List.mem_of_getElem? (i := 16) (by decide +kernel), List.mem_of_getElem? (i := 365) (by decide +kernel), List.mem_of_getElem? (i := 366) (by decide +kernel)⟩
theorem lw_p8 : lw_okq (⟨"LassoDesk$Formula", "isPartAt", "(III)Z"⟩, 10) := ⟨⟨by decide +kernel, by decide +kernel⟩, List.mem_of_getElem? (i := 115) (by decide +kernel), List.mem_of_getElem? (i := 389) (by decide +kernel), List.mem_of_getElem? (i := 390) (by decide +kernel)⟩
theorem lw_p9 : lw_okq (⟨"LassoDesk", "settle", "()V"⟩, 8) := ⟨⟨by decide +kernel, by decide +kernel⟩, List.mem_of_getElem? (i := 16) (by decide +kernel), List.mem_of_getElem? (i := 418) (by decide +kernel), List.mem_of_getElem? (i := 419) (by decide +kernel)⟩
theorem lw_p10 : lw_okq (⟨"LassoDesk$Lasting", "lookAtStates", "(LLassoDesk$Formula;)V"⟩, 10) := ⟨⟨by decide +kernel, by decide +kernel⟩, List.mem_of_getElem? (i := 41) (by decide +kernel), List.mem_of_getElem? (i := 426) (by decide +kernel), List.mem_of_getElem? (i := 427) (by decide +kernel)⟩
theorem lw_p11 : lw_okq (⟨"LassoDesk$Formula", "isForOnce", "(I)Z"⟩, 10) := ⟨⟨by decide +kernel, by decide +kernel⟩, List.mem_of_getElem? (i := 115) (by decide +kernel), List.mem_of_getElem? (i := 441) (by decide +kernel), List.mem_of_getElem? (i := 442) (by decide +kernel)⟩
theorem lw_p12 : lw_okq (⟨"LassoDesk$Lasting", "sweepDeadEnds", "()V"⟩, 10) := ⟨⟨by decide +kernel, by decide +kernel⟩, List.mem_of_getElem? (i := 41) (by decide +kernel), List.mem_of_getElem? (i := 450) (by decide +kernel), List.mem_of_getElem? (i := 451) (by decide +kernel)⟩
theorem lw_p13 : lw_okq (⟨"LassoDesk$Lasting", "takeAway", "(I)V"⟩, 10) := ⟨⟨by decide +kernel, by decide +kernel⟩, List.mem_of_getElem? (i := 41) (by decide +kernel), List.mem_of_getElem? (i := 455) (by decide +kernel), List.mem_of_getElem? (i := 456) (by decide +kernel)⟩
theorem lw_p14 : lw_okq (⟨"LassoDesk$Lasting", "countSteps", "(I)V"⟩, 10) := ⟨⟨by decide +kernel, by decide +kernel⟩, List.mem_of_getElem? (i := 41) (by decide +kernel), List.mem_of_getElem? (i := 459) (by decide +kernel), List.mem_of_getElem? (i := 460) (by decide +kernel)⟩
theorem lw_p15 : lw_okq (⟨"LassoDesk$Lasting", "reachBefore", "(III)I"⟩, 10) := ⟨⟨by decide +kernel, by decide +kernel⟩, List.mem_of_getElem? (i := 41) (by decide +kernel), List.mem_of_getElem? (i := 463) (by decide +kernel), List.mem_of_getElem? (i := 464) (by decide +kernel)⟩
def lw_privs_1 : List (MethodName × Nat) := [(⟨"java/lang/Throwable", "fillInStackTrace", "(I)Ljava/lang/Throwable;"⟩, 6), (⟨"LassoDesk$Line", "temporalsBefore", "(I)I"⟩, 3), (⟨"LassoDesk$Line", "signAt", "(I)I"⟩, 3), (⟨"LassoDesk$Line", "readLevel", "(LLassoDesk$Formula;II)I"⟩, 3), (⟨"LassoDesk$Line", "readSimple", "(LLassoDesk$Formula;I)I"⟩, 3), (⟨"LassoDesk$Line", "readBracket", "(LLassoDesk$Formula;I)I"⟩, 3), (⟨"LassoDesk", "requireFormula", "()V"⟩, 8), (⟨"LassoDesk", "requireState", "(I)V"⟩, 8), (⟨"LassoDesk$Formula", "isPartAt", "(III)Z"⟩, 10), (⟨"LassoDesk", "settle", "()V"⟩, 8), (⟨"LassoDesk$Lasting", "lookAtStates", "(LLassoDesk$Formula;)V"⟩, 10), (⟨"LassoDesk$Formula", "isForOnce", "(I)Z"⟩, 10), (⟨"LassoDesk$Lasting", "sweepDeadEnds", "()V"⟩, 10), (⟨"LassoDesk$Lasting", "takeAway", "(I)V"⟩, 10), (⟨"LassoDesk$Lasting", "countSteps", "(I)V"⟩, 10), (⟨"LassoDesk$Lasting", "reachBefore", "(III)I"⟩, 10)]
theorem lw_r1 : ∀ q ∈ lw_privs_1, lw_okq q := List.forall_mem_cons.mpr ⟨lw_p0, List.forall_mem_cons.mpr ⟨lw_p1, List.forall_mem_cons.mpr ⟨lw_p2, List.forall_mem_cons.mpr ⟨lw_p3, List.forall_mem_cons.mpr ⟨lw_p4, List.forall_mem_cons.mpr ⟨lw_p5, List.forall_mem_cons.mpr ⟨lw_p6, List.forall_mem_cons.mpr ⟨lw_p7, List.forall_mem_cons.mpr ⟨lw_p8, List.forall_mem_cons.mpr ⟨lw_p9, List.forall_mem_cons.mpr ⟨lw_p10, List.forall_mem_cons.mpr ⟨lw_p11, List.forall_mem_cons.mpr ⟨lw_p12, List.forall_mem_cons.mpr ⟨lw_p13, List.forall_mem_cons.mpr ⟨lw_p14, List.forall_mem_cons.mpr ⟨lw_p15, fun _ h => absurd h List.not_mem_nil⟩⟩⟩⟩⟩⟩⟩⟩⟩⟩⟩⟩⟩⟩⟩⟩
theorem lw_p16 : lw_okq (⟨"LassoDesk$Lasting", "sweepUnkept", "(I)V"⟩, 10) := ⟨⟨by decide +kernel, by decide +kernel⟩, List.mem_of_getElem? (i := 41) (by decide +kernel), List.mem_of_getElem? (i := 467) (by decide +kernel), List.mem_of_getElem? (i := 468) (by decide +kernel)⟩
theorem lw_p17 : lw_okq (⟨"LassoDesk$Lasting", "stepsFrom", "(II)I"⟩, 10) := ⟨⟨by decide +kernel, by decide +kernel⟩, List.mem_of_getElem? (i := 41) (by decide +kernel), List.mem_of_getElem? (i := 471) (by decide +kernel), List.mem_of_getElem? (i := 472) (by decide +kernel)⟩
theorem lw_p18 : lw_okq (⟨"LassoDesk$Lasting", "isNearer", "(III)Z"⟩, 10) := ⟨⟨by decide +kernel, by decide +kernel⟩, List.mem_of_getElem? (i := 41) (by decide +kernel), List.mem_of_getElem? (i := 494) (by decide +kernel), List.mem_of_getElem? (i := 495) (by decide +kernel)⟩
theorem lw_p19 : lw_okq (⟨"LassoDesk", "requirePlace", "(I)V"⟩, 8) := ⟨⟨by decide +kernel, by decide +kernel⟩, List.mem_of_getElem? (i := 16) (by decide +kernel), List.mem_of_getElem? (i := 626) (by decide +kernel), List.mem_of_getElem? (i := 627) (by decide +kernel)⟩
theorem lw_p20 : lw_okq (⟨"LassoDesk$Formula", "partPlaces", "(ILLassoDesk$GivenWord;)I"⟩, 10) := ⟨⟨by decide +kernel, by decide +kernel⟩, List.mem_of_getElem? (i := 115) (by decide +kernel), List.mem_of_getElem? (i := 650) (by decide +kernel), List.mem_of_getElem? (i := 651) (by decide +kernel)⟩
theorem lw_p21 : lw_okq (⟨"LassoDeskModel", "reads", "(I)Z"⟩, 40) := ⟨⟨by decide +kernel, by decide +kernel⟩, List.mem_of_getElem? (i := 674) (by decide +kernel), List.mem_of_getElem? (i := 813) (by decide +kernel), List.mem_of_getElem? (i := 814) (by decide +kernel)⟩
theorem lw_p22 : lw_okq (⟨"LassoDeskModel", "part", "(IIII)V"⟩, 40) := ⟨⟨by decide +kernel, by decide +kernel⟩, List.mem_of_getElem? (i := 674) (by decide +kernel), List.mem_of_getElem? (i := 820) (by decide +kernel), List.mem_of_getElem? (i := 821) (by decide +kernel)⟩
theorem lw_p23 : lw_okq (⟨"LassoDeskModel", "push", "(I)V"⟩, 40) := ⟨⟨by decide +kernel, by decide +kernel⟩, List.mem_of_getElem? (i := 674) (by decide +kernel), List.mem_of_getElem? (i := 827) (by decide +kernel), List.mem_of_getElem? (i := 828) (by decide +kernel)⟩
theorem lw_p24 : lw_okq (⟨"LassoDeskModel", "settle", "(I)V"⟩, 40) := ⟨⟨by decide +kernel, by decide +kernel⟩, List.mem_of_getElem? (i := 674) (by decide +kernel), List.mem_of_getElem? (i := 834) (by decide +kernel), List.mem_of_getElem? (i := 835) (by decide +kernel)⟩
theorem lw_p25 : lw_okq (⟨"LassoDeskModel", "taken", "()I"⟩, 40) := ⟨⟨by decide +kernel, by decide +kernel⟩, List.mem_of_getElem? (i := 674) (by decide +kernel), List.mem_of_getElem? (i := 841) (by decide +kernel), List.mem_of_getElem? (i := 842) (by decide +kernel)⟩
theorem lw_p26 : lw_okq (⟨"LassoDeskModel", "count", "()I"⟩, 40) := ⟨⟨by decide +kernel, by decide +kernel⟩, List.mem_of_getElem? (i := 674) (by decide +kernel), List.mem_of_getElem? (i := 848) (by decide +kernel), List.mem_of_getElem? (i := 849) (by decide +kernel)⟩
theorem lw_p27 : lw_okq (⟨"LassoDeskModel", "look", "(I)V"⟩, 40) := ⟨⟨by decide +kernel, by decide +kernel⟩, List.mem_of_getElem? (i := 674) (by decide +kernel), List.mem_of_getElem? (i := 852) (by decide +kernel), List.mem_of_getElem? (i := 853) (by decide +kernel)⟩
theorem lw_p28 : lw_okq (⟨"LassoDeskModel", "valueOf", "(IZI)Z"⟩, 40) := ⟨⟨by decide +kernel, by decide +kernel⟩, List.mem_of_getElem? (i := 674) (by decide +kernel), List.mem_of_getElem? (i := 856) (by decide +kernel), List.mem_of_getElem? (i := 857) (by decide +kernel)⟩
theorem lw_p29 : lw_okq (⟨"LassoDeskModel", "takeOut", "()V"⟩, 40) := ⟨⟨by decide +kernel, by decide +kernel⟩, List.mem_of_getElem? (i := 674) (by decide +kernel), List.mem_of_getElem? (i := 860) (by decide +kernel), List.mem_of_getElem? (i := 861) (by decide +kernel)⟩
theorem lw_p30 : lw_okq (⟨"LassoDeskModel", "countSteps", "(I)V"⟩, 40) := ⟨⟨by decide +kernel, by decide +kernel⟩, List.mem_of_getElem? (i := 674) (by decide +kernel), List.mem_of_getElem? (i := 864) (by decide +kernel), List.mem_of_getElem? (i := 865) (by decide +kernel)⟩
theorem lw_p31 : lw_okq (⟨"LassoDeskModel", "noteSome", "()V"⟩, 40) := ⟨⟨by decide +kernel, by decide +kernel⟩, List.mem_of_getElem? (i := 674) (by decide +kernel), List.mem_of_getElem? (i := 868) (by decide +kernel), List.mem_of_getElem? (i := 869) (by decide +kernel)⟩
def lw_privs_2 : List (MethodName × Nat) := [(⟨"LassoDesk$Lasting", "sweepUnkept", "(I)V"⟩, 10), (⟨"LassoDesk$Lasting", "stepsFrom", "(II)I"⟩, 10), (⟨"LassoDesk$Lasting", "isNearer", "(III)Z"⟩, 10), (⟨"LassoDesk", "requirePlace", "(I)V"⟩, 8), (⟨"LassoDesk$Formula", "partPlaces", "(ILLassoDesk$GivenWord;)I"⟩, 10), (⟨"LassoDeskModel", "reads", "(I)Z"⟩, 40), (⟨"LassoDeskModel", "part", "(IIII)V"⟩, 40), (⟨"LassoDeskModel", "push", "(I)V"⟩, 40), (⟨"LassoDeskModel", "settle", "(I)V"⟩, 40), (⟨"LassoDeskModel", "taken", "()I"⟩, 40), (⟨"LassoDeskModel", "count", "()I"⟩, 40), (⟨"LassoDeskModel", "look", "(I)V"⟩, 40), (⟨"LassoDeskModel", "valueOf", "(IZI)Z"⟩, 40), (⟨"LassoDeskModel", "takeOut", "()V"⟩, 40), (⟨"LassoDeskModel", "countSteps", "(I)V"⟩, 40), (⟨"LassoDeskModel", "noteSome", "()V"⟩, 40)]
theorem lw_r2 : ∀ q ∈ lw_privs_2, lw_okq q := List.forall_mem_cons.mpr ⟨lw_p16, List.forall_mem_cons.mpr ⟨lw_p17, List.forall_mem_cons.mpr ⟨lw_p18, List.forall_mem_cons.mpr ⟨lw_p19, List.forall_mem_cons.mpr ⟨lw_p20, List.forall_mem_cons.mpr ⟨lw_p21, List.forall_mem_cons.mpr ⟨lw_p22, List.forall_mem_cons.mpr ⟨lw_p23, List.forall_mem_cons.mpr ⟨lw_p24, List.forall_mem_cons.mpr ⟨lw_p25, List.forall_mem_cons.mpr ⟨lw_p26, List.forall_mem_cons.mpr ⟨lw_p27, List.forall_mem_cons.mpr ⟨lw_p28, List.forall_mem_cons.mpr ⟨lw_p29, List.forall_mem_cons.mpr ⟨lw_p30, List.forall_mem_cons.mpr ⟨lw_p31, fun _ h => absurd h List.not_mem_nil⟩⟩⟩⟩⟩⟩⟩⟩⟩⟩⟩⟩⟩⟩⟩⟩
theorem lw_p32 : lw_okq (⟨"LassoDeskModel", "leadsToOne", "(I)Z"⟩, 40) := ⟨⟨by decide +kernel, by decide +kernel⟩, List.mem_of_getElem? (i := 674) (by decide +kernel), List.mem_of_getElem? (i := 872) (by decide +kernel), List.mem_of_getElem? (i := 873) (by decide +kernel)⟩
theorem lw_p33 : lw_okq (⟨"LassoDeskModel", "goWalk", "()V"⟩, 40) := ⟨⟨by decide +kernel, by decide +kernel⟩, List.mem_of_getElem? (i := 674) (by decide +kernel), List.mem_of_getElem? (i := 876) (by decide +kernel), List.mem_of_getElem? (i := 877) (by decide +kernel)⟩
theorem lw_p34 : lw_okq (⟨"LassoDeskModel", "firstState", "()I"⟩, 40) := ⟨⟨by decide +kernel, by decide +kernel⟩, List.mem_of_getElem? (i := 674) (by decide +kernel), List.mem_of_getElem? (i := 880) (by decide +kernel), List.mem_of_getElem? (i := 881) (by decide +kernel)⟩
theorem lw_p35 : lw_okq (⟨"LassoDeskModel", "dutyAt", "(II)I"⟩, 40) := ⟨⟨by decide +kernel, by decide +kernel⟩, List.mem_of_getElem? (i := 674) (by decide +kernel), List.mem_of_getElem? (i := 884) (by decide +kernel), List.mem_of_getElem? (i := 885) (by decide +kernel)⟩
theorem lw_p36 : lw_okq (⟨"LassoDeskModel", "isDue", "(II)Z"⟩, 40) := ⟨⟨by decide +kernel, by decide +kernel⟩, List.mem_of_getElem? (i := 674) (by decide +kernel), List.mem_of_getElem? (i := 888) (by decide +kernel), List.mem_of_getElem? (i := 889) (by decide +kernel)⟩
theorem lw_p37 : lw_okq (⟨"LassoDeskModel", "nextOf", "(II)I"⟩, 40) := ⟨⟨by decide +kernel, by decide +kernel⟩, List.mem_of_getElem? (i := 674) (by decide +kernel), List.mem_of_getElem? (i := 892) (by decide +kernel), List.mem_of_getElem? (i := 893) (by decide +kernel)⟩
theorem lw_p38 : lw_okq (⟨"LassoDeskModel", "goes", "(II)Z"⟩, 40) := ⟨⟨by decide +kernel, by decide +kernel⟩, List.mem_of_getElem? (i := 674) (by decide +kernel), List.mem_of_getElem? (i := 897) (by decide +kernel), List.mem_of_getElem? (i := 898) (by decide +kernel)⟩
theorem lw_p39 : lw_okq (⟨"LassoDeskModel", "refused", "(Z)Z"⟩, 40) := ⟨⟨by decide +kernel, by decide +kernel⟩, List.mem_of_getElem? (i := 674) (by decide +kernel), List.mem_of_getElem? (i := 905) (by decide +kernel), List.mem_of_getElem? (i := 906) (by decide +kernel)⟩
theorem lw_p40 : lw_okq (⟨"LassoDeskModel", "isState", "(I)Z"⟩, 40) := ⟨⟨by decide +kernel, by decide +kernel⟩, List.mem_of_getElem? (i := 674) (by decide +kernel), List.mem_of_getElem? (i := 913) (by decide +kernel), List.mem_of_getElem? (i := 914) (by decide +kernel)⟩
theorem lw_p41 : lw_okq (⟨"LassoDeskModel", "placeOf", "(I)I"⟩, 40) := ⟨⟨by decide +kernel, by decide +kernel⟩, List.mem_of_getElem? (i := 674) (by decide +kernel), List.mem_of_getElem? (i := 965) (by decide +kernel), List.mem_of_getElem? (i := 966) (by decide +kernel)⟩
theorem lw_p42 : lw_okq (⟨"LassoDeskModel", "spread", "(I)V"⟩, 40) := ⟨⟨by decide +kernel, by decide +kernel⟩, List.mem_of_getElem? (i := 674) (by decide +kernel), List.mem_of_getElem? (i := 973) (by decide +kernel), List.mem_of_getElem? (i := 974) (by decide +kernel)⟩
def lw_privs_3 : List (MethodName × Nat) := [(⟨"LassoDeskModel", "leadsToOne", "(I)Z"⟩, 40), (⟨"LassoDeskModel", "goWalk", "()V"⟩, 40), (⟨"LassoDeskModel", "firstState", "()I"⟩, 40), (⟨"LassoDeskModel", "dutyAt", "(II)I"⟩, 40), (⟨"LassoDeskModel", "isDue", "(II)Z"⟩, 40), (⟨"LassoDeskModel", "nextOf", "(II)I"⟩, 40), (⟨"LassoDeskModel", "goes", "(II)Z"⟩, 40), (⟨"LassoDeskModel", "refused", "(Z)Z"⟩, 40), (⟨"LassoDeskModel", "isState", "(I)Z"⟩, 40), (⟨"LassoDeskModel", "placeOf", "(I)I"⟩, 40), (⟨"LassoDeskModel", "spread", "(I)V"⟩, 40)]
theorem lw_r3 : ∀ q ∈ lw_privs_3, lw_okq q := List.forall_mem_cons.mpr ⟨lw_p32, List.forall_mem_cons.mpr ⟨lw_p33, List.forall_mem_cons.mpr ⟨lw_p34, List.forall_mem_cons.mpr ⟨lw_p35, List.forall_mem_cons.mpr ⟨lw_p36, List.forall_mem_cons.mpr ⟨lw_p37, List.forall_mem_cons.mpr ⟨lw_p38, List.forall_mem_cons.mpr ⟨lw_p39, List.forall_mem_cons.mpr ⟨lw_p40, List.forall_mem_cons.mpr ⟨lw_p41, List.forall_mem_cons.mpr ⟨lw_p42, fun _ h => absurd h List.not_mem_nil⟩⟩⟩⟩⟩⟩⟩⟩⟩⟩⟩
def lw_privs : List (MethodName × Nat) := lw_privs_1 ++ (lw_privs_2 ++ (lw_privs_3))
def lw_tbl : List Cond := k2_sels lw_privs ++ tables_1
theorem lw_privs_ok : ∀ q ∈ lw_privs, lw_okq q := by
  show ∀ q ∈ lw_privs_1 ++ (lw_privs_2 ++ (lw_privs_3)), lw_okq q
  exact List.forall_mem_append.mpr ⟨lw_r1, List.forall_mem_append.mpr ⟨lw_r2, lw_r3⟩⟩
theorem q_tb {w : Cond} (i : Nat) (h : tables_1[i]? = some w) : w ∈ lw_tbl := List.mem_append_right _ (List.mem_of_getElem? h)
theorem q_ts {y : MethodName} {n : Nat} (i : Nat) (h : lw_privs[i]? = some (y, n)) : Cond.selects y.cls y y ∈ lw_tbl := List.mem_append_left _ (List.mem_map.mpr ⟨(y, n), List.mem_of_getElem? h, rfl⟩)
def q_T0 : u_T := fun k => match k with
  | 0 => ("LassoDesk", "line", "LLassoDesk$Line;", true)
  | 1 => ("LassoDesk", "lastingStates", "LLassoDesk$Lasting;", true)
  | 2 => ("LassoDesk", "walk", "LLassoDesk$Walk;", true)
  | 3 => ("LassoDesk", "word", "LLassoDesk$GivenWord;", true)
  | 4 => ("LassoDesk", "current", "LLassoDesk$Formula;", false)
  | 5 => ("LassoDesk", "draft", "LLassoDesk$Formula;", false)
  | 6 => ("LassoDesk", "formed", "Z", false)
  | _ => ("LassoDesk", "settled", "Z", false)
def q_ty0 : Nat → FieldType := fun k => match k with
  | 0 => .object "LassoDesk$Line"
  | 1 => .object "LassoDesk$Lasting"
  | 2 => .object "LassoDesk$Walk"
  | 3 => .object "LassoDesk$GivenWord"
  | 4 => .object "LassoDesk$Formula"
  | 5 => .object "LassoDesk$Formula"
  | 6 => .boolean
  | _ => .boolean
theorem q_tyok0 : ∀ k, k < 8 → parseFieldDescriptor (q_T0 k).2.2.1 = some (q_ty0 k) := by decide +kernel
theorem q_nm0 : ∀ a, a < 8 → ∀ b, b < 8 → a ≠ b → (q_T0 a).2.1 ≠ (q_T0 b).2.1 := by decide +kernel
theorem q_in0 : ∀ w ∈ u_ws "LassoDesk" q_T0 8, w ∈ lw_tbl := fun w hw => by
  have e : u_ws "LassoDesk" q_T0 8 = [159, 161, 163, 165, 167, 169, 171, 173].filterMap (fun i => tables_1[i]?) := by decide +kernel
  rw [e] at hw
  obtain ⟨i, -, hi⟩ := List.mem_filterMap.mp hw
  exact q_tb i hi
def q_T1 : u_T := fun k => match k with
  | 0 => ("LassoDesk$Line", "characters", "[C", true)
  | 1 => ("LassoDesk$Line", "length", "I", false)
  | _ => ("LassoDesk$Line", "at", "I", false)
def q_ty1 : Nat → FieldType := fun k => match k with
  | 0 => .array .char
  | 1 => .int
  | _ => .int
theorem q_tyok1 : ∀ k, k < 3 → parseFieldDescriptor (q_T1 k).2.2.1 = some (q_ty1 k) := by decide +kernel
theorem q_nm1 : ∀ a, a < 3 → ∀ b, b < 3 → a ≠ b → (q_T1 a).2.1 ≠ (q_T1 b).2.1 := by decide +kernel
theorem q_in1 : ∀ w ∈ u_ws "LassoDesk$Line" q_T1 3, w ∈ lw_tbl := fun w hw => by
  have e : u_ws "LassoDesk$Line" q_T1 3 = [32, 34, 36].filterMap (fun i => tables_1[i]?) := by decide +kernel
  rw [e] at hw
  obtain ⟨i, -, hi⟩ := List.mem_filterMap.mp hw
  exact q_tb i hi
def q_T2 : u_T := fun k => match k with
  | 0 => ("LassoDesk$Formula", "sign", "[I", true)
  | 1 => ("LassoDesk$Formula", "left", "[I", true)
  | 2 => ("LassoDesk$Formula", "right", "[I", true)
  | 3 => ("LassoDesk$Formula", "number", "[I", true)
  | 4 => ("LassoDesk$Formula", "temporalPart", "[I", true)
  | 5 => ("LassoDesk$Formula", "promisePart", "[I", true)
  | 6 => ("LassoDesk$Formula", "places", "[I", true)
  | 7 => ("LassoDesk$Formula", "size", "I", false)
  | 8 => ("LassoDesk$Formula", "temporals", "I", false)
  | _ => ("LassoDesk$Formula", "promised", "I", false)
def q_ty2 : Nat → FieldType := fun k => match k with
  | 0 => .array .int
  | 1 => .array .int
  | 2 => .array .int
  | 3 => .array .int
  | 4 => .array .int
  | 5 => .array .int
  | 6 => .array .int
  | 7 => .int
  | 8 => .int
  | _ => .int
theorem q_tyok2 : ∀ k, k < 10 → parseFieldDescriptor (q_T2 k).2.2.1 = some (q_ty2 k) := by decide +kernel
theorem q_nm2 : ∀ a, a < 10 → ∀ b, b < 10 → a ≠ b → (q_T2 a).2.1 ≠ (q_T2 b).2.1 := by decide +kernel
theorem q_in2 : ∀ w ∈ u_ws "LassoDesk$Formula" q_T2 10, w ∈ lw_tbl := fun w hw => by
  have e : u_ws "LassoDesk$Formula" q_T2 10 = [130, 132, 134, 136, 138, 140, 142, 144, 146, 148].filterMap (fun i => tables_1[i]?) := by decide +kernel
  rw [e] at hw
  obtain ⟨i, -, hi⟩ := List.mem_filterMap.mp hw
  exact q_tb i hi
def q_T3 : u_T := fun k => match k with
  | 0 => ("LassoDesk$Lasting", "needed", "[I", true)
  | 1 => ("LassoDesk$Lasting", "kept", "[I", true)
  | 2 => ("LassoDesk$Lasting", "pending", "[I", true)
  | 3 => ("LassoDesk$Lasting", "whole", "[Z", true)
  | 4 => ("LassoDesk$Lasting", "inSet", "[Z", true)
  | 5 => ("LassoDesk$Lasting", "steps", "[I", true)
  | 6 => ("LassoDesk$Lasting", "queue", "[I", true)
  | 7 => ("LassoDesk$Lasting", "states", "I", false)
  | 8 => ("LassoDesk$Lasting", "promised", "I", false)
  | _ => ("LassoDesk$Lasting", "count", "I", false)
def q_ty3 : Nat → FieldType := fun k => match k with
  | 0 => .array .int
  | 1 => .array .int
  | 2 => .array .int
  | 3 => .array .boolean
  | 4 => .array .boolean
  | 5 => .array .int
  | 6 => .array .int
  | 7 => .int
  | 8 => .int
  | _ => .int
theorem q_tyok3 : ∀ k, k < 10 → parseFieldDescriptor (q_T3 k).2.2.1 = some (q_ty3 k) := by decide +kernel
theorem q_nm3 : ∀ a, a < 10 → ∀ b, b < 10 → a ≠ b → (q_T3 a).2.1 ≠ (q_T3 b).2.1 := by decide +kernel
theorem q_in3 : ∀ w ∈ u_ws "LassoDesk$Lasting" q_T3 10, w ∈ lw_tbl := fun w hw => by
  have e : u_ws "LassoDesk$Lasting" q_T3 10 = [56, 58, 60, 62, 64, 66, 68, 70, 72, 74].filterMap (fun i => tables_1[i]?) := by decide +kernel
  rw [e] at hw
  obtain ⟨i, -, hi⟩ := List.mem_filterMap.mp hw
  exact q_tb i hi
def q_T4 : u_T := fun k => match k with
  | 0 => ("LassoDesk$Walk", "row", "[I", true)
  | 1 => ("LassoDesk$Walk", "cameAt", "[I", true)
  | 2 => ("LassoDesk$Walk", "stemLength", "I", false)
  | _ => ("LassoDesk$Walk", "loopLength", "I", false)
def q_ty4 : Nat → FieldType := fun k => match k with
  | 0 => .array .int
  | 1 => .array .int
  | 2 => .int
  | _ => .int
theorem q_tyok4 : ∀ k, k < 4 → parseFieldDescriptor (q_T4 k).2.2.1 = some (q_ty4 k) := by decide +kernel
theorem q_nm4 : ∀ a, a < 4 → ∀ b, b < 4 → a ≠ b → (q_T4 a).2.1 ≠ (q_T4 b).2.1 := by decide +kernel
theorem q_in4 : ∀ w ∈ u_ws "LassoDesk$Walk" q_T4 4, w ∈ lw_tbl := fun w hw => by
  have e : u_ws "LassoDesk$Walk" q_T4 4 = [89, 91, 93, 95].filterMap (fun i => tables_1[i]?) := by decide +kernel
  rw [e] at hw
  obtain ⟨i, -, hi⟩ := List.mem_filterMap.mp hw
  exact q_tb i hi
def q_T5 : u_T := fun k => match k with
  | 0 => ("LassoDesk$GivenWord", "letters", "[I", true)
  | 1 => ("LassoDesk$GivenWord", "stemLength", "I", false)
  | _ => ("LassoDesk$GivenWord", "loopLength", "I", false)
def q_ty5 : Nat → FieldType := fun k => match k with
  | 0 => .array .int
  | 1 => .int
  | _ => .int
theorem q_tyok5 : ∀ k, k < 3 → parseFieldDescriptor (q_T5 k).2.2.1 = some (q_ty5 k) := by decide +kernel
theorem q_nm5 : ∀ a, a < 3 → ∀ b, b < 3 → a ≠ b → (q_T5 a).2.1 ≠ (q_T5 b).2.1 := by decide +kernel
theorem q_in5 : ∀ w ∈ u_ws "LassoDesk$GivenWord" q_T5 3, w ∈ lw_tbl := fun w hw => by
  have e : u_ws "LassoDesk$GivenWord" q_T5 3 = [107, 109, 111].filterMap (fun i => tables_1[i]?) := by decide +kernel
  rw [e] at hw
  obtain ⟨i, -, hi⟩ := List.mem_filterMap.mp hw
  exact q_tb i hi
def q_T6 : u_T := fun k => match k with
  | 0 => ("LassoDeskModel", "thrown", "I", false)
  | 1 => ("LassoDeskModel", "line", "[I", true)
  | 2 => ("LassoDeskModel", "typed", "I", false)
  | 3 => ("LassoDeskModel", "is", "Z", false)
  | 4 => ("LassoDeskModel", "parts", "I", false)
  | 5 => ("LassoDeskModel", "kinds", "[I", true)
  | 6 => ("LassoDeskModel", "lefts", "[I", true)
  | 7 => ("LassoDeskModel", "rights", "[I", true)
  | 8 => ("LassoDeskModel", "numbers", "[I", true)
  | 9 => ("LassoDeskModel", "temporals", "I", false)
  | 10 => ("LassoDeskModel", "temporal", "[I", true)
  | 11 => ("LassoDeskModel", "promised", "I", false)
  | 12 => ("LassoDeskModel", "promise", "[I", true)
  | 13 => ("LassoDeskModel", "newParts", "I", false)
  | 14 => ("LassoDeskModel", "newKinds", "[I", true)
  | 15 => ("LassoDeskModel", "newLefts", "[I", true)
  | 16 => ("LassoDeskModel", "newRights", "[I", true)
  | 17 => ("LassoDeskModel", "newNumbers", "[I", true)
  | 18 => ("LassoDeskModel", "newTemporals", "I", false)
  | 19 => ("LassoDeskModel", "loose", "[I", true)
  | 20 => ("LassoDeskModel", "looseCount", "I", false)
  | 21 => ("LassoDeskModel", "open", "[I", true)
  | 22 => ("LassoDeskModel", "opens", "I", false)
  | 23 => ("LassoDeskModel", "wants", "[I", true)
  | 24 => ("LassoDeskModel", "so", "[Z", true)
  | 25 => ("LassoDeskModel", "openAt", "[I", true)
  | 26 => ("LassoDeskModel", "keptAt", "[I", true)
  | 27 => ("LassoDeskModel", "values", "[Z", true)
  | 28 => ("LassoDeskModel", "lasting", "[Z", true)
  | 29 => ("LassoDeskModel", "comes", "[Z", true)
  | 30 => ("LassoDeskModel", "some", "[Z", true)
  | 31 => ("LassoDeskModel", "steps", "[I", true)
  | 32 => ("LassoDeskModel", "stemOf", "I", false)
  | 33 => ("LassoDeskModel", "loopOf", "I", false)
  | 34 => ("LassoDeskModel", "walk", "[I", true)
  | 35 => ("LassoDeskModel", "seen", "[I", true)
  | 36 => ("LassoDeskModel", "stemLength", "I", false)
  | 37 => ("LassoDeskModel", "loopLength", "I", false)
  | 38 => ("LassoDeskModel", "letters", "[I", true)
  | _ => ("LassoDeskModel", "at", "[Z", true)
def q_ty6 : Nat → FieldType := fun k => match k with
  | 0 => .int
  | 1 => .array .int
  | 2 => .int
  | 3 => .boolean
  | 4 => .int
  | 5 => .array .int
  | 6 => .array .int
  | 7 => .array .int
  | 8 => .array .int
  | 9 => .int
  | 10 => .array .int
  | 11 => .int
  | 12 => .array .int
  | 13 => .int
  | 14 => .array .int
  | 15 => .array .int
  | 16 => .array .int
  | 17 => .array .int
  | 18 => .int
  | 19 => .array .int
  | 20 => .int
  | 21 => .array .int
  | 22 => .int
  | 23 => .array .int
  | 24 => .array .boolean
  | 25 => .array .int
  | 26 => .array .int
  | 27 => .array .boolean
  | 28 => .array .boolean
  | 29 => .array .boolean
  | 30 => .array .boolean
  | 31 => .array .int
  | 32 => .int
  | 33 => .int
  | 34 => .array .int
  | 35 => .array .int
  | 36 => .int
  | 37 => .int
  | 38 => .array .int
  | _ => .array .boolean
theorem q_tyok6 : ∀ k, k < 40 → parseFieldDescriptor (q_T6 k).2.2.1 = some (q_ty6 k) := by decide +kernel
theorem q_nm6 : ∀ a, a < 40 → ∀ b, b < 40 → a ≠ b → (q_T6 a).2.1 ≠ (q_T6 b).2.1 := by decide +kernel
theorem q_in6 : ∀ w ∈ u_ws "LassoDeskModel" q_T6 40, w ∈ lw_tbl := fun w hw => by
  have e : u_ws "LassoDeskModel" q_T6 40 = [719, 721, 723, 725, 727, 729, 731, 733, 735, 737, 739, 741, 743, 745, 747, 749, 751, 753, 755, 757, 759, 761, 763, 765, 767, 769, 771, 773, 775, 777, 779, 781, 783, 785, 787, 789, 791, 793, 795, 797].filterMap (fun i => tables_1[i]?) := by decide +kernel
  rw [e] at hw
  obtain ⟨i, -, hi⟩ := List.mem_filterMap.mp hw
  exact q_tb i hi
abbrev q_cl : List vw_C := [("LassoDesk", q_T0, 8), ("LassoDesk$Line", q_T1, 3), ("LassoDesk$Formula", q_T2, 10), ("LassoDesk$Lasting", q_T3, 10), ("LassoDesk$Walk", q_T4, 4), ("LassoDesk$GivenWord", q_T5, 3), ("LassoDeskModel", q_T6, 40)]
theorem q_cl_ok : ∀ (ci : Nat) (C : String) (T : u_T) (N : Nat), q_cl[ci]? = some (C, T, N) → (∀ w ∈ u_ws C T N, w ∈ lw_tbl) ∧ (∃ ty0 : Nat → FieldType, ∀ k, k < N → parseFieldDescriptor (T k).2.2.1 = some (ty0 k)) ∧ ∀ a, a < N → ∀ b, b < N → a ≠ b → (T a).2.1 ≠ (T b).2.1
  | 0, _, _, _, h => by cases h; exact ⟨q_in0, ⟨q_ty0, q_tyok0⟩, q_nm0⟩
  | 1, _, _, _, h => by cases h; exact ⟨q_in1, ⟨q_ty1, q_tyok1⟩, q_nm1⟩
  | 2, _, _, _, h => by cases h; exact ⟨q_in2, ⟨q_ty2, q_tyok2⟩, q_nm2⟩
  | 3, _, _, _, h => by cases h; exact ⟨q_in3, ⟨q_ty3, q_tyok3⟩, q_nm3⟩
  | 4, _, _, _, h => by cases h; exact ⟨q_in4, ⟨q_ty4, q_tyok4⟩, q_nm4⟩
  | 5, _, _, _, h => by cases h; exact ⟨q_in5, ⟨q_ty5, q_tyok5⟩, q_nm5⟩
  | 6, _, _, _, h => by cases h; exact ⟨q_in6, ⟨q_ty6, q_tyok6⟩, q_nm6⟩
  | _ + 7, _, _, _, h => by simp at h
def q_ftl : List (List (FieldType × Bool)) := [[(.object "LassoDesk$Line", true), (.object "LassoDesk$Lasting", true), (.object "LassoDesk$Walk", true), (.object "LassoDesk$GivenWord", true), (.object "LassoDesk$Formula", false), (.object "LassoDesk$Formula", false), (.boolean, false), (.boolean, false)], [(.array .char, true), (.int, false), (.int, false)], [(.array .int, true), (.array .int, true), (.array .int, true), (.array .int, true), (.array .int, true), (.array .int, true), (.array .int, true), (.int, false), (.int, false), (.int, false)], [(.array .int, true), (.array .int, true), (.array .int, true), (.array .boolean, true), (.array .boolean, true), (.array .int, true), (.array .int, true), (.int, false), (.int, false), (.int, false)], [(.array .int, true), (.array .int, true), (.int, false), (.int, false)], [(.array .int, true), (.int, false), (.int, false)], [(.int, false), (.array .int, true), (.int, false), (.boolean, false), (.int, false), (.array .int, true), (.array .int, true), (.array .int, true), (.array .int, true), (.int, false), (.array .int, true), (.int, false), (.array .int, true), (.int, false), (.array .int, true), (.array .int, true), (.array .int, true), (.array .int, true), (.int, false), (.array .int, true), (.int, false), (.array .int, true), (.int, false), (.array .int, true), (.array .boolean, true), (.array .int, true), (.array .int, true), (.array .boolean, true), (.array .boolean, true), (.array .boolean, true), (.array .boolean, true), (.array .int, true), (.int, false), (.int, false), (.array .int, true), (.array .int, true), (.int, false), (.int, false), (.array .int, true), (.array .boolean, true)]]
def q_fty (ci f : Nat) : Option (FieldType × Bool) := (q_ftl[ci]?).bind fun l => l[f]?
theorem q_ftok0 : ∀ f, f < 8 → ∀ q, q_fty 0 f = some q → (q_T0 f).2.2.2 = q.2 ∧ parseFieldDescriptor (q_T0 f).2.2.1 = some q.1 := by
  intro f hf q hq
  have h : ∀ f, f < 8 → q_fty 0 f = some (q_ty0 f, (q_T0 f).2.2.2) := by decide +kernel
  rw [h f hf] at hq
  cases hq
  exact ⟨rfl, q_tyok0 f hf⟩
theorem q_ftok1 : ∀ f, f < 3 → ∀ q, q_fty 1 f = some q → (q_T1 f).2.2.2 = q.2 ∧ parseFieldDescriptor (q_T1 f).2.2.1 = some q.1 := by
  intro f hf q hq
  have h : ∀ f, f < 3 → q_fty 1 f = some (q_ty1 f, (q_T1 f).2.2.2) := by decide +kernel
  rw [h f hf] at hq
  cases hq
  exact ⟨rfl, q_tyok1 f hf⟩
theorem q_ftok2 : ∀ f, f < 10 → ∀ q, q_fty 2 f = some q → (q_T2 f).2.2.2 = q.2 ∧ parseFieldDescriptor (q_T2 f).2.2.1 = some q.1 := by
  intro f hf q hq
  have h : ∀ f, f < 10 → q_fty 2 f = some (q_ty2 f, (q_T2 f).2.2.2) := by decide +kernel
  rw [h f hf] at hq
  cases hq
  exact ⟨rfl, q_tyok2 f hf⟩
theorem q_ftok3 : ∀ f, f < 10 → ∀ q, q_fty 3 f = some q → (q_T3 f).2.2.2 = q.2 ∧ parseFieldDescriptor (q_T3 f).2.2.1 = some q.1 := by
  intro f hf q hq
  have h : ∀ f, f < 10 → q_fty 3 f = some (q_ty3 f, (q_T3 f).2.2.2) := by decide +kernel
  rw [h f hf] at hq
  cases hq
  exact ⟨rfl, q_tyok3 f hf⟩
theorem q_ftok4 : ∀ f, f < 4 → ∀ q, q_fty 4 f = some q → (q_T4 f).2.2.2 = q.2 ∧ parseFieldDescriptor (q_T4 f).2.2.1 = some q.1 := by
  intro f hf q hq
  have h : ∀ f, f < 4 → q_fty 4 f = some (q_ty4 f, (q_T4 f).2.2.2) := by decide +kernel
  rw [h f hf] at hq
  cases hq
  exact ⟨rfl, q_tyok4 f hf⟩
theorem q_ftok5 : ∀ f, f < 3 → ∀ q, q_fty 5 f = some q → (q_T5 f).2.2.2 = q.2 ∧ parseFieldDescriptor (q_T5 f).2.2.1 = some q.1 := by
  intro f hf q hq
  have h : ∀ f, f < 3 → q_fty 5 f = some (q_ty5 f, (q_T5 f).2.2.2) := by decide +kernel
  rw [h f hf] at hq
  cases hq
  exact ⟨rfl, q_tyok5 f hf⟩
theorem q_ftok6 : ∀ f, f < 40 → ∀ q, q_fty 6 f = some q → (q_T6 f).2.2.2 = q.2 ∧ parseFieldDescriptor (q_T6 f).2.2.1 = some q.1 := by
  intro f hf q hq
  have h : ∀ f, f < 40 → q_fty 6 f = some (q_ty6 f, (q_T6 f).2.2.2) := by decide +kernel
  rw [h f hf] at hq
  cases hq
  exact ⟨rfl, q_tyok6 f hf⟩
theorem q_fty_ok : ∀ {ci f : Nat} {C : String} {T : u_T} {N : Nat} {ty : FieldType} {b : Bool}, q_cl[ci]? = some (C, T, N) → f < N → q_fty ci f = some (ty, b) → (T f).2.2.2 = b ∧ parseFieldDescriptor (T f).2.2.1 = some ty
  | 0, _, _, _, _, _, _, h, hf, hq => by cases h; exact q_ftok0 _ hf _ hq
  | 1, _, _, _, _, _, _, h, hf, hq => by cases h; exact q_ftok1 _ hf _ hq
  | 2, _, _, _, _, _, _, h, hf, hq => by cases h; exact q_ftok2 _ hf _ hq
  | 3, _, _, _, _, _, _, h, hf, hq => by cases h; exact q_ftok3 _ hf _ hq
  | 4, _, _, _, _, _, _, h, hf, hq => by cases h; exact q_ftok4 _ hf _ hq
  | 5, _, _, _, _, _, _, h, hf, hq => by cases h; exact q_ftok5 _ hf _ hq
  | 6, _, _, _, _, _, _, h, hf, hq => by cases h; exact q_ftok6 _ hf _ hq
  | _ + 7, _, _, _, _, _, _, h, _, _ => by simp at h
def q_NT : Nat := 60
def q_PO : Nat := 59
def q_ex (k : Nat) : String := match k with
  | 0 => "java/lang/IllegalArgumentException"
  | 1 => "java/lang/IllegalStateException"
  | _ => "java/lang/IndexOutOfBoundsException"
end
section
theorem d_D_type_0 : decode prog_1_method_2_code 0 = .ok (.iload_n 1, 1) := by decide +kernel
theorem d_D_type_1 : decode prog_1_method_2_code 1 = .ok (.invokestatic 54, 3) := by decide +kernel
theorem d_D_type_4 : decode prog_1_method_2_code 4 = .ok (.istore_n 2, 1) := by decide +kernel
theorem d_D_type_5 : decode prog_1_method_2_code 5 = .ok (.iload_n 1, 1) := by decide +kernel
theorem d_D_type_6 : decode prog_1_method_2_code 6 = .ok (.iload_n 2, 1) := by decide +kernel
theorem d_D_type_7 : decode prog_1_method_2_code 7 = .ok (.invokestatic 58, 3) := by decide +kernel
theorem d_D_type_10 : decode prog_1_method_2_code 10 = .ok (.ifCond .ne 13, 3) := by decide +kernel
theorem d_D_type_13 : decode prog_1_method_2_code 13 = .ok (.new 62, 3) := by decide +kernel
theorem d_D_type_16 : decode prog_1_method_2_code 16 = .ok (.dup, 1) := by decide +kernel
theorem d_D_type_17 : decode prog_1_method_2_code 17 = .ok (.ldc 64, 2) := by decide +kernel
theorem d_D_type_19 : decode prog_1_method_2_code 19 = .ok (.invokespecial 66, 3) := by decide +kernel
theorem d_D_type_22 : decode prog_1_method_2_code 22 = .ok (.athrow, 1) := by decide +kernel
theorem d_D_type_23 : decode prog_1_method_2_code 23 = .ok (.aload_n 0, 1) := by decide +kernel
theorem d_D_type_24 : decode prog_1_method_2_code 24 = .ok (.getfield 12, 3) := by decide +kernel
theorem d_D_type_27 : decode prog_1_method_2_code 27 = .ok (.iload_n 1, 1) := by decide +kernel
theorem d_D_type_28 : decode prog_1_method_2_code 28 = .ok (.iload_n 2, 1) := by decide +kernel
theorem d_D_type_29 : decode prog_1_method_2_code 29 = .ok (.invokevirtual 69, 3) := by decide +kernel
theorem d_D_type_32 : decode prog_1_method_2_code 32 = .ok (.ireturn, 1) := by decide +kernel
theorem d_D_formula_0 : decode prog_1_method_3_code 0 = .ok (.aload_n 0, 1) := by decide +kernel
theorem d_D_formula_1 : decode prog_1_method_3_code 1 = .ok (.getfield 12, 3) := by decide +kernel
theorem d_D_formula_4 : decode prog_1_method_3_code 4 = .ok (.aload_n 0, 1) := by decide +kernel
theorem d_D_formula_5 : decode prog_1_method_3_code 5 = .ok (.getfield 44, 3) := by decide +kernel
theorem d_D_formula_8 : decode prog_1_method_3_code 8 = .ok (.invokevirtual 72, 3) := by decide +kernel
theorem d_D_formula_11 : decode prog_1_method_3_code 11 = .ok (.istore_n 1, 1) := by decide +kernel
theorem d_D_formula_12 : decode prog_1_method_3_code 12 = .ok (.aload_n 0, 1) := by decide +kernel
theorem d_D_formula_13 : decode prog_1_method_3_code 13 = .ok (.getfield 12, 3) := by decide +kernel
theorem d_D_formula_16 : decode prog_1_method_3_code 16 = .ok (.invokevirtual 76, 3) := by decide +kernel
theorem d_D_formula_19 : decode prog_1_method_3_code 19 = .ok (.iload_n 1, 1) := by decide +kernel
theorem d_D_formula_20 : decode prog_1_method_3_code 20 = .ok (.ifCond .ne 13, 3) := by decide +kernel
theorem d_D_formula_23 : decode prog_1_method_3_code 23 = .ok (.new 62, 3) := by decide +kernel
theorem d_D_formula_26 : decode prog_1_method_3_code 26 = .ok (.dup, 1) := by decide +kernel
theorem d_D_formula_27 : decode prog_1_method_3_code 27 = .ok (.ldc 79, 2) := by decide +kernel
theorem d_D_formula_29 : decode prog_1_method_3_code 29 = .ok (.invokespecial 66, 3) := by decide +kernel
theorem d_D_formula_32 : decode prog_1_method_3_code 32 = .ok (.athrow, 1) := by decide +kernel
theorem d_D_formula_33 : decode prog_1_method_3_code 33 = .ok (.aload_n 0, 1) := by decide +kernel
theorem d_D_formula_34 : decode prog_1_method_3_code 34 = .ok (.getfield 40, 3) := by decide +kernel
theorem d_D_formula_37 : decode prog_1_method_3_code 37 = .ok (.astore_n 2, 1) := by decide +kernel
theorem d_D_formula_38 : decode prog_1_method_3_code 38 = .ok (.aload_n 0, 1) := by decide +kernel
theorem d_D_formula_39 : decode prog_1_method_3_code 39 = .ok (.aload_n 0, 1) := by decide +kernel
theorem d_D_formula_40 : decode prog_1_method_3_code 40 = .ok (.getfield 44, 3) := by decide +kernel
theorem d_D_formula_43 : decode prog_1_method_3_code 43 = .ok (.putfield 40, 3) := by decide +kernel
theorem d_D_formula_46 : decode prog_1_method_3_code 46 = .ok (.aload_n 0, 1) := by decide +kernel
theorem d_D_formula_47 : decode prog_1_method_3_code 47 = .ok (.aload_n 2, 1) := by decide +kernel
theorem d_D_formula_48 : decode prog_1_method_3_code 48 = .ok (.putfield 44, 3) := by decide +kernel
theorem d_D_formula_51 : decode prog_1_method_3_code 51 = .ok (.aload_n 0, 1) := by decide +kernel
theorem d_D_formula_52 : decode prog_1_method_3_code 52 = .ok (.iconst 1, 1) := by decide +kernel
theorem d_D_formula_53 : decode prog_1_method_3_code 53 = .ok (.putfield 47, 3) := by decide +kernel
theorem d_D_formula_56 : decode prog_1_method_3_code 56 = .ok (.aload_n 0, 1) := by decide +kernel
theorem d_D_formula_57 : decode prog_1_method_3_code 57 = .ok (.iconst 0, 1) := by decide +kernel
theorem d_D_formula_58 : decode prog_1_method_3_code 58 = .ok (.putfield 51, 3) := by decide +kernel
theorem d_D_formula_61 : decode prog_1_method_3_code 61 = .ok (.aload_n 0, 1) := by decide +kernel
theorem d_D_formula_62 : decode prog_1_method_3_code 62 = .ok (.getfield 40, 3) := by decide +kernel
theorem d_D_formula_65 : decode prog_1_method_3_code 65 = .ok (.invokevirtual 81, 3) := by decide +kernel
theorem d_D_formula_68 : decode prog_1_method_3_code 68 = .ok (.ireturn, 1) := by decide +kernel
theorem d_D_states_0 : decode prog_1_method_4_code 0 = .ok (.aload_n 0, 1) := by decide +kernel
theorem d_D_states_1 : decode prog_1_method_4_code 1 = .ok (.invokevirtual 85, 3) := by decide +kernel
theorem d_D_states_4 : decode prog_1_method_4_code 4 = .ok (.aload_n 0, 1) := by decide +kernel
theorem d_D_states_5 : decode prog_1_method_4_code 5 = .ok (.getfield 40, 3) := by decide +kernel
theorem d_D_states_8 : decode prog_1_method_4_code 8 = .ok (.invokevirtual 88, 3) := by decide +kernel
theorem d_D_states_11 : decode prog_1_method_4_code 11 = .ok (.ireturn, 1) := by decide +kernel
theorem d_D_isAt_0 : decode prog_1_method_5_code 0 = .ok (.aload_n 0, 1) := by decide +kernel
theorem d_D_isAt_1 : decode prog_1_method_5_code 1 = .ok (.invokevirtual 85, 3) := by decide +kernel
theorem d_D_isAt_4 : decode prog_1_method_5_code 4 = .ok (.aload_n 0, 1) := by decide +kernel
theorem d_D_isAt_5 : decode prog_1_method_5_code 5 = .ok (.iload_n 1, 1) := by decide +kernel
theorem d_D_isAt_6 : decode prog_1_method_5_code 6 = .ok (.invokevirtual 91, 3) := by decide +kernel
theorem d_D_isAt_9 : decode prog_1_method_5_code 9 = .ok (.aload_n 0, 1) := by decide +kernel
theorem d_D_isAt_10 : decode prog_1_method_5_code 10 = .ok (.getfield 40, 3) := by decide +kernel
theorem d_D_isAt_13 : decode prog_1_method_5_code 13 = .ok (.aload_n 0, 1) := by decide +kernel
theorem d_D_isAt_14 : decode prog_1_method_5_code 14 = .ok (.getfield 40, 3) := by decide +kernel
theorem d_D_isAt_17 : decode prog_1_method_5_code 17 = .ok (.iload_n 1, 1) := by decide +kernel
theorem d_D_isAt_18 : decode prog_1_method_5_code 18 = .ok (.invokevirtual 95, 3) := by decide +kernel
theorem d_D_isAt_21 : decode prog_1_method_5_code 21 = .ok (.invokevirtual 98, 3) := by decide +kernel
theorem d_D_isAt_24 : decode prog_1_method_5_code 24 = .ok (.ireturn, 1) := by decide +kernel
theorem d_D_leads_0 : decode prog_1_method_6_code 0 = .ok (.aload_n 0, 1) := by decide +kernel
theorem d_D_leads_1 : decode prog_1_method_6_code 1 = .ok (.invokevirtual 85, 3) := by decide +kernel
theorem d_D_leads_4 : decode prog_1_method_6_code 4 = .ok (.aload_n 0, 1) := by decide +kernel
theorem d_D_leads_5 : decode prog_1_method_6_code 5 = .ok (.iload_n 1, 1) := by decide +kernel
theorem d_D_leads_6 : decode prog_1_method_6_code 6 = .ok (.invokevirtual 91, 3) := by decide +kernel
theorem d_D_leads_9 : decode prog_1_method_6_code 9 = .ok (.aload_n 0, 1) := by decide +kernel
theorem d_D_leads_10 : decode prog_1_method_6_code 10 = .ok (.iload_n 2, 1) := by decide +kernel
theorem d_D_leads_11 : decode prog_1_method_6_code 11 = .ok (.invokevirtual 91, 3) := by decide +kernel
theorem d_D_leads_14 : decode prog_1_method_6_code 14 = .ok (.iload_n 1, 1) := by decide +kernel
theorem d_D_leads_15 : decode prog_1_method_6_code 15 = .ok (.iconst 3, 1) := by decide +kernel
theorem d_D_leads_16 : decode prog_1_method_6_code 16 = .ok (.ishr, 1) := by decide +kernel
theorem d_D_leads_17 : decode prog_1_method_6_code 17 = .ok (.aload_n 0, 1) := by decide +kernel
theorem d_D_leads_18 : decode prog_1_method_6_code 18 = .ok (.getfield 40, 3) := by decide +kernel
theorem d_D_leads_21 : decode prog_1_method_6_code 21 = .ok (.aload_n 0, 1) := by decide +kernel
theorem d_D_leads_22 : decode prog_1_method_6_code 22 = .ok (.getfield 40, 3) := by decide +kernel
theorem d_D_leads_25 : decode prog_1_method_6_code 25 = .ok (.iload_n 2, 1) := by decide +kernel
theorem d_D_leads_26 : decode prog_1_method_6_code 26 = .ok (.invokevirtual 95, 3) := by decide +kernel
theorem d_D_leads_29 : decode prog_1_method_6_code 29 = .ok (.invokevirtual 102, 3) := by decide +kernel
theorem d_D_leads_32 : decode prog_1_method_6_code 32 = .ok (.if_icmp .ne 7, 3) := by decide +kernel
theorem d_D_leads_35 : decode prog_1_method_6_code 35 = .ok (.iconst 1, 1) := by decide +kernel
theorem d_D_leads_36 : decode prog_1_method_6_code 36 = .ok (.goto 4, 3) := by decide +kernel
theorem d_D_leads_39 : decode prog_1_method_6_code 39 = .ok (.iconst 0, 1) := by decide +kernel
theorem d_D_leads_40 : decode prog_1_method_6_code 40 = .ok (.ireturn, 1) := by decide +kernel
theorem d_D_lasts_0 : decode prog_1_method_7_code 0 = .ok (.aload_n 0, 1) := by decide +kernel
theorem d_D_lasts_1 : decode prog_1_method_7_code 1 = .ok (.invokevirtual 85, 3) := by decide +kernel
theorem d_D_lasts_4 : decode prog_1_method_7_code 4 = .ok (.aload_n 0, 1) := by decide +kernel
theorem d_D_lasts_5 : decode prog_1_method_7_code 5 = .ok (.iload_n 1, 1) := by decide +kernel
theorem d_D_lasts_6 : decode prog_1_method_7_code 6 = .ok (.invokevirtual 91, 3) := by decide +kernel
theorem d_D_lasts_9 : decode prog_1_method_7_code 9 = .ok (.aload_n 0, 1) := by decide +kernel
theorem d_D_lasts_10 : decode prog_1_method_7_code 10 = .ok (.invokevirtual 105, 3) := by decide +kernel
theorem d_D_lasts_13 : decode prog_1_method_7_code 13 = .ok (.aload_n 0, 1) := by decide +kernel
theorem d_D_lasts_14 : decode prog_1_method_7_code 14 = .ok (.getfield 19, 3) := by decide +kernel
theorem d_D_lasts_17 : decode prog_1_method_7_code 17 = .ok (.iload_n 1, 1) := by decide +kernel
theorem d_D_lasts_18 : decode prog_1_method_7_code 18 = .ok (.invokevirtual 108, 3) := by decide +kernel
theorem d_D_lasts_21 : decode prog_1_method_7_code 21 = .ok (.ireturn, 1) := by decide +kernel
theorem d_D_lasting_0 : decode prog_1_method_8_code 0 = .ok (.aload_n 0, 1) := by decide +kernel
theorem d_D_lasting_1 : decode prog_1_method_8_code 1 = .ok (.invokevirtual 85, 3) := by decide +kernel
theorem d_D_lasting_4 : decode prog_1_method_8_code 4 = .ok (.aload_n 0, 1) := by decide +kernel
theorem d_D_lasting_5 : decode prog_1_method_8_code 5 = .ok (.invokevirtual 105, 3) := by decide +kernel
theorem d_D_lasting_8 : decode prog_1_method_8_code 8 = .ok (.aload_n 0, 1) := by decide +kernel
theorem d_D_lasting_9 : decode prog_1_method_8_code 9 = .ok (.getfield 19, 3) := by decide +kernel
theorem d_D_lasting_12 : decode prog_1_method_8_code 12 = .ok (.invokevirtual 111, 3) := by decide +kernel
theorem d_D_lasting_15 : decode prog_1_method_8_code 15 = .ok (.ireturn, 1) := by decide +kernel
theorem d_D_promises_0 : decode prog_1_method_9_code 0 = .ok (.aload_n 0, 1) := by decide +kernel
theorem d_D_promises_1 : decode prog_1_method_9_code 1 = .ok (.invokevirtual 85, 3) := by decide +kernel
theorem d_D_promises_4 : decode prog_1_method_9_code 4 = .ok (.aload_n 0, 1) := by decide +kernel
theorem d_D_promises_5 : decode prog_1_method_9_code 5 = .ok (.getfield 40, 3) := by decide +kernel
theorem d_D_promises_8 : decode prog_1_method_9_code 8 = .ok (.invokevirtual 112, 3) := by decide +kernel
theorem d_D_promises_11 : decode prog_1_method_9_code 11 = .ok (.ireturn, 1) := by decide +kernel
theorem d_D_can_0 : decode prog_1_method_10_code 0 = .ok (.aload_n 0, 1) := by decide +kernel
theorem d_D_can_1 : decode prog_1_method_10_code 1 = .ok (.invokevirtual 85, 3) := by decide +kernel
theorem d_D_can_4 : decode prog_1_method_10_code 4 = .ok (.aload_n 0, 1) := by decide +kernel
theorem d_D_can_5 : decode prog_1_method_10_code 5 = .ok (.invokevirtual 105, 3) := by decide +kernel
theorem d_D_can_8 : decode prog_1_method_10_code 8 = .ok (.aload_n 0, 1) := by decide +kernel
theorem d_D_can_9 : decode prog_1_method_10_code 9 = .ok (.getfield 26, 3) := by decide +kernel
theorem d_D_can_12 : decode prog_1_method_10_code 12 = .ok (.invokevirtual 115, 3) := by decide +kernel
theorem d_D_can_15 : decode prog_1_method_10_code 15 = .ok (.ireturn, 1) := by decide +kernel
theorem d_D_stem_0 : decode prog_1_method_11_code 0 = .ok (.aload_n 0, 1) := by decide +kernel
theorem d_D_stem_1 : decode prog_1_method_11_code 1 = .ok (.invokevirtual 85, 3) := by decide +kernel
theorem d_D_stem_4 : decode prog_1_method_11_code 4 = .ok (.aload_n 0, 1) := by decide +kernel
theorem d_D_stem_5 : decode prog_1_method_11_code 5 = .ok (.invokevirtual 105, 3) := by decide +kernel
theorem d_D_stem_8 : decode prog_1_method_11_code 8 = .ok (.aload_n 0, 1) := by decide +kernel
theorem d_D_stem_9 : decode prog_1_method_11_code 9 = .ok (.getfield 26, 3) := by decide +kernel
theorem d_D_stem_12 : decode prog_1_method_11_code 12 = .ok (.invokevirtual 119, 3) := by decide +kernel
theorem d_D_stem_15 : decode prog_1_method_11_code 15 = .ok (.ireturn, 1) := by decide +kernel
theorem d_D_loop_0 : decode prog_1_method_12_code 0 = .ok (.aload_n 0, 1) := by decide +kernel
theorem d_D_loop_1 : decode prog_1_method_12_code 1 = .ok (.invokevirtual 85, 3) := by decide +kernel
theorem d_D_loop_4 : decode prog_1_method_12_code 4 = .ok (.aload_n 0, 1) := by decide +kernel
theorem d_D_loop_5 : decode prog_1_method_12_code 5 = .ok (.invokevirtual 105, 3) := by decide +kernel
theorem d_D_loop_8 : decode prog_1_method_12_code 8 = .ok (.aload_n 0, 1) := by decide +kernel
theorem d_D_loop_9 : decode prog_1_method_12_code 9 = .ok (.getfield 26, 3) := by decide +kernel
theorem d_D_loop_12 : decode prog_1_method_12_code 12 = .ok (.invokevirtual 122, 3) := by decide +kernel
theorem d_D_loop_15 : decode prog_1_method_12_code 15 = .ok (.ireturn, 1) := by decide +kernel
theorem d_D_step_0 : decode prog_1_method_13_code 0 = .ok (.aload_n 0, 1) := by decide +kernel
theorem d_D_step_1 : decode prog_1_method_13_code 1 = .ok (.invokevirtual 85, 3) := by decide +kernel
theorem d_D_step_4 : decode prog_1_method_13_code 4 = .ok (.aload_n 0, 1) := by decide +kernel
theorem d_D_step_5 : decode prog_1_method_13_code 5 = .ok (.invokevirtual 105, 3) := by decide +kernel
theorem d_D_step_8 : decode prog_1_method_13_code 8 = .ok (.aload_n 0, 1) := by decide +kernel
theorem d_D_step_9 : decode prog_1_method_13_code 9 = .ok (.getfield 26, 3) := by decide +kernel
theorem d_D_step_12 : decode prog_1_method_13_code 12 = .ok (.invokevirtual 115, 3) := by decide +kernel
theorem d_D_step_15 : decode prog_1_method_13_code 15 = .ok (.ifCond .ne 13, 3) := by decide +kernel
theorem d_D_step_18 : decode prog_1_method_13_code 18 = .ok (.new 125, 3) := by decide +kernel
theorem d_D_step_21 : decode prog_1_method_13_code 21 = .ok (.dup, 1) := by decide +kernel
theorem d_D_step_22 : decode prog_1_method_13_code 22 = .ok (.ldc 127, 2) := by decide +kernel
theorem d_D_step_24 : decode prog_1_method_13_code 24 = .ok (.invokespecial 129, 3) := by decide +kernel
theorem d_D_step_27 : decode prog_1_method_13_code 27 = .ok (.athrow, 1) := by decide +kernel
theorem d_D_step_28 : decode prog_1_method_13_code 28 = .ok (.iload_n 1, 1) := by decide +kernel
theorem d_D_step_29 : decode prog_1_method_13_code 29 = .ok (.ifCond .lt 14, 3) := by decide +kernel
theorem d_D_step_32 : decode prog_1_method_13_code 32 = .ok (.iload_n 1, 1) := by decide +kernel
theorem d_D_step_33 : decode prog_1_method_13_code 33 = .ok (.aload_n 0, 1) := by decide +kernel
theorem d_D_step_34 : decode prog_1_method_13_code 34 = .ok (.getfield 26, 3) := by decide +kernel
theorem d_D_step_37 : decode prog_1_method_13_code 37 = .ok (.invokevirtual 130, 3) := by decide +kernel
theorem d_D_step_40 : decode prog_1_method_13_code 40 = .ok (.if_icmp .lt 13, 3) := by decide +kernel
theorem d_D_step_43 : decode prog_1_method_13_code 43 = .ok (.new 131, 3) := by decide +kernel
theorem d_D_step_46 : decode prog_1_method_13_code 46 = .ok (.dup, 1) := by decide +kernel
theorem d_D_step_47 : decode prog_1_method_13_code 47 = .ok (.ldc 133, 2) := by decide +kernel
theorem d_D_step_49 : decode prog_1_method_13_code 49 = .ok (.invokespecial 135, 3) := by decide +kernel
theorem d_D_step_52 : decode prog_1_method_13_code 52 = .ok (.athrow, 1) := by decide +kernel
theorem d_D_step_53 : decode prog_1_method_13_code 53 = .ok (.aload_n 0, 1) := by decide +kernel
theorem d_D_step_54 : decode prog_1_method_13_code 54 = .ok (.getfield 26, 3) := by decide +kernel
theorem d_D_step_57 : decode prog_1_method_13_code 57 = .ok (.iload_n 1, 1) := by decide +kernel
theorem d_D_step_58 : decode prog_1_method_13_code 58 = .ok (.invokevirtual 136, 3) := by decide +kernel
theorem d_D_step_61 : decode prog_1_method_13_code 61 = .ok (.ireturn, 1) := by decide +kernel
theorem d_D_shape_0 : decode prog_1_method_14_code 0 = .ok (.iload_n 1, 1) := by decide +kernel
theorem d_D_shape_1 : decode prog_1_method_14_code 1 = .ok (.iload_n 2, 1) := by decide +kernel
theorem d_D_shape_2 : decode prog_1_method_14_code 2 = .ok (.invokestatic 139, 3) := by decide +kernel
theorem d_D_shape_5 : decode prog_1_method_14_code 5 = .ok (.ifCond .ne 13, 3) := by decide +kernel
theorem d_D_shape_8 : decode prog_1_method_14_code 8 = .ok (.new 62, 3) := by decide +kernel
theorem d_D_shape_11 : decode prog_1_method_14_code 11 = .ok (.dup, 1) := by decide +kernel
theorem d_D_shape_12 : decode prog_1_method_14_code 12 = .ok (.ldc 142, 2) := by decide +kernel
theorem d_D_shape_14 : decode prog_1_method_14_code 14 = .ok (.invokespecial 66, 3) := by decide +kernel
theorem d_D_shape_17 : decode prog_1_method_14_code 17 = .ok (.athrow, 1) := by decide +kernel
theorem d_D_shape_18 : decode prog_1_method_14_code 18 = .ok (.aload_n 0, 1) := by decide +kernel
theorem d_D_shape_19 : decode prog_1_method_14_code 19 = .ok (.getfield 33, 3) := by decide +kernel
theorem d_D_shape_22 : decode prog_1_method_14_code 22 = .ok (.iload_n 1, 1) := by decide +kernel
theorem d_D_shape_23 : decode prog_1_method_14_code 23 = .ok (.iload_n 2, 1) := by decide +kernel
theorem d_D_shape_24 : decode prog_1_method_14_code 24 = .ok (.invokevirtual 144, 3) := by decide +kernel
theorem d_D_shape_27 : decode prog_1_method_14_code 27 = .ok (.return_, 1) := by decide +kernel
theorem d_D_set_0 : decode prog_1_method_15_code 0 = .ok (.iload_n 1, 1) := by decide +kernel
theorem d_D_set_1 : decode prog_1_method_15_code 1 = .ok (.ifCond .lt 14, 3) := by decide +kernel
theorem d_D_set_4 : decode prog_1_method_15_code 4 = .ok (.iload_n 1, 1) := by decide +kernel
theorem d_D_set_5 : decode prog_1_method_15_code 5 = .ok (.aload_n 0, 1) := by decide +kernel
theorem d_D_set_6 : decode prog_1_method_15_code 6 = .ok (.getfield 33, 3) := by decide +kernel
theorem d_D_set_9 : decode prog_1_method_15_code 9 = .ok (.invokevirtual 148, 3) := by decide +kernel
theorem d_D_set_12 : decode prog_1_method_15_code 12 = .ok (.if_icmp .lt 13, 3) := by decide +kernel
theorem d_D_set_15 : decode prog_1_method_15_code 15 = .ok (.new 131, 3) := by decide +kernel
theorem d_D_set_18 : decode prog_1_method_15_code 18 = .ok (.dup, 1) := by decide +kernel
theorem d_D_set_19 : decode prog_1_method_15_code 19 = .ok (.ldc 149, 2) := by decide +kernel
theorem d_D_set_21 : decode prog_1_method_15_code 21 = .ok (.invokespecial 135, 3) := by decide +kernel
theorem d_D_set_24 : decode prog_1_method_15_code 24 = .ok (.athrow, 1) := by decide +kernel
theorem d_D_set_25 : decode prog_1_method_15_code 25 = .ok (.aload_n 0, 1) := by decide +kernel
theorem d_D_set_26 : decode prog_1_method_15_code 26 = .ok (.getfield 33, 3) := by decide +kernel
theorem d_D_set_29 : decode prog_1_method_15_code 29 = .ok (.iload_n 1, 1) := by decide +kernel
theorem d_D_set_30 : decode prog_1_method_15_code 30 = .ok (.iload_n 2, 1) := by decide +kernel
theorem d_D_set_31 : decode prog_1_method_15_code 31 = .ok (.invokevirtual 151, 3) := by decide +kernel
theorem d_D_set_34 : decode prog_1_method_15_code 34 = .ok (.ireturn, 1) := by decide +kernel
theorem d_D_adopt_0 : decode prog_1_method_16_code 0 = .ok (.aload_n 0, 1) := by decide +kernel
theorem d_D_adopt_1 : decode prog_1_method_16_code 1 = .ok (.invokevirtual 85, 3) := by decide +kernel
theorem d_D_adopt_4 : decode prog_1_method_16_code 4 = .ok (.aload_n 0, 1) := by decide +kernel
theorem d_D_adopt_5 : decode prog_1_method_16_code 5 = .ok (.invokevirtual 105, 3) := by decide +kernel
theorem d_D_adopt_8 : decode prog_1_method_16_code 8 = .ok (.aload_n 0, 1) := by decide +kernel
theorem d_D_adopt_9 : decode prog_1_method_16_code 9 = .ok (.getfield 26, 3) := by decide +kernel
theorem d_D_adopt_12 : decode prog_1_method_16_code 12 = .ok (.invokevirtual 115, 3) := by decide +kernel
theorem d_D_adopt_15 : decode prog_1_method_16_code 15 = .ok (.ifCond .eq 23, 3) := by decide +kernel
theorem d_D_adopt_18 : decode prog_1_method_16_code 18 = .ok (.aload_n 0, 1) := by decide +kernel
theorem d_D_adopt_19 : decode prog_1_method_16_code 19 = .ok (.getfield 26, 3) := by decide +kernel
theorem d_D_adopt_22 : decode prog_1_method_16_code 22 = .ok (.invokevirtual 119, 3) := by decide +kernel
theorem d_D_adopt_25 : decode prog_1_method_16_code 25 = .ok (.aload_n 0, 1) := by decide +kernel
theorem d_D_adopt_26 : decode prog_1_method_16_code 26 = .ok (.getfield 26, 3) := by decide +kernel
theorem d_D_adopt_29 : decode prog_1_method_16_code 29 = .ok (.invokevirtual 122, 3) := by decide +kernel
theorem d_D_adopt_32 : decode prog_1_method_16_code 32 = .ok (.invokestatic 139, 3) := by decide +kernel
theorem d_D_adopt_35 : decode prog_1_method_16_code 35 = .ok (.ifCond .ne 5, 3) := by decide +kernel
theorem d_D_adopt_38 : decode prog_1_method_16_code 38 = .ok (.iconst 0, 1) := by decide +kernel
theorem d_D_adopt_39 : decode prog_1_method_16_code 39 = .ok (.ireturn, 1) := by decide +kernel
theorem d_D_adopt_40 : decode prog_1_method_16_code 40 = .ok (.aload_n 0, 1) := by decide +kernel
theorem d_D_adopt_41 : decode prog_1_method_16_code 41 = .ok (.getfield 33, 3) := by decide +kernel
theorem d_D_adopt_44 : decode prog_1_method_16_code 44 = .ok (.aload_n 0, 1) := by decide +kernel
theorem d_D_adopt_45 : decode prog_1_method_16_code 45 = .ok (.getfield 26, 3) := by decide +kernel
theorem d_D_adopt_48 : decode prog_1_method_16_code 48 = .ok (.invokevirtual 155, 3) := by decide +kernel
theorem d_D_adopt_51 : decode prog_1_method_16_code 51 = .ok (.iconst 1, 1) := by decide +kernel
theorem d_D_adopt_52 : decode prog_1_method_16_code 52 = .ok (.ireturn, 1) := by decide +kernel
theorem d_D_letter_0 : decode prog_1_method_17_code 0 = .ok (.aload_n 0, 1) := by decide +kernel
theorem d_D_letter_1 : decode prog_1_method_17_code 1 = .ok (.iload_n 1, 1) := by decide +kernel
theorem d_D_letter_2 : decode prog_1_method_17_code 2 = .ok (.invokevirtual 159, 3) := by decide +kernel
theorem d_D_letter_5 : decode prog_1_method_17_code 5 = .ok (.aload_n 0, 1) := by decide +kernel
theorem d_D_letter_6 : decode prog_1_method_17_code 6 = .ok (.getfield 33, 3) := by decide +kernel
theorem d_D_letter_9 : decode prog_1_method_17_code 9 = .ok (.iload_n 1, 1) := by decide +kernel
theorem d_D_letter_10 : decode prog_1_method_17_code 10 = .ok (.invokevirtual 162, 3) := by decide +kernel
theorem d_D_letter_13 : decode prog_1_method_17_code 13 = .ok (.ireturn, 1) := by decide +kernel
theorem d_D_holds_0 : decode prog_1_method_18_code 0 = .ok (.aload_n 0, 1) := by decide +kernel
theorem d_D_holds_1 : decode prog_1_method_18_code 1 = .ok (.invokevirtual 85, 3) := by decide +kernel
theorem d_D_holds_4 : decode prog_1_method_18_code 4 = .ok (.aload_n 0, 1) := by decide +kernel
theorem d_D_holds_5 : decode prog_1_method_18_code 5 = .ok (.iload_n 1, 1) := by decide +kernel
theorem d_D_holds_6 : decode prog_1_method_18_code 6 = .ok (.invokevirtual 159, 3) := by decide +kernel
theorem d_D_holds_9 : decode prog_1_method_18_code 9 = .ok (.aload_n 0, 1) := by decide +kernel
theorem d_D_holds_10 : decode prog_1_method_18_code 10 = .ok (.getfield 40, 3) := by decide +kernel
theorem d_D_holds_13 : decode prog_1_method_18_code 13 = .ok (.aload_n 0, 1) := by decide +kernel
theorem d_D_holds_14 : decode prog_1_method_18_code 14 = .ok (.getfield 33, 3) := by decide +kernel
theorem d_D_holds_17 : decode prog_1_method_18_code 17 = .ok (.invokevirtual 165, 3) := by decide +kernel
theorem d_D_holds_20 : decode prog_1_method_18_code 20 = .ok (.aload_n 0, 1) := by decide +kernel
theorem d_D_holds_21 : decode prog_1_method_18_code 21 = .ok (.getfield 33, 3) := by decide +kernel
theorem d_D_holds_24 : decode prog_1_method_18_code 24 = .ok (.iload_n 1, 1) := by decide +kernel
theorem d_D_holds_25 : decode prog_1_method_18_code 25 = .ok (.invokevirtual 169, 3) := by decide +kernel
theorem d_D_holds_28 : decode prog_1_method_18_code 28 = .ok (.invokestatic 172, 3) := by decide +kernel
theorem d_D_holds_31 : decode prog_1_method_18_code 31 = .ok (.ireturn, 1) := by decide +kernel
theorem d_D_requireFormula_0 : decode prog_1_method_19_code 0 = .ok (.aload_n 0, 1) := by decide +kernel
theorem d_D_requireFormula_1 : decode prog_1_method_19_code 1 = .ok (.getfield 47, 3) := by decide +kernel
theorem d_D_requireFormula_4 : decode prog_1_method_19_code 4 = .ok (.ifCond .ne 13, 3) := by decide +kernel
theorem d_D_requireFormula_7 : decode prog_1_method_19_code 7 = .ok (.new 125, 3) := by decide +kernel
theorem d_D_requireFormula_10 : decode prog_1_method_19_code 10 = .ok (.dup, 1) := by decide +kernel
theorem d_D_requireFormula_11 : decode prog_1_method_19_code 11 = .ok (.ldc 175, 2) := by decide +kernel
theorem d_D_requireFormula_13 : decode prog_1_method_19_code 13 = .ok (.invokespecial 129, 3) := by decide +kernel
theorem d_D_requireFormula_16 : decode prog_1_method_19_code 16 = .ok (.athrow, 1) := by decide +kernel
theorem d_D_requireFormula_17 : decode prog_1_method_19_code 17 = .ok (.return_, 1) := by decide +kernel
theorem d_D_requireState_0 : decode prog_1_method_20_code 0 = .ok (.iload_n 1, 1) := by decide +kernel
theorem d_D_requireState_1 : decode prog_1_method_20_code 1 = .ok (.ifCond .lt 14, 3) := by decide +kernel
theorem d_D_requireState_4 : decode prog_1_method_20_code 4 = .ok (.iload_n 1, 1) := by decide +kernel
theorem d_D_requireState_5 : decode prog_1_method_20_code 5 = .ok (.aload_n 0, 1) := by decide +kernel
theorem d_D_requireState_6 : decode prog_1_method_20_code 6 = .ok (.getfield 40, 3) := by decide +kernel
theorem d_D_requireState_9 : decode prog_1_method_20_code 9 = .ok (.invokevirtual 88, 3) := by decide +kernel
theorem d_D_requireState_12 : decode prog_1_method_20_code 12 = .ok (.if_icmp .lt 13, 3) := by decide +kernel
theorem d_D_requireState_15 : decode prog_1_method_20_code 15 = .ok (.new 131, 3) := by decide +kernel
theorem d_D_requireState_18 : decode prog_1_method_20_code 18 = .ok (.dup, 1) := by decide +kernel
theorem d_D_requireState_19 : decode prog_1_method_20_code 19 = .ok (.ldc 177, 2) := by decide +kernel
theorem d_D_requireState_21 : decode prog_1_method_20_code 21 = .ok (.invokespecial 135, 3) := by decide +kernel
theorem d_D_requireState_24 : decode prog_1_method_20_code 24 = .ok (.athrow, 1) := by decide +kernel
theorem d_D_requireState_25 : decode prog_1_method_20_code 25 = .ok (.return_, 1) := by decide +kernel
theorem d_D_requirePlace_0 : decode prog_1_method_21_code 0 = .ok (.iload_n 1, 1) := by decide +kernel
theorem d_D_requirePlace_1 : decode prog_1_method_21_code 1 = .ok (.ifCond .ge 13, 3) := by decide +kernel
theorem d_D_requirePlace_4 : decode prog_1_method_21_code 4 = .ok (.new 131, 3) := by decide +kernel
theorem d_D_requirePlace_7 : decode prog_1_method_21_code 7 = .ok (.dup, 1) := by decide +kernel
theorem d_D_requirePlace_8 : decode prog_1_method_21_code 8 = .ok (.ldc 179, 2) := by decide +kernel
theorem d_D_requirePlace_10 : decode prog_1_method_21_code 10 = .ok (.invokespecial 135, 3) := by decide +kernel
theorem d_D_requirePlace_13 : decode prog_1_method_21_code 13 = .ok (.athrow, 1) := by decide +kernel
theorem d_D_requirePlace_14 : decode prog_1_method_21_code 14 = .ok (.return_, 1) := by decide +kernel
theorem d_D_settle_0 : decode prog_1_method_22_code 0 = .ok (.aload_n 0, 1) := by decide +kernel
theorem d_D_settle_1 : decode prog_1_method_22_code 1 = .ok (.getfield 51, 3) := by decide +kernel
theorem d_D_settle_4 : decode prog_1_method_22_code 4 = .ok (.ifCond .ne 30, 3) := by decide +kernel
theorem d_D_settle_7 : decode prog_1_method_22_code 7 = .ok (.aload_n 0, 1) := by decide +kernel
theorem d_D_settle_8 : decode prog_1_method_22_code 8 = .ok (.getfield 19, 3) := by decide +kernel
theorem d_D_settle_11 : decode prog_1_method_22_code 11 = .ok (.aload_n 0, 1) := by decide +kernel
theorem d_D_settle_12 : decode prog_1_method_22_code 12 = .ok (.getfield 40, 3) := by decide +kernel
theorem d_D_settle_15 : decode prog_1_method_22_code 15 = .ok (.invokevirtual 181, 3) := by decide +kernel
theorem d_D_settle_18 : decode prog_1_method_22_code 18 = .ok (.aload_n 0, 1) := by decide +kernel
theorem d_D_settle_19 : decode prog_1_method_22_code 19 = .ok (.getfield 26, 3) := by decide +kernel
theorem d_D_settle_22 : decode prog_1_method_22_code 22 = .ok (.aload_n 0, 1) := by decide +kernel
theorem d_D_settle_23 : decode prog_1_method_22_code 23 = .ok (.getfield 19, 3) := by decide +kernel
theorem d_D_settle_26 : decode prog_1_method_22_code 26 = .ok (.invokevirtual 185, 3) := by decide +kernel
theorem d_D_settle_29 : decode prog_1_method_22_code 29 = .ok (.aload_n 0, 1) := by decide +kernel
theorem d_D_settle_30 : decode prog_1_method_22_code 30 = .ok (.iconst 1, 1) := by decide +kernel
theorem d_D_settle_31 : decode prog_1_method_22_code 31 = .ok (.putfield 51, 3) := by decide +kernel
theorem d_D_settle_34 : decode prog_1_method_22_code 34 = .ok (.return_, 1) := by decide +kernel
theorem d_D_hasBit_0 : decode prog_1_method_23_code 0 = .ok (.iload_n 0, 1) := by decide +kernel
theorem d_D_hasBit_1 : decode prog_1_method_23_code 1 = .ok (.iload_n 1, 1) := by decide +kernel
theorem d_D_hasBit_2 : decode prog_1_method_23_code 2 = .ok (.ishr, 1) := by decide +kernel
theorem d_D_hasBit_3 : decode prog_1_method_23_code 3 = .ok (.iconst 1, 1) := by decide +kernel
theorem d_D_hasBit_4 : decode prog_1_method_23_code 4 = .ok (.iand, 1) := by decide +kernel
theorem d_D_hasBit_5 : decode prog_1_method_23_code 5 = .ok (.ifCond .eq 7, 3) := by decide +kernel
theorem d_D_hasBit_8 : decode prog_1_method_23_code 8 = .ok (.iconst 1, 1) := by decide +kernel
theorem d_D_hasBit_9 : decode prog_1_method_23_code 9 = .ok (.goto 4, 3) := by decide +kernel
theorem d_D_hasBit_12 : decode prog_1_method_23_code 12 = .ok (.iconst 0, 1) := by decide +kernel
theorem d_D_hasBit_13 : decode prog_1_method_23_code 13 = .ok (.ireturn, 1) := by decide +kernel
theorem d_D_isTemporal_0 : decode prog_1_method_24_code 0 = .ok (.iload_n 0, 1) := by decide +kernel
theorem d_D_isTemporal_1 : decode prog_1_method_24_code 1 = .ok (.bipush 88, 2) := by decide +kernel
theorem d_D_isTemporal_3 : decode prog_1_method_24_code 3 = .ok (.if_icmp .eq 27, 3) := by decide +kernel
theorem d_D_isTemporal_6 : decode prog_1_method_24_code 6 = .ok (.iload_n 0, 1) := by decide +kernel
theorem d_D_isTemporal_7 : decode prog_1_method_24_code 7 = .ok (.bipush 70, 2) := by decide +kernel
theorem d_D_isTemporal_9 : decode prog_1_method_24_code 9 = .ok (.if_icmp .eq 21, 3) := by decide +kernel
theorem d_D_isTemporal_12 : decode prog_1_method_24_code 12 = .ok (.iload_n 0, 1) := by decide +kernel
theorem d_D_isTemporal_13 : decode prog_1_method_24_code 13 = .ok (.bipush 71, 2) := by decide +kernel
theorem d_D_isTemporal_15 : decode prog_1_method_24_code 15 = .ok (.if_icmp .eq 15, 3) := by decide +kernel
theorem d_D_isTemporal_18 : decode prog_1_method_24_code 18 = .ok (.iload_n 0, 1) := by decide +kernel
theorem d_D_isTemporal_19 : decode prog_1_method_24_code 19 = .ok (.bipush 85, 2) := by decide +kernel
theorem d_D_isTemporal_21 : decode prog_1_method_24_code 21 = .ok (.if_icmp .eq 9, 3) := by decide +kernel
theorem d_D_isTemporal_24 : decode prog_1_method_24_code 24 = .ok (.iload_n 0, 1) := by decide +kernel
theorem d_D_isTemporal_25 : decode prog_1_method_24_code 25 = .ok (.bipush 82, 2) := by decide +kernel
theorem d_D_isTemporal_27 : decode prog_1_method_24_code 27 = .ok (.if_icmp .ne 7, 3) := by decide +kernel
theorem d_D_isTemporal_30 : decode prog_1_method_24_code 30 = .ok (.iconst 1, 1) := by decide +kernel
theorem d_D_isTemporal_31 : decode prog_1_method_24_code 31 = .ok (.goto 4, 3) := by decide +kernel
theorem d_D_isTemporal_34 : decode prog_1_method_24_code 34 = .ok (.iconst 0, 1) := by decide +kernel
theorem d_D_isTemporal_35 : decode prog_1_method_24_code 35 = .ok (.ireturn, 1) := by decide +kernel
theorem d_Mo_thrown_0 : decode prog_8_method_2_code 0 = .ok (.aload_n 0, 1) := by decide +kernel
theorem d_Mo_thrown_1 : decode prog_8_method_2_code 1 = .ok (.getfield 93, 3) := by decide +kernel
theorem d_Mo_thrown_4 : decode prog_8_method_2_code 4 = .ok (.ireturn, 1) := by decide +kernel
theorem d_Mo_type_0 : decode prog_8_method_3_code 0 = .ok (.iconst 0, 1) := by decide +kernel
theorem d_Mo_type_1 : decode prog_8_method_3_code 1 = .ok (.istore_n 2, 1) := by decide +kernel
theorem d_Mo_type_2 : decode prog_8_method_3_code 2 = .ok (.iconst 1, 1) := by decide +kernel
theorem d_Mo_type_3 : decode prog_8_method_3_code 3 = .ok (.istore_n 3, 1) := by decide +kernel
theorem d_Mo_type_4 : decode prog_8_method_3_code 4 = .ok (.iconst 0, 1) := by decide +kernel
theorem d_Mo_type_5 : decode prog_8_method_3_code 5 = .ok (.istore 4, 2) := by decide +kernel
theorem d_Mo_type_7 : decode prog_8_method_3_code 7 = .ok (.iconst 0, 1) := by decide +kernel
theorem d_Mo_type_8 : decode prog_8_method_3_code 8 = .ok (.istore 5, 2) := by decide +kernel
theorem d_Mo_type_10 : decode prog_8_method_3_code 10 = .ok (.iload 5, 2) := by decide +kernel
theorem d_Mo_type_12 : decode prog_8_method_3_code 12 = .ok (.iconst 4, 1) := by decide +kernel
theorem d_Mo_type_13 : decode prog_8_method_3_code 13 = .ok (.if_icmp .ge 79, 3) := by decide +kernel
theorem d_Mo_type_16 : decode prog_8_method_3_code 16 = .ok (.iload_n 1, 1) := by decide +kernel
theorem d_Mo_type_17 : decode prog_8_method_3_code 17 = .ok (.bipush 8, 2) := by decide +kernel
theorem d_Mo_type_19 : decode prog_8_method_3_code 19 = .ok (.iload 5, 2) := by decide +kernel
theorem d_Mo_type_21 : decode prog_8_method_3_code 21 = .ok (.imul, 1) := by decide +kernel
theorem d_Mo_type_22 : decode prog_8_method_3_code 22 = .ok (.ishr, 1) := by decide +kernel
theorem d_Mo_type_23 : decode prog_8_method_3_code 23 = .ok (.sipush 255, 3) := by decide +kernel
theorem d_Mo_type_26 : decode prog_8_method_3_code 26 = .ok (.iand, 1) := by decide +kernel
theorem d_Mo_type_27 : decode prog_8_method_3_code 27 = .ok (.istore 6, 2) := by decide +kernel
theorem d_Mo_type_29 : decode prog_8_method_3_code 29 = .ok (.iload_n 3, 1) := by decide +kernel
theorem d_Mo_type_30 : decode prog_8_method_3_code 30 = .ok (.ifCond .eq 12, 3) := by decide +kernel
theorem d_Mo_type_33 : decode prog_8_method_3_code 33 = .ok (.iload 6, 2) := by decide +kernel
theorem d_Mo_type_35 : decode prog_8_method_3_code 35 = .ok (.ifCond .eq 7, 3) := by decide +kernel
theorem d_Mo_type_38 : decode prog_8_method_3_code 38 = .ok (.iconst 1, 1) := by decide +kernel
theorem d_Mo_type_39 : decode prog_8_method_3_code 39 = .ok (.goto 4, 3) := by decide +kernel
theorem d_Mo_type_42 : decode prog_8_method_3_code 42 = .ok (.iconst 0, 1) := by decide +kernel
theorem d_Mo_type_43 : decode prog_8_method_3_code 43 = .ok (.istore_n 3, 1) := by decide +kernel
theorem d_Mo_type_44 : decode prog_8_method_3_code 44 = .ok (.iload 4, 2) := by decide +kernel
theorem d_Mo_type_46 : decode prog_8_method_3_code 46 = .ok (.ifCond .ne 21, 3) := by decide +kernel
theorem d_Mo_type_49 : decode prog_8_method_3_code 49 = .ok (.iload_n 3, 1) := by decide +kernel
theorem d_Mo_type_50 : decode prog_8_method_3_code 50 = .ok (.ifCond .eq 21, 3) := by decide +kernel
theorem d_Mo_type_53 : decode prog_8_method_3_code 53 = .ok (.iload 6, 2) := by decide +kernel
theorem d_Mo_type_55 : decode prog_8_method_3_code 55 = .ok (.bipush 33, 2) := by decide +kernel
theorem d_Mo_type_57 : decode prog_8_method_3_code 57 = .ok (.if_icmp .lt 10, 3) := by decide +kernel
theorem d_Mo_type_60 : decode prog_8_method_3_code 60 = .ok (.iload 6, 2) := by decide +kernel
theorem d_Mo_type_62 : decode prog_8_method_3_code 62 = .ok (.bipush 126, 2) := by decide +kernel
theorem d_Mo_type_64 : decode prog_8_method_3_code 64 = .ok (.if_icmp .le 7, 3) := by decide +kernel
theorem d_Mo_type_67 : decode prog_8_method_3_code 67 = .ok (.iconst 1, 1) := by decide +kernel
theorem d_Mo_type_68 : decode prog_8_method_3_code 68 = .ok (.goto 4, 3) := by decide +kernel
theorem d_Mo_type_71 : decode prog_8_method_3_code 71 = .ok (.iconst 0, 1) := by decide +kernel
theorem d_Mo_type_72 : decode prog_8_method_3_code 72 = .ok (.istore 4, 2) := by decide +kernel
theorem d_Mo_type_74 : decode prog_8_method_3_code 74 = .ok (.iload_n 3, 1) := by decide +kernel
theorem d_Mo_type_75 : decode prog_8_method_3_code 75 = .ok (.ifCond .eq 9, 3) := by decide +kernel
theorem d_Mo_type_78 : decode prog_8_method_3_code 78 = .ok (.iload_n 2, 1) := by decide +kernel
theorem d_Mo_type_79 : decode prog_8_method_3_code 79 = .ok (.iconst 1, 1) := by decide +kernel
theorem d_Mo_type_80 : decode prog_8_method_3_code 80 = .ok (.iadd, 1) := by decide +kernel
theorem d_Mo_type_81 : decode prog_8_method_3_code 81 = .ok (.goto 4, 3) := by decide +kernel
theorem d_Mo_type_84 : decode prog_8_method_3_code 84 = .ok (.iload_n 2, 1) := by decide +kernel
theorem d_Mo_type_85 : decode prog_8_method_3_code 85 = .ok (.istore_n 2, 1) := by decide +kernel
theorem d_Mo_type_86 : decode prog_8_method_3_code 86 = .ok (.iinc 5 1, 3) := by decide +kernel
theorem d_Mo_type_89 : decode prog_8_method_3_code 89 = .ok (.goto (-79), 3) := by decide +kernel
theorem d_Mo_type_92 : decode prog_8_method_3_code 92 = .ok (.aload_n 0, 1) := by decide +kernel
theorem d_Mo_type_93 : decode prog_8_method_3_code 93 = .ok (.iload 4, 2) := by decide +kernel
theorem d_Mo_type_95 : decode prog_8_method_3_code 95 = .ok (.ifCond .eq 7, 3) := by decide +kernel
theorem d_Mo_type_98 : decode prog_8_method_3_code 98 = .ok (.iconst 1, 1) := by decide +kernel
theorem d_Mo_type_99 : decode prog_8_method_3_code 99 = .ok (.goto 4, 3) := by decide +kernel
theorem d_Mo_type_102 : decode prog_8_method_3_code 102 = .ok (.iconst 0, 1) := by decide +kernel
theorem d_Mo_type_103 : decode prog_8_method_3_code 103 = .ok (.putfield 93, 3) := by decide +kernel
theorem d_Mo_type_106 : decode prog_8_method_3_code 106 = .ok (.iload 4, 2) := by decide +kernel
theorem d_Mo_type_108 : decode prog_8_method_3_code 108 = .ok (.ifCond .ne 14, 3) := by decide +kernel
theorem d_Mo_type_111 : decode prog_8_method_3_code 111 = .ok (.aload_n 0, 1) := by decide +kernel
theorem d_Mo_type_112 : decode prog_8_method_3_code 112 = .ok (.getfield 96, 3) := by decide +kernel
theorem d_Mo_type_115 : decode prog_8_method_3_code 115 = .ok (.iload_n 2, 1) := by decide +kernel
end
section
theorem d_Mo_type_116 : decode prog_8_method_3_code 116 = .ok (.iadd, 1) := by decide +kernel
theorem d_Mo_type_117 : decode prog_8_method_3_code 117 = .ok (.bipush 18, 2) := by decide +kernel
theorem d_Mo_type_119 : decode prog_8_method_3_code 119 = .ok (.if_icmp .le 5, 3) := by decide +kernel
theorem d_Mo_type_122 : decode prog_8_method_3_code 122 = .ok (.iconst 0, 1) := by decide +kernel
theorem d_Mo_type_123 : decode prog_8_method_3_code 123 = .ok (.ireturn, 1) := by decide +kernel
theorem d_Mo_type_124 : decode prog_8_method_3_code 124 = .ok (.iconst 0, 1) := by decide +kernel
theorem d_Mo_type_125 : decode prog_8_method_3_code 125 = .ok (.istore 5, 2) := by decide +kernel
theorem d_Mo_type_127 : decode prog_8_method_3_code 127 = .ok (.iload 5, 2) := by decide +kernel
theorem d_Mo_type_129 : decode prog_8_method_3_code 129 = .ok (.iload_n 2, 1) := by decide +kernel
theorem d_Mo_type_130 : decode prog_8_method_3_code 130 = .ok (.if_icmp .ge 39, 3) := by decide +kernel
theorem d_Mo_type_133 : decode prog_8_method_3_code 133 = .ok (.aload_n 0, 1) := by decide +kernel
theorem d_Mo_type_134 : decode prog_8_method_3_code 134 = .ok (.getfield 7, 3) := by decide +kernel
theorem d_Mo_type_137 : decode prog_8_method_3_code 137 = .ok (.aload_n 0, 1) := by decide +kernel
theorem d_Mo_type_138 : decode prog_8_method_3_code 138 = .ok (.getfield 96, 3) := by decide +kernel
theorem d_Mo_type_141 : decode prog_8_method_3_code 141 = .ok (.iload_n 1, 1) := by decide +kernel
theorem d_Mo_type_142 : decode prog_8_method_3_code 142 = .ok (.bipush 8, 2) := by decide +kernel
theorem d_Mo_type_144 : decode prog_8_method_3_code 144 = .ok (.iload 5, 2) := by decide +kernel
theorem d_Mo_type_146 : decode prog_8_method_3_code 146 = .ok (.imul, 1) := by decide +kernel
theorem d_Mo_type_147 : decode prog_8_method_3_code 147 = .ok (.ishr, 1) := by decide +kernel
theorem d_Mo_type_148 : decode prog_8_method_3_code 148 = .ok (.sipush 255, 3) := by decide +kernel
theorem d_Mo_type_151 : decode prog_8_method_3_code 151 = .ok (.iand, 1) := by decide +kernel
theorem d_Mo_type_152 : decode prog_8_method_3_code 152 = .ok (.iastore, 1) := by decide +kernel
theorem d_Mo_type_153 : decode prog_8_method_3_code 153 = .ok (.aload_n 0, 1) := by decide +kernel
theorem d_Mo_type_154 : decode prog_8_method_3_code 154 = .ok (.dup, 1) := by decide +kernel
theorem d_Mo_type_155 : decode prog_8_method_3_code 155 = .ok (.getfield 96, 3) := by decide +kernel
theorem d_Mo_type_158 : decode prog_8_method_3_code 158 = .ok (.iconst 1, 1) := by decide +kernel
theorem d_Mo_type_159 : decode prog_8_method_3_code 159 = .ok (.iadd, 1) := by decide +kernel
theorem d_Mo_type_160 : decode prog_8_method_3_code 160 = .ok (.putfield 96, 3) := by decide +kernel
theorem d_Mo_type_163 : decode prog_8_method_3_code 163 = .ok (.iinc 5 1, 3) := by decide +kernel
theorem d_Mo_type_166 : decode prog_8_method_3_code 166 = .ok (.goto (-39), 3) := by decide +kernel
theorem d_Mo_type_169 : decode prog_8_method_3_code 169 = .ok (.iconst 1, 1) := by decide +kernel
theorem d_Mo_type_170 : decode prog_8_method_3_code 170 = .ok (.ireturn, 1) := by decide +kernel
theorem d_Mo_tightness_0 : decode prog_8_method_4_code 0 = .ok (.iload_n 0, 1) := by decide +kernel
theorem d_Mo_tightness_1 : decode prog_8_method_4_code 1 = .ok (.bipush 9, 2) := by decide +kernel
theorem d_Mo_tightness_3 : decode prog_8_method_4_code 3 = .ok (.if_icmp .ge 7, 3) := by decide +kernel
theorem d_Mo_tightness_6 : decode prog_8_method_4_code 6 = .ok (.iconst 5, 1) := by decide +kernel
theorem d_Mo_tightness_7 : decode prog_8_method_4_code 7 = .ok (.goto 44, 3) := by decide +kernel
theorem d_Mo_tightness_10 : decode prog_8_method_4_code 10 = .ok (.iload_n 0, 1) := by decide +kernel
theorem d_Mo_tightness_11 : decode prog_8_method_4_code 11 = .ok (.bipush 11, 2) := by decide +kernel
theorem d_Mo_tightness_13 : decode prog_8_method_4_code 13 = .ok (.if_icmp .ge 7, 3) := by decide +kernel
theorem d_Mo_tightness_16 : decode prog_8_method_4_code 16 = .ok (.iconst 4, 1) := by decide +kernel
theorem d_Mo_tightness_17 : decode prog_8_method_4_code 17 = .ok (.goto 34, 3) := by decide +kernel
theorem d_Mo_tightness_20 : decode prog_8_method_4_code 20 = .ok (.iload_n 0, 1) := by decide +kernel
theorem d_Mo_tightness_21 : decode prog_8_method_4_code 21 = .ok (.bipush 11, 2) := by decide +kernel
theorem d_Mo_tightness_23 : decode prog_8_method_4_code 23 = .ok (.if_icmp .ne 7, 3) := by decide +kernel
theorem d_Mo_tightness_26 : decode prog_8_method_4_code 26 = .ok (.iconst 3, 1) := by decide +kernel
theorem d_Mo_tightness_27 : decode prog_8_method_4_code 27 = .ok (.goto 24, 3) := by decide +kernel
theorem d_Mo_tightness_30 : decode prog_8_method_4_code 30 = .ok (.iload_n 0, 1) := by decide +kernel
theorem d_Mo_tightness_31 : decode prog_8_method_4_code 31 = .ok (.bipush 12, 2) := by decide +kernel
theorem d_Mo_tightness_33 : decode prog_8_method_4_code 33 = .ok (.if_icmp .ne 7, 3) := by decide +kernel
theorem d_Mo_tightness_36 : decode prog_8_method_4_code 36 = .ok (.iconst 2, 1) := by decide +kernel
theorem d_Mo_tightness_37 : decode prog_8_method_4_code 37 = .ok (.goto 14, 3) := by decide +kernel
theorem d_Mo_tightness_40 : decode prog_8_method_4_code 40 = .ok (.iload_n 0, 1) := by decide +kernel
theorem d_Mo_tightness_41 : decode prog_8_method_4_code 41 = .ok (.bipush 13, 2) := by decide +kernel
theorem d_Mo_tightness_43 : decode prog_8_method_4_code 43 = .ok (.if_icmp .ne 7, 3) := by decide +kernel
theorem d_Mo_tightness_46 : decode prog_8_method_4_code 46 = .ok (.iconst 1, 1) := by decide +kernel
theorem d_Mo_tightness_47 : decode prog_8_method_4_code 47 = .ok (.goto 4, 3) := by decide +kernel
theorem d_Mo_tightness_50 : decode prog_8_method_4_code 50 = .ok (.iconst 0, 1) := by decide +kernel
theorem d_Mo_tightness_51 : decode prog_8_method_4_code 51 = .ok (.ireturn, 1) := by decide +kernel
theorem d_Mo_isTemporal_0 : decode prog_8_method_5_code 0 = .ok (.iload_n 0, 1) := by decide +kernel
theorem d_Mo_isTemporal_1 : decode prog_8_method_5_code 1 = .ok (.bipush 6, 2) := by decide +kernel
theorem d_Mo_isTemporal_3 : decode prog_8_method_5_code 3 = .ok (.if_icmp .lt 13, 3) := by decide +kernel
theorem d_Mo_isTemporal_6 : decode prog_8_method_5_code 6 = .ok (.iload_n 0, 1) := by decide +kernel
theorem d_Mo_isTemporal_7 : decode prog_8_method_5_code 7 = .ok (.bipush 10, 2) := by decide +kernel
theorem d_Mo_isTemporal_9 : decode prog_8_method_5_code 9 = .ok (.if_icmp .gt 7, 3) := by decide +kernel
theorem d_Mo_isTemporal_12 : decode prog_8_method_5_code 12 = .ok (.iconst 1, 1) := by decide +kernel
theorem d_Mo_isTemporal_13 : decode prog_8_method_5_code 13 = .ok (.goto 4, 3) := by decide +kernel
theorem d_Mo_isTemporal_16 : decode prog_8_method_5_code 16 = .ok (.iconst 0, 1) := by decide +kernel
theorem d_Mo_isTemporal_17 : decode prog_8_method_5_code 17 = .ok (.ireturn, 1) := by decide +kernel
theorem d_Mo_part_0 : decode prog_8_method_6_code 0 = .ok (.aload_n 0, 1) := by decide +kernel
theorem d_Mo_part_1 : decode prog_8_method_6_code 1 = .ok (.getfield 31, 3) := by decide +kernel
theorem d_Mo_part_4 : decode prog_8_method_6_code 4 = .ok (.aload_n 0, 1) := by decide +kernel
theorem d_Mo_part_5 : decode prog_8_method_6_code 5 = .ok (.getfield 99, 3) := by decide +kernel
theorem d_Mo_part_8 : decode prog_8_method_6_code 8 = .ok (.iload_n 1, 1) := by decide +kernel
theorem d_Mo_part_9 : decode prog_8_method_6_code 9 = .ok (.iastore, 1) := by decide +kernel
theorem d_Mo_part_10 : decode prog_8_method_6_code 10 = .ok (.aload_n 0, 1) := by decide +kernel
theorem d_Mo_part_11 : decode prog_8_method_6_code 11 = .ok (.getfield 40, 3) := by decide +kernel
theorem d_Mo_part_14 : decode prog_8_method_6_code 14 = .ok (.aload_n 0, 1) := by decide +kernel
theorem d_Mo_part_15 : decode prog_8_method_6_code 15 = .ok (.getfield 99, 3) := by decide +kernel
theorem d_Mo_part_18 : decode prog_8_method_6_code 18 = .ok (.iload_n 2, 1) := by decide +kernel
theorem d_Mo_part_19 : decode prog_8_method_6_code 19 = .ok (.iastore, 1) := by decide +kernel
theorem d_Mo_part_20 : decode prog_8_method_6_code 20 = .ok (.aload_n 0, 1) := by decide +kernel
theorem d_Mo_part_21 : decode prog_8_method_6_code 21 = .ok (.getfield 34, 3) := by decide +kernel
theorem d_Mo_part_24 : decode prog_8_method_6_code 24 = .ok (.aload_n 0, 1) := by decide +kernel
theorem d_Mo_part_25 : decode prog_8_method_6_code 25 = .ok (.getfield 99, 3) := by decide +kernel
theorem d_Mo_part_28 : decode prog_8_method_6_code 28 = .ok (.iload_n 3, 1) := by decide +kernel
theorem d_Mo_part_29 : decode prog_8_method_6_code 29 = .ok (.iastore, 1) := by decide +kernel
theorem d_Mo_part_30 : decode prog_8_method_6_code 30 = .ok (.aload_n 0, 1) := by decide +kernel
theorem d_Mo_part_31 : decode prog_8_method_6_code 31 = .ok (.getfield 37, 3) := by decide +kernel
theorem d_Mo_part_34 : decode prog_8_method_6_code 34 = .ok (.aload_n 0, 1) := by decide +kernel
theorem d_Mo_part_35 : decode prog_8_method_6_code 35 = .ok (.getfield 99, 3) := by decide +kernel
theorem d_Mo_part_38 : decode prog_8_method_6_code 38 = .ok (.iload 4, 2) := by decide +kernel
theorem d_Mo_part_40 : decode prog_8_method_6_code 40 = .ok (.iastore, 1) := by decide +kernel
theorem d_Mo_part_41 : decode prog_8_method_6_code 41 = .ok (.aload_n 0, 1) := by decide +kernel
theorem d_Mo_part_42 : decode prog_8_method_6_code 42 = .ok (.getfield 43, 3) := by decide +kernel
theorem d_Mo_part_45 : decode prog_8_method_6_code 45 = .ok (.aload_n 0, 1) := by decide +kernel
theorem d_Mo_part_46 : decode prog_8_method_6_code 46 = .ok (.getfield 102, 3) := by decide +kernel
theorem d_Mo_part_49 : decode prog_8_method_6_code 49 = .ok (.aload_n 0, 1) := by decide +kernel
theorem d_Mo_part_50 : decode prog_8_method_6_code 50 = .ok (.getfield 99, 3) := by decide +kernel
theorem d_Mo_part_53 : decode prog_8_method_6_code 53 = .ok (.iastore, 1) := by decide +kernel
theorem d_Mo_part_54 : decode prog_8_method_6_code 54 = .ok (.aload_n 0, 1) := by decide +kernel
theorem d_Mo_part_55 : decode prog_8_method_6_code 55 = .ok (.dup, 1) := by decide +kernel
theorem d_Mo_part_56 : decode prog_8_method_6_code 56 = .ok (.getfield 102, 3) := by decide +kernel
theorem d_Mo_part_59 : decode prog_8_method_6_code 59 = .ok (.iconst 1, 1) := by decide +kernel
theorem d_Mo_part_60 : decode prog_8_method_6_code 60 = .ok (.iadd, 1) := by decide +kernel
theorem d_Mo_part_61 : decode prog_8_method_6_code 61 = .ok (.putfield 102, 3) := by decide +kernel
theorem d_Mo_part_64 : decode prog_8_method_6_code 64 = .ok (.aload_n 0, 1) := by decide +kernel
theorem d_Mo_part_65 : decode prog_8_method_6_code 65 = .ok (.dup, 1) := by decide +kernel
theorem d_Mo_part_66 : decode prog_8_method_6_code 66 = .ok (.getfield 99, 3) := by decide +kernel
theorem d_Mo_part_69 : decode prog_8_method_6_code 69 = .ok (.iconst 1, 1) := by decide +kernel
theorem d_Mo_part_70 : decode prog_8_method_6_code 70 = .ok (.iadd, 1) := by decide +kernel
theorem d_Mo_part_71 : decode prog_8_method_6_code 71 = .ok (.putfield 99, 3) := by decide +kernel
theorem d_Mo_part_74 : decode prog_8_method_6_code 74 = .ok (.return_, 1) := by decide +kernel
theorem d_Mo_taken_0 : decode prog_8_method_7_code 0 = .ok (.aload_n 0, 1) := by decide +kernel
theorem d_Mo_taken_1 : decode prog_8_method_7_code 1 = .ok (.dup, 1) := by decide +kernel
theorem d_Mo_taken_2 : decode prog_8_method_7_code 2 = .ok (.getfield 102, 3) := by decide +kernel
theorem d_Mo_taken_5 : decode prog_8_method_7_code 5 = .ok (.iconst 1, 1) := by decide +kernel
theorem d_Mo_taken_6 : decode prog_8_method_7_code 6 = .ok (.isub, 1) := by decide +kernel
theorem d_Mo_taken_7 : decode prog_8_method_7_code 7 = .ok (.putfield 102, 3) := by decide +kernel
theorem d_Mo_taken_10 : decode prog_8_method_7_code 10 = .ok (.aload_n 0, 1) := by decide +kernel
theorem d_Mo_taken_11 : decode prog_8_method_7_code 11 = .ok (.getfield 43, 3) := by decide +kernel
theorem d_Mo_taken_14 : decode prog_8_method_7_code 14 = .ok (.aload_n 0, 1) := by decide +kernel
theorem d_Mo_taken_15 : decode prog_8_method_7_code 15 = .ok (.getfield 102, 3) := by decide +kernel
theorem d_Mo_taken_18 : decode prog_8_method_7_code 18 = .ok (.iaload, 1) := by decide +kernel
theorem d_Mo_taken_19 : decode prog_8_method_7_code 19 = .ok (.ireturn, 1) := by decide +kernel
theorem d_Mo_settle_0 : decode prog_8_method_8_code 0 = .ok (.aload_n 0, 1) := by decide +kernel
theorem d_Mo_settle_1 : decode prog_8_method_8_code 1 = .ok (.getfield 105, 3) := by decide +kernel
theorem d_Mo_settle_4 : decode prog_8_method_8_code 4 = .ok (.ifCond .le 90, 3) := by decide +kernel
theorem d_Mo_settle_7 : decode prog_8_method_8_code 7 = .ok (.aload_n 0, 1) := by decide +kernel
theorem d_Mo_settle_8 : decode prog_8_method_8_code 8 = .ok (.getfield 46, 3) := by decide +kernel
theorem d_Mo_settle_11 : decode prog_8_method_8_code 11 = .ok (.aload_n 0, 1) := by decide +kernel
theorem d_Mo_settle_12 : decode prog_8_method_8_code 12 = .ok (.getfield 105, 3) := by decide +kernel
theorem d_Mo_settle_15 : decode prog_8_method_8_code 15 = .ok (.iconst 1, 1) := by decide +kernel
theorem d_Mo_settle_16 : decode prog_8_method_8_code 16 = .ok (.isub, 1) := by decide +kernel
theorem d_Mo_settle_17 : decode prog_8_method_8_code 17 = .ok (.iaload, 1) := by decide +kernel
theorem d_Mo_settle_18 : decode prog_8_method_8_code 18 = .ok (.bipush 15, 2) := by decide +kernel
theorem d_Mo_settle_20 : decode prog_8_method_8_code 20 = .ok (.iand, 1) := by decide +kernel
theorem d_Mo_settle_21 : decode prog_8_method_8_code 21 = .ok (.invokestatic 108, 3) := by decide +kernel
theorem d_Mo_settle_24 : decode prog_8_method_8_code 24 = .ok (.iload_n 1, 1) := by decide +kernel
theorem d_Mo_settle_25 : decode prog_8_method_8_code 25 = .ok (.if_icmp .lt 69, 3) := by decide +kernel
theorem d_Mo_settle_28 : decode prog_8_method_8_code 28 = .ok (.aload_n 0, 1) := by decide +kernel
theorem d_Mo_settle_29 : decode prog_8_method_8_code 29 = .ok (.dup, 1) := by decide +kernel
theorem d_Mo_settle_30 : decode prog_8_method_8_code 30 = .ok (.getfield 105, 3) := by decide +kernel
theorem d_Mo_settle_33 : decode prog_8_method_8_code 33 = .ok (.iconst 1, 1) := by decide +kernel
theorem d_Mo_settle_34 : decode prog_8_method_8_code 34 = .ok (.isub, 1) := by decide +kernel
theorem d_Mo_settle_35 : decode prog_8_method_8_code 35 = .ok (.putfield 105, 3) := by decide +kernel
theorem d_Mo_settle_38 : decode prog_8_method_8_code 38 = .ok (.aload_n 0, 1) := by decide +kernel
theorem d_Mo_settle_39 : decode prog_8_method_8_code 39 = .ok (.getfield 46, 3) := by decide +kernel
theorem d_Mo_settle_42 : decode prog_8_method_8_code 42 = .ok (.aload_n 0, 1) := by decide +kernel
theorem d_Mo_settle_43 : decode prog_8_method_8_code 43 = .ok (.getfield 105, 3) := by decide +kernel
theorem d_Mo_settle_46 : decode prog_8_method_8_code 46 = .ok (.iaload, 1) := by decide +kernel
theorem d_Mo_settle_47 : decode prog_8_method_8_code 47 = .ok (.bipush 15, 2) := by decide +kernel
theorem d_Mo_settle_49 : decode prog_8_method_8_code 49 = .ok (.iand, 1) := by decide +kernel
theorem d_Mo_settle_50 : decode prog_8_method_8_code 50 = .ok (.istore_n 2, 1) := by decide +kernel
theorem d_Mo_settle_51 : decode prog_8_method_8_code 51 = .ok (.aload_n 0, 1) := by decide +kernel
theorem d_Mo_settle_52 : decode prog_8_method_8_code 52 = .ok (.invokevirtual 112, 3) := by decide +kernel
theorem d_Mo_settle_55 : decode prog_8_method_8_code 55 = .ok (.istore_n 3, 1) := by decide +kernel
theorem d_Mo_settle_56 : decode prog_8_method_8_code 56 = .ok (.iload_n 2, 1) := by decide +kernel
theorem d_Mo_settle_57 : decode prog_8_method_8_code 57 = .ok (.bipush 9, 2) := by decide +kernel
theorem d_Mo_settle_59 : decode prog_8_method_8_code 59 = .ok (.if_icmp .ge 7, 3) := by decide +kernel
theorem d_Mo_settle_62 : decode prog_8_method_8_code 62 = .ok (.iload_n 3, 1) := by decide +kernel
theorem d_Mo_settle_63 : decode prog_8_method_8_code 63 = .ok (.goto 7, 3) := by decide +kernel
theorem d_Mo_settle_66 : decode prog_8_method_8_code 66 = .ok (.aload_n 0, 1) := by decide +kernel
theorem d_Mo_settle_67 : decode prog_8_method_8_code 67 = .ok (.invokevirtual 112, 3) := by decide +kernel
theorem d_Mo_settle_70 : decode prog_8_method_8_code 70 = .ok (.istore 4, 2) := by decide +kernel
theorem d_Mo_settle_72 : decode prog_8_method_8_code 72 = .ok (.aload_n 0, 1) := by decide +kernel
theorem d_Mo_settle_73 : decode prog_8_method_8_code 73 = .ok (.iload_n 2, 1) := by decide +kernel
theorem d_Mo_settle_74 : decode prog_8_method_8_code 74 = .ok (.aload_n 0, 1) := by decide +kernel
theorem d_Mo_settle_75 : decode prog_8_method_8_code 75 = .ok (.getfield 46, 3) := by decide +kernel
theorem d_Mo_settle_78 : decode prog_8_method_8_code 78 = .ok (.aload_n 0, 1) := by decide +kernel
theorem d_Mo_settle_79 : decode prog_8_method_8_code 79 = .ok (.getfield 105, 3) := by decide +kernel
theorem d_Mo_settle_82 : decode prog_8_method_8_code 82 = .ok (.iaload, 1) := by decide +kernel
theorem d_Mo_settle_83 : decode prog_8_method_8_code 83 = .ok (.iconst 4, 1) := by decide +kernel
theorem d_Mo_settle_84 : decode prog_8_method_8_code 84 = .ok (.ishr, 1) := by decide +kernel
theorem d_Mo_settle_85 : decode prog_8_method_8_code 85 = .ok (.iload 4, 2) := by decide +kernel
theorem d_Mo_settle_87 : decode prog_8_method_8_code 87 = .ok (.iload_n 3, 1) := by decide +kernel
theorem d_Mo_settle_88 : decode prog_8_method_8_code 88 = .ok (.invokevirtual 116, 3) := by decide +kernel
theorem d_Mo_settle_91 : decode prog_8_method_8_code 91 = .ok (.goto (-91), 3) := by decide +kernel
theorem d_Mo_settle_94 : decode prog_8_method_8_code 94 = .ok (.return_, 1) := by decide +kernel
theorem d_Mo_push_0 : decode prog_8_method_9_code 0 = .ok (.aload_n 0, 1) := by decide +kernel
theorem d_Mo_push_1 : decode prog_8_method_9_code 1 = .ok (.getfield 46, 3) := by decide +kernel
theorem d_Mo_push_4 : decode prog_8_method_9_code 4 = .ok (.aload_n 0, 1) := by decide +kernel
theorem d_Mo_push_5 : decode prog_8_method_9_code 5 = .ok (.getfield 105, 3) := by decide +kernel
theorem d_Mo_push_8 : decode prog_8_method_9_code 8 = .ok (.iload_n 1, 1) := by decide +kernel
theorem d_Mo_push_9 : decode prog_8_method_9_code 9 = .ok (.bipush 16, 2) := by decide +kernel
theorem d_Mo_push_11 : decode prog_8_method_9_code 11 = .ok (.aload_n 0, 1) := by decide +kernel
theorem d_Mo_push_12 : decode prog_8_method_9_code 12 = .ok (.getfield 120, 3) := by decide +kernel
theorem d_Mo_push_15 : decode prog_8_method_9_code 15 = .ok (.imul, 1) := by decide +kernel
theorem d_Mo_push_16 : decode prog_8_method_9_code 16 = .ok (.iadd, 1) := by decide +kernel
theorem d_Mo_push_17 : decode prog_8_method_9_code 17 = .ok (.iastore, 1) := by decide +kernel
theorem d_Mo_push_18 : decode prog_8_method_9_code 18 = .ok (.aload_n 0, 1) := by decide +kernel
theorem d_Mo_push_19 : decode prog_8_method_9_code 19 = .ok (.dup, 1) := by decide +kernel
theorem d_Mo_push_20 : decode prog_8_method_9_code 20 = .ok (.getfield 105, 3) := by decide +kernel
theorem d_Mo_push_23 : decode prog_8_method_9_code 23 = .ok (.iconst 1, 1) := by decide +kernel
theorem d_Mo_push_24 : decode prog_8_method_9_code 24 = .ok (.iadd, 1) := by decide +kernel
theorem d_Mo_push_25 : decode prog_8_method_9_code 25 = .ok (.putfield 105, 3) := by decide +kernel
theorem d_Mo_push_28 : decode prog_8_method_9_code 28 = .ok (.aload_n 0, 1) := by decide +kernel
theorem d_Mo_push_29 : decode prog_8_method_9_code 29 = .ok (.iload_n 1, 1) := by decide +kernel
theorem d_Mo_push_30 : decode prog_8_method_9_code 30 = .ok (.invokestatic 123, 3) := by decide +kernel
theorem d_Mo_push_33 : decode prog_8_method_9_code 33 = .ok (.ifCond .eq 12, 3) := by decide +kernel
theorem d_Mo_push_36 : decode prog_8_method_9_code 36 = .ok (.aload_n 0, 1) := by decide +kernel
theorem d_Mo_push_37 : decode prog_8_method_9_code 37 = .ok (.getfield 120, 3) := by decide +kernel
theorem d_Mo_push_40 : decode prog_8_method_9_code 40 = .ok (.iconst 1, 1) := by decide +kernel
theorem d_Mo_push_41 : decode prog_8_method_9_code 41 = .ok (.iadd, 1) := by decide +kernel
theorem d_Mo_push_42 : decode prog_8_method_9_code 42 = .ok (.goto 7, 3) := by decide +kernel
theorem d_Mo_push_45 : decode prog_8_method_9_code 45 = .ok (.aload_n 0, 1) := by decide +kernel
theorem d_Mo_push_46 : decode prog_8_method_9_code 46 = .ok (.getfield 120, 3) := by decide +kernel
theorem d_Mo_push_49 : decode prog_8_method_9_code 49 = .ok (.putfield 120, 3) := by decide +kernel
theorem d_Mo_push_52 : decode prog_8_method_9_code 52 = .ok (.return_, 1) := by decide +kernel
theorem d_Mo_leafOf_0 : decode prog_8_method_10_code 0 = .ok (.iload_n 0, 1) := by decide +kernel
theorem d_Mo_leafOf_1 : decode prog_8_method_10_code 1 = .ok (.bipush 48, 2) := by decide +kernel
theorem d_Mo_leafOf_3 : decode prog_8_method_10_code 3 = .ok (.if_icmp .ne 7, 3) := by decide +kernel
theorem d_Mo_leafOf_6 : decode prog_8_method_10_code 6 = .ok (.iconst 0, 1) := by decide +kernel
theorem d_Mo_leafOf_7 : decode prog_8_method_10_code 7 = .ok (.goto 35, 3) := by decide +kernel
theorem d_Mo_leafOf_10 : decode prog_8_method_10_code 10 = .ok (.iload_n 0, 1) := by decide +kernel
theorem d_Mo_leafOf_11 : decode prog_8_method_10_code 11 = .ok (.bipush 49, 2) := by decide +kernel
theorem d_Mo_leafOf_13 : decode prog_8_method_10_code 13 = .ok (.if_icmp .ne 7, 3) := by decide +kernel
theorem d_Mo_leafOf_16 : decode prog_8_method_10_code 16 = .ok (.iconst 1, 1) := by decide +kernel
theorem d_Mo_leafOf_17 : decode prog_8_method_10_code 17 = .ok (.goto 25, 3) := by decide +kernel
theorem d_Mo_leafOf_20 : decode prog_8_method_10_code 20 = .ok (.iload_n 0, 1) := by decide +kernel
theorem d_Mo_leafOf_21 : decode prog_8_method_10_code 21 = .ok (.bipush 97, 2) := by decide +kernel
theorem d_Mo_leafOf_23 : decode prog_8_method_10_code 23 = .ok (.if_icmp .lt 18, 3) := by decide +kernel
theorem d_Mo_leafOf_26 : decode prog_8_method_10_code 26 = .ok (.iload_n 0, 1) := by decide +kernel
theorem d_Mo_leafOf_27 : decode prog_8_method_10_code 27 = .ok (.bipush 99, 2) := by decide +kernel
theorem d_Mo_leafOf_29 : decode prog_8_method_10_code 29 = .ok (.if_icmp .gt 12, 3) := by decide +kernel
theorem d_Mo_leafOf_32 : decode prog_8_method_10_code 32 = .ok (.iconst 2, 1) := by decide +kernel
theorem d_Mo_leafOf_33 : decode prog_8_method_10_code 33 = .ok (.iload_n 0, 1) := by decide +kernel
theorem d_Mo_leafOf_34 : decode prog_8_method_10_code 34 = .ok (.iadd, 1) := by decide +kernel
theorem d_Mo_leafOf_35 : decode prog_8_method_10_code 35 = .ok (.bipush 97, 2) := by decide +kernel
theorem d_Mo_leafOf_37 : decode prog_8_method_10_code 37 = .ok (.isub, 1) := by decide +kernel
theorem d_Mo_leafOf_38 : decode prog_8_method_10_code 38 = .ok (.goto 4, 3) := by decide +kernel
theorem d_Mo_leafOf_41 : decode prog_8_method_10_code 41 = .ok (.iconst (-1), 1) := by decide +kernel
theorem d_Mo_leafOf_42 : decode prog_8_method_10_code 42 = .ok (.ireturn, 1) := by decide +kernel
theorem d_Mo_prefixOf_0 : decode prog_8_method_11_code 0 = .ok (.iload_n 0, 1) := by decide +kernel
theorem d_Mo_prefixOf_1 : decode prog_8_method_11_code 1 = .ok (.bipush 33, 2) := by decide +kernel
theorem d_Mo_prefixOf_3 : decode prog_8_method_11_code 3 = .ok (.if_icmp .ne 7, 3) := by decide +kernel
theorem d_Mo_prefixOf_6 : decode prog_8_method_11_code 6 = .ok (.iconst 5, 1) := by decide +kernel
theorem d_Mo_prefixOf_7 : decode prog_8_method_11_code 7 = .ok (.goto 37, 3) := by decide +kernel
theorem d_Mo_prefixOf_10 : decode prog_8_method_11_code 10 = .ok (.iload_n 0, 1) := by decide +kernel
theorem d_Mo_prefixOf_11 : decode prog_8_method_11_code 11 = .ok (.bipush 88, 2) := by decide +kernel
theorem d_Mo_prefixOf_13 : decode prog_8_method_11_code 13 = .ok (.if_icmp .ne 8, 3) := by decide +kernel
theorem d_Mo_prefixOf_16 : decode prog_8_method_11_code 16 = .ok (.bipush 6, 2) := by decide +kernel
theorem d_Mo_prefixOf_18 : decode prog_8_method_11_code 18 = .ok (.goto 26, 3) := by decide +kernel
theorem d_Mo_prefixOf_21 : decode prog_8_method_11_code 21 = .ok (.iload_n 0, 1) := by decide +kernel
theorem d_Mo_prefixOf_22 : decode prog_8_method_11_code 22 = .ok (.bipush 70, 2) := by decide +kernel
theorem d_Mo_prefixOf_24 : decode prog_8_method_11_code 24 = .ok (.if_icmp .ne 8, 3) := by decide +kernel
theorem d_Mo_prefixOf_27 : decode prog_8_method_11_code 27 = .ok (.bipush 7, 2) := by decide +kernel
theorem d_Mo_prefixOf_29 : decode prog_8_method_11_code 29 = .ok (.goto 15, 3) := by decide +kernel
theorem d_Mo_prefixOf_32 : decode prog_8_method_11_code 32 = .ok (.iload_n 0, 1) := by decide +kernel
theorem d_Mo_prefixOf_33 : decode prog_8_method_11_code 33 = .ok (.bipush 71, 2) := by decide +kernel
theorem d_Mo_prefixOf_35 : decode prog_8_method_11_code 35 = .ok (.if_icmp .ne 8, 3) := by decide +kernel
theorem d_Mo_prefixOf_38 : decode prog_8_method_11_code 38 = .ok (.bipush 8, 2) := by decide +kernel
theorem d_Mo_prefixOf_40 : decode prog_8_method_11_code 40 = .ok (.goto 4, 3) := by decide +kernel
theorem d_Mo_prefixOf_43 : decode prog_8_method_11_code 43 = .ok (.iconst (-1), 1) := by decide +kernel
theorem d_Mo_prefixOf_44 : decode prog_8_method_11_code 44 = .ok (.ireturn, 1) := by decide +kernel
theorem d_Mo_signOf_0 : decode prog_8_method_12_code 0 = .ok (.iload_n 0, 1) := by decide +kernel
theorem d_Mo_signOf_1 : decode prog_8_method_12_code 1 = .ok (.bipush 85, 2) := by decide +kernel
theorem d_Mo_signOf_3 : decode prog_8_method_12_code 3 = .ok (.if_icmp .ne 8, 3) := by decide +kernel
theorem d_Mo_signOf_6 : decode prog_8_method_12_code 6 = .ok (.bipush 9, 2) := by decide +kernel
theorem d_Mo_signOf_8 : decode prog_8_method_12_code 8 = .ok (.goto 48, 3) := by decide +kernel
theorem d_Mo_signOf_11 : decode prog_8_method_12_code 11 = .ok (.iload_n 0, 1) := by decide +kernel
theorem d_Mo_signOf_12 : decode prog_8_method_12_code 12 = .ok (.bipush 82, 2) := by decide +kernel
theorem d_Mo_signOf_14 : decode prog_8_method_12_code 14 = .ok (.if_icmp .ne 8, 3) := by decide +kernel
theorem d_Mo_signOf_17 : decode prog_8_method_12_code 17 = .ok (.bipush 10, 2) := by decide +kernel
theorem d_Mo_signOf_19 : decode prog_8_method_12_code 19 = .ok (.goto 37, 3) := by decide +kernel
theorem d_Mo_signOf_22 : decode prog_8_method_12_code 22 = .ok (.iload_n 0, 1) := by decide +kernel
theorem d_Mo_signOf_23 : decode prog_8_method_12_code 23 = .ok (.bipush 38, 2) := by decide +kernel
theorem d_Mo_signOf_25 : decode prog_8_method_12_code 25 = .ok (.if_icmp .ne 8, 3) := by decide +kernel
theorem d_Mo_signOf_28 : decode prog_8_method_12_code 28 = .ok (.bipush 11, 2) := by decide +kernel
theorem d_Mo_signOf_30 : decode prog_8_method_12_code 30 = .ok (.goto 26, 3) := by decide +kernel
theorem d_Mo_signOf_33 : decode prog_8_method_12_code 33 = .ok (.iload_n 0, 1) := by decide +kernel
theorem d_Mo_signOf_34 : decode prog_8_method_12_code 34 = .ok (.bipush 124, 2) := by decide +kernel
theorem d_Mo_signOf_36 : decode prog_8_method_12_code 36 = .ok (.if_icmp .ne 8, 3) := by decide +kernel
theorem d_Mo_signOf_39 : decode prog_8_method_12_code 39 = .ok (.bipush 12, 2) := by decide +kernel
theorem d_Mo_signOf_41 : decode prog_8_method_12_code 41 = .ok (.goto 15, 3) := by decide +kernel
theorem d_Mo_signOf_44 : decode prog_8_method_12_code 44 = .ok (.iload_n 0, 1) := by decide +kernel
theorem d_Mo_signOf_45 : decode prog_8_method_12_code 45 = .ok (.bipush 62, 2) := by decide +kernel
theorem d_Mo_signOf_47 : decode prog_8_method_12_code 47 = .ok (.if_icmp .ne 8, 3) := by decide +kernel
theorem d_Mo_signOf_50 : decode prog_8_method_12_code 50 = .ok (.bipush 13, 2) := by decide +kernel
theorem d_Mo_signOf_52 : decode prog_8_method_12_code 52 = .ok (.goto 4, 3) := by decide +kernel
theorem d_Mo_signOf_55 : decode prog_8_method_12_code 55 = .ok (.iconst (-1), 1) := by decide +kernel
theorem d_Mo_signOf_56 : decode prog_8_method_12_code 56 = .ok (.ireturn, 1) := by decide +kernel
theorem d_Mo_reads_0 : decode prog_8_method_13_code 0 = .ok (.aload_n 0, 1) := by decide +kernel
theorem d_Mo_reads_1 : decode prog_8_method_13_code 1 = .ok (.iconst 0, 1) := by decide +kernel
theorem d_Mo_reads_2 : decode prog_8_method_13_code 2 = .ok (.putfield 99, 3) := by decide +kernel
theorem d_Mo_reads_5 : decode prog_8_method_13_code 5 = .ok (.aload_n 0, 1) := by decide +kernel
theorem d_Mo_reads_6 : decode prog_8_method_13_code 6 = .ok (.iconst 0, 1) := by decide +kernel
theorem d_Mo_reads_7 : decode prog_8_method_13_code 7 = .ok (.putfield 120, 3) := by decide +kernel
theorem d_Mo_reads_10 : decode prog_8_method_13_code 10 = .ok (.aload_n 0, 1) := by decide +kernel
theorem d_Mo_reads_11 : decode prog_8_method_13_code 11 = .ok (.iconst 0, 1) := by decide +kernel
theorem d_Mo_reads_12 : decode prog_8_method_13_code 12 = .ok (.putfield 102, 3) := by decide +kernel
theorem d_Mo_reads_15 : decode prog_8_method_13_code 15 = .ok (.aload_n 0, 1) := by decide +kernel
theorem d_Mo_reads_16 : decode prog_8_method_13_code 16 = .ok (.iconst 0, 1) := by decide +kernel
theorem d_Mo_reads_17 : decode prog_8_method_13_code 17 = .ok (.putfield 105, 3) := by decide +kernel
theorem d_Mo_reads_20 : decode prog_8_method_13_code 20 = .ok (.iconst 0, 1) := by decide +kernel
theorem d_Mo_reads_21 : decode prog_8_method_13_code 21 = .ok (.istore_n 2, 1) := by decide +kernel
theorem d_Mo_reads_22 : decode prog_8_method_13_code 22 = .ok (.iconst 0, 1) := by decide +kernel
theorem d_Mo_reads_23 : decode prog_8_method_13_code 23 = .ok (.istore_n 3, 1) := by decide +kernel
theorem d_Mo_reads_24 : decode prog_8_method_13_code 24 = .ok (.iconst 1, 1) := by decide +kernel
theorem d_Mo_reads_25 : decode prog_8_method_13_code 25 = .ok (.istore 4, 2) := by decide +kernel
theorem d_Mo_reads_27 : decode prog_8_method_13_code 27 = .ok (.iconst 0, 1) := by decide +kernel
theorem d_Mo_reads_28 : decode prog_8_method_13_code 28 = .ok (.istore 5, 2) := by decide +kernel
theorem d_Mo_reads_30 : decode prog_8_method_13_code 30 = .ok (.iload 5, 2) := by decide +kernel
theorem d_Mo_reads_32 : decode prog_8_method_13_code 32 = .ok (.iload_n 1, 1) := by decide +kernel
theorem d_Mo_reads_33 : decode prog_8_method_13_code 33 = .ok (.if_icmp .ge 263, 3) := by decide +kernel
theorem d_Mo_reads_36 : decode prog_8_method_13_code 36 = .ok (.iload 4, 2) := by decide +kernel
theorem d_Mo_reads_38 : decode prog_8_method_13_code 38 = .ok (.ifCond .eq 258, 3) := by decide +kernel
theorem d_Mo_reads_41 : decode prog_8_method_13_code 41 = .ok (.aload_n 0, 1) := by decide +kernel
theorem d_Mo_reads_42 : decode prog_8_method_13_code 42 = .ok (.getfield 7, 3) := by decide +kernel
theorem d_Mo_reads_45 : decode prog_8_method_13_code 45 = .ok (.iload 5, 2) := by decide +kernel
theorem d_Mo_reads_47 : decode prog_8_method_13_code 47 = .ok (.iaload, 1) := by decide +kernel
theorem d_Mo_reads_48 : decode prog_8_method_13_code 48 = .ok (.istore 6, 2) := by decide +kernel
theorem d_Mo_reads_50 : decode prog_8_method_13_code 50 = .ok (.iload_n 3, 1) := by decide +kernel
theorem d_Mo_reads_51 : decode prog_8_method_13_code 51 = .ok (.ifCond .ne 118, 3) := by decide +kernel
theorem d_Mo_reads_54 : decode prog_8_method_13_code 54 = .ok (.iload 6, 2) := by decide +kernel
theorem d_Mo_reads_56 : decode prog_8_method_13_code 56 = .ok (.invokestatic 127, 3) := by decide +kernel
theorem d_Mo_reads_59 : decode prog_8_method_13_code 59 = .ok (.ifCond .lt 7, 3) := by decide +kernel
theorem d_Mo_reads_62 : decode prog_8_method_13_code 62 = .ok (.iconst 1, 1) := by decide +kernel
theorem d_Mo_reads_63 : decode prog_8_method_13_code 63 = .ok (.goto 4, 3) := by decide +kernel
theorem d_Mo_reads_66 : decode prog_8_method_13_code 66 = .ok (.iconst 0, 1) := by decide +kernel
theorem d_Mo_reads_67 : decode prog_8_method_13_code 67 = .ok (.istore_n 3, 1) := by decide +kernel
theorem d_Mo_reads_68 : decode prog_8_method_13_code 68 = .ok (.iload_n 3, 1) := by decide +kernel
theorem d_Mo_reads_69 : decode prog_8_method_13_code 69 = .ok (.ifCond .eq 18, 3) := by decide +kernel
theorem d_Mo_reads_72 : decode prog_8_method_13_code 72 = .ok (.aload_n 0, 1) := by decide +kernel
theorem d_Mo_reads_73 : decode prog_8_method_13_code 73 = .ok (.iload 6, 2) := by decide +kernel
theorem d_Mo_reads_75 : decode prog_8_method_13_code 75 = .ok (.invokestatic 127, 3) := by decide +kernel
theorem d_Mo_reads_78 : decode prog_8_method_13_code 78 = .ok (.iconst 0, 1) := by decide +kernel
theorem d_Mo_reads_79 : decode prog_8_method_13_code 79 = .ok (.iconst (-1), 1) := by decide +kernel
theorem d_Mo_reads_80 : decode prog_8_method_13_code 80 = .ok (.iconst (-1), 1) := by decide +kernel
theorem d_Mo_reads_81 : decode prog_8_method_13_code 81 = .ok (.invokevirtual 116, 3) := by decide +kernel
theorem d_Mo_reads_84 : decode prog_8_method_13_code 84 = .ok (.goto 206, 3) := by decide +kernel
theorem d_Mo_reads_87 : decode prog_8_method_13_code 87 = .ok (.iload 6, 2) := by decide +kernel
theorem d_Mo_reads_89 : decode prog_8_method_13_code 89 = .ok (.bipush 40, 2) := by decide +kernel
theorem d_Mo_reads_91 : decode prog_8_method_13_code 91 = .ok (.if_icmp .ne 42, 3) := by decide +kernel
theorem d_Mo_reads_94 : decode prog_8_method_13_code 94 = .ok (.aload_n 0, 1) := by decide +kernel
theorem d_Mo_reads_95 : decode prog_8_method_13_code 95 = .ok (.getfield 46, 3) := by decide +kernel
theorem d_Mo_reads_98 : decode prog_8_method_13_code 98 = .ok (.aload_n 0, 1) := by decide +kernel
theorem d_Mo_reads_99 : decode prog_8_method_13_code 99 = .ok (.getfield 105, 3) := by decide +kernel
theorem d_Mo_reads_102 : decode prog_8_method_13_code 102 = .ok (.bipush 14, 2) := by decide +kernel
theorem d_Mo_reads_104 : decode prog_8_method_13_code 104 = .ok (.iastore, 1) := by decide +kernel
theorem d_Mo_reads_105 : decode prog_8_method_13_code 105 = .ok (.aload_n 0, 1) := by decide +kernel
theorem d_Mo_reads_106 : decode prog_8_method_13_code 106 = .ok (.dup, 1) := by decide +kernel
theorem d_Mo_reads_107 : decode prog_8_method_13_code 107 = .ok (.getfield 105, 3) := by decide +kernel
theorem d_Mo_reads_110 : decode prog_8_method_13_code 110 = .ok (.iconst 1, 1) := by decide +kernel
theorem d_Mo_reads_111 : decode prog_8_method_13_code 111 = .ok (.iadd, 1) := by decide +kernel
theorem d_Mo_reads_112 : decode prog_8_method_13_code 112 = .ok (.putfield 105, 3) := by decide +kernel
theorem d_Mo_reads_115 : decode prog_8_method_13_code 115 = .ok (.iinc 2 1, 3) := by decide +kernel
theorem d_Mo_reads_118 : decode prog_8_method_13_code 118 = .ok (.iload_n 2, 1) := by decide +kernel
theorem d_Mo_reads_119 : decode prog_8_method_13_code 119 = .ok (.iconst 5, 1) := by decide +kernel
theorem d_Mo_reads_120 : decode prog_8_method_13_code 120 = .ok (.if_icmp .ge 7, 3) := by decide +kernel
theorem d_Mo_reads_123 : decode prog_8_method_13_code 123 = .ok (.iconst 1, 1) := by decide +kernel
theorem d_Mo_reads_124 : decode prog_8_method_13_code 124 = .ok (.goto 4, 3) := by decide +kernel
theorem d_Mo_reads_127 : decode prog_8_method_13_code 127 = .ok (.iconst 0, 1) := by decide +kernel
theorem d_Mo_reads_128 : decode prog_8_method_13_code 128 = .ok (.istore 4, 2) := by decide +kernel
theorem d_Mo_reads_130 : decode prog_8_method_13_code 130 = .ok (.goto 160, 3) := by decide +kernel
theorem d_Mo_reads_133 : decode prog_8_method_13_code 133 = .ok (.iload 6, 2) := by decide +kernel
theorem d_Mo_reads_135 : decode prog_8_method_13_code 135 = .ok (.invokestatic 130, 3) := by decide +kernel
theorem d_Mo_reads_138 : decode prog_8_method_13_code 138 = .ok (.ifCond .lt 7, 3) := by decide +kernel
theorem d_Mo_reads_141 : decode prog_8_method_13_code 141 = .ok (.iconst 1, 1) := by decide +kernel
theorem d_Mo_reads_142 : decode prog_8_method_13_code 142 = .ok (.goto 4, 3) := by decide +kernel
theorem d_Mo_reads_145 : decode prog_8_method_13_code 145 = .ok (.iconst 0, 1) := by decide +kernel
theorem d_Mo_reads_146 : decode prog_8_method_13_code 146 = .ok (.istore 4, 2) := by decide +kernel
theorem d_Mo_reads_148 : decode prog_8_method_13_code 148 = .ok (.aload_n 0, 1) := by decide +kernel
theorem d_Mo_reads_149 : decode prog_8_method_13_code 149 = .ok (.iload 4, 2) := by decide +kernel
theorem d_Mo_reads_151 : decode prog_8_method_13_code 151 = .ok (.ifCond .eq 11, 3) := by decide +kernel
theorem d_Mo_reads_154 : decode prog_8_method_13_code 154 = .ok (.iload 6, 2) := by decide +kernel
theorem d_Mo_reads_156 : decode prog_8_method_13_code 156 = .ok (.invokestatic 130, 3) := by decide +kernel
theorem d_Mo_reads_159 : decode prog_8_method_13_code 159 = .ok (.goto 4, 3) := by decide +kernel
theorem d_Mo_reads_162 : decode prog_8_method_13_code 162 = .ok (.iconst 5, 1) := by decide +kernel
theorem d_Mo_reads_163 : decode prog_8_method_13_code 163 = .ok (.invokevirtual 133, 3) := by decide +kernel
theorem d_Mo_reads_166 : decode prog_8_method_13_code 166 = .ok (.goto 124, 3) := by decide +kernel
theorem d_Mo_reads_169 : decode prog_8_method_13_code 169 = .ok (.iload 6, 2) := by decide +kernel
theorem d_Mo_reads_171 : decode prog_8_method_13_code 171 = .ok (.bipush 41, 2) := by decide +kernel
theorem d_Mo_reads_173 : decode prog_8_method_13_code 173 = .ok (.if_icmp .ne 47, 3) := by decide +kernel
theorem d_Mo_reads_176 : decode prog_8_method_13_code 176 = .ok (.aload_n 0, 1) := by decide +kernel
theorem d_Mo_reads_177 : decode prog_8_method_13_code 177 = .ok (.iconst 1, 1) := by decide +kernel
theorem d_Mo_reads_178 : decode prog_8_method_13_code 178 = .ok (.invokevirtual 137, 3) := by decide +kernel
theorem d_Mo_reads_181 : decode prog_8_method_13_code 181 = .ok (.aload_n 0, 1) := by decide +kernel
theorem d_Mo_reads_182 : decode prog_8_method_13_code 182 = .ok (.getfield 105, 3) := by decide +kernel
theorem d_Mo_reads_185 : decode prog_8_method_13_code 185 = .ok (.ifCond .le 7, 3) := by decide +kernel
theorem d_Mo_reads_188 : decode prog_8_method_13_code 188 = .ok (.iconst 1, 1) := by decide +kernel
theorem d_Mo_reads_189 : decode prog_8_method_13_code 189 = .ok (.goto 4, 3) := by decide +kernel
theorem d_Mo_reads_192 : decode prog_8_method_13_code 192 = .ok (.iconst 0, 1) := by decide +kernel
theorem d_Mo_reads_193 : decode prog_8_method_13_code 193 = .ok (.istore 4, 2) := by decide +kernel
theorem d_Mo_reads_195 : decode prog_8_method_13_code 195 = .ok (.aload_n 0, 1) := by decide +kernel
theorem d_Mo_reads_196 : decode prog_8_method_13_code 196 = .ok (.iload 4, 2) := by decide +kernel
theorem d_Mo_reads_198 : decode prog_8_method_13_code 198 = .ok (.ifCond .eq 12, 3) := by decide +kernel
theorem d_Mo_reads_201 : decode prog_8_method_13_code 201 = .ok (.aload_n 0, 1) := by decide +kernel
theorem d_Mo_reads_202 : decode prog_8_method_13_code 202 = .ok (.getfield 105, 3) := by decide +kernel
theorem d_Mo_reads_205 : decode prog_8_method_13_code 205 = .ok (.iconst 1, 1) := by decide +kernel
theorem d_Mo_reads_206 : decode prog_8_method_13_code 206 = .ok (.isub, 1) := by decide +kernel
theorem d_Mo_reads_207 : decode prog_8_method_13_code 207 = .ok (.goto 4, 3) := by decide +kernel
theorem d_Mo_reads_210 : decode prog_8_method_13_code 210 = .ok (.iconst 0, 1) := by decide +kernel
theorem d_Mo_reads_211 : decode prog_8_method_13_code 211 = .ok (.putfield 105, 3) := by decide +kernel
theorem d_Mo_reads_214 : decode prog_8_method_13_code 214 = .ok (.iinc 2 (-1), 3) := by decide +kernel
theorem d_Mo_reads_217 : decode prog_8_method_13_code 217 = .ok (.goto 73, 3) := by decide +kernel
theorem d_Mo_reads_220 : decode prog_8_method_13_code 220 = .ok (.iload 6, 2) := by decide +kernel
theorem d_Mo_reads_222 : decode prog_8_method_13_code 222 = .ok (.invokestatic 140, 3) := by decide +kernel
theorem d_Mo_reads_225 : decode prog_8_method_13_code 225 = .ok (.istore 7, 2) := by decide +kernel
theorem d_Mo_reads_227 : decode prog_8_method_13_code 227 = .ok (.iload 7, 2) := by decide +kernel
end
section
theorem d_Mo_reads_229 : decode prog_8_method_13_code 229 = .ok (.ifCond .lt 7, 3) := by decide +kernel
theorem d_Mo_reads_232 : decode prog_8_method_13_code 232 = .ok (.iconst 1, 1) := by decide +kernel
theorem d_Mo_reads_233 : decode prog_8_method_13_code 233 = .ok (.goto 4, 3) := by decide +kernel
theorem d_Mo_reads_236 : decode prog_8_method_13_code 236 = .ok (.iconst 0, 1) := by decide +kernel
theorem d_Mo_reads_237 : decode prog_8_method_13_code 237 = .ok (.istore 4, 2) := by decide +kernel
theorem d_Mo_reads_239 : decode prog_8_method_13_code 239 = .ok (.aload_n 0, 1) := by decide +kernel
theorem d_Mo_reads_240 : decode prog_8_method_13_code 240 = .ok (.iload 7, 2) := by decide +kernel
theorem d_Mo_reads_242 : decode prog_8_method_13_code 242 = .ok (.bipush 11, 2) := by decide +kernel
theorem d_Mo_reads_244 : decode prog_8_method_13_code 244 = .ok (.if_icmp .ne 7, 3) := by decide +kernel
theorem d_Mo_reads_247 : decode prog_8_method_13_code 247 = .ok (.iconst 3, 1) := by decide +kernel
theorem d_Mo_reads_248 : decode prog_8_method_13_code 248 = .ok (.goto 22, 3) := by decide +kernel
theorem d_Mo_reads_251 : decode prog_8_method_13_code 251 = .ok (.iload 7, 2) := by decide +kernel
theorem d_Mo_reads_253 : decode prog_8_method_13_code 253 = .ok (.bipush 12, 2) := by decide +kernel
theorem d_Mo_reads_255 : decode prog_8_method_13_code 255 = .ok (.if_icmp .eq 10, 3) := by decide +kernel
theorem d_Mo_reads_258 : decode prog_8_method_13_code 258 = .ok (.iload 7, 2) := by decide +kernel
theorem d_Mo_reads_260 : decode prog_8_method_13_code 260 = .ok (.bipush 13, 2) := by decide +kernel
theorem d_Mo_reads_262 : decode prog_8_method_13_code 262 = .ok (.if_icmp .ne 7, 3) := by decide +kernel
theorem d_Mo_reads_265 : decode prog_8_method_13_code 265 = .ok (.iconst 2, 1) := by decide +kernel
theorem d_Mo_reads_266 : decode prog_8_method_13_code 266 = .ok (.goto 4, 3) := by decide +kernel
theorem d_Mo_reads_269 : decode prog_8_method_13_code 269 = .ok (.iconst 5, 1) := by decide +kernel
theorem d_Mo_reads_270 : decode prog_8_method_13_code 270 = .ok (.invokevirtual 137, 3) := by decide +kernel
theorem d_Mo_reads_273 : decode prog_8_method_13_code 273 = .ok (.aload_n 0, 1) := by decide +kernel
theorem d_Mo_reads_274 : decode prog_8_method_13_code 274 = .ok (.iload 4, 2) := by decide +kernel
theorem d_Mo_reads_276 : decode prog_8_method_13_code 276 = .ok (.ifCond .eq 8, 3) := by decide +kernel
theorem d_Mo_reads_279 : decode prog_8_method_13_code 279 = .ok (.iload 7, 2) := by decide +kernel
theorem d_Mo_reads_281 : decode prog_8_method_13_code 281 = .ok (.goto 4, 3) := by decide +kernel
theorem d_Mo_reads_284 : decode prog_8_method_13_code 284 = .ok (.iconst 5, 1) := by decide +kernel
theorem d_Mo_reads_285 : decode prog_8_method_13_code 285 = .ok (.invokevirtual 133, 3) := by decide +kernel
theorem d_Mo_reads_288 : decode prog_8_method_13_code 288 = .ok (.iconst 0, 1) := by decide +kernel
theorem d_Mo_reads_289 : decode prog_8_method_13_code 289 = .ok (.istore_n 3, 1) := by decide +kernel
theorem d_Mo_reads_290 : decode prog_8_method_13_code 290 = .ok (.iinc 5 1, 3) := by decide +kernel
theorem d_Mo_reads_293 : decode prog_8_method_13_code 293 = .ok (.goto (-263), 3) := by decide +kernel
theorem d_Mo_reads_296 : decode prog_8_method_13_code 296 = .ok (.iload 4, 2) := by decide +kernel
theorem d_Mo_reads_298 : decode prog_8_method_13_code 298 = .ok (.ifCond .eq 12, 3) := by decide +kernel
theorem d_Mo_reads_301 : decode prog_8_method_13_code 301 = .ok (.iload_n 3, 1) := by decide +kernel
theorem d_Mo_reads_302 : decode prog_8_method_13_code 302 = .ok (.ifCond .eq 8, 3) := by decide +kernel
theorem d_Mo_reads_305 : decode prog_8_method_13_code 305 = .ok (.aload_n 0, 1) := by decide +kernel
theorem d_Mo_reads_306 : decode prog_8_method_13_code 306 = .ok (.iconst 1, 1) := by decide +kernel
theorem d_Mo_reads_307 : decode prog_8_method_13_code 307 = .ok (.invokevirtual 137, 3) := by decide +kernel
theorem d_Mo_reads_310 : decode prog_8_method_13_code 310 = .ok (.iload 4, 2) := by decide +kernel
theorem d_Mo_reads_312 : decode prog_8_method_13_code 312 = .ok (.ifCond .eq 27, 3) := by decide +kernel
theorem d_Mo_reads_315 : decode prog_8_method_13_code 315 = .ok (.iload_n 3, 1) := by decide +kernel
theorem d_Mo_reads_316 : decode prog_8_method_13_code 316 = .ok (.ifCond .eq 23, 3) := by decide +kernel
theorem d_Mo_reads_319 : decode prog_8_method_13_code 319 = .ok (.aload_n 0, 1) := by decide +kernel
theorem d_Mo_reads_320 : decode prog_8_method_13_code 320 = .ok (.getfield 105, 3) := by decide +kernel
theorem d_Mo_reads_323 : decode prog_8_method_13_code 323 = .ok (.ifCond .ne 16, 3) := by decide +kernel
theorem d_Mo_reads_326 : decode prog_8_method_13_code 326 = .ok (.aload_n 0, 1) := by decide +kernel
theorem d_Mo_reads_327 : decode prog_8_method_13_code 327 = .ok (.getfield 120, 3) := by decide +kernel
theorem d_Mo_reads_330 : decode prog_8_method_13_code 330 = .ok (.bipush 6, 2) := by decide +kernel
theorem d_Mo_reads_332 : decode prog_8_method_13_code 332 = .ok (.if_icmp .ge 7, 3) := by decide +kernel
theorem d_Mo_reads_335 : decode prog_8_method_13_code 335 = .ok (.iconst 1, 1) := by decide +kernel
theorem d_Mo_reads_336 : decode prog_8_method_13_code 336 = .ok (.goto 4, 3) := by decide +kernel
theorem d_Mo_reads_339 : decode prog_8_method_13_code 339 = .ok (.iconst 0, 1) := by decide +kernel
theorem d_Mo_reads_340 : decode prog_8_method_13_code 340 = .ok (.ireturn, 1) := by decide +kernel
theorem d_Mo_formula_0 : decode prog_8_method_14_code 0 = .ok (.aload_n 0, 1) := by decide +kernel
theorem d_Mo_formula_1 : decode prog_8_method_14_code 1 = .ok (.getfield 96, 3) := by decide +kernel
theorem d_Mo_formula_4 : decode prog_8_method_14_code 4 = .ok (.istore_n 1, 1) := by decide +kernel
theorem d_Mo_formula_5 : decode prog_8_method_14_code 5 = .ok (.aload_n 0, 1) := by decide +kernel
theorem d_Mo_formula_6 : decode prog_8_method_14_code 6 = .ok (.iconst 0, 1) := by decide +kernel
theorem d_Mo_formula_7 : decode prog_8_method_14_code 7 = .ok (.putfield 96, 3) := by decide +kernel
theorem d_Mo_formula_10 : decode prog_8_method_14_code 10 = .ok (.aload_n 0, 1) := by decide +kernel
theorem d_Mo_formula_11 : decode prog_8_method_14_code 11 = .ok (.aload_n 0, 1) := by decide +kernel
theorem d_Mo_formula_12 : decode prog_8_method_14_code 12 = .ok (.iload_n 1, 1) := by decide +kernel
theorem d_Mo_formula_13 : decode prog_8_method_14_code 13 = .ok (.invokevirtual 143, 3) := by decide +kernel
theorem d_Mo_formula_16 : decode prog_8_method_14_code 16 = .ok (.ifCond .eq 7, 3) := by decide +kernel
theorem d_Mo_formula_19 : decode prog_8_method_14_code 19 = .ok (.iconst 0, 1) := by decide +kernel
theorem d_Mo_formula_20 : decode prog_8_method_14_code 20 = .ok (.goto 4, 3) := by decide +kernel
theorem d_Mo_formula_23 : decode prog_8_method_14_code 23 = .ok (.iconst 1, 1) := by decide +kernel
theorem d_Mo_formula_24 : decode prog_8_method_14_code 24 = .ok (.putfield 93, 3) := by decide +kernel
theorem d_Mo_formula_27 : decode prog_8_method_14_code 27 = .ok (.aload_n 0, 1) := by decide +kernel
theorem d_Mo_formula_28 : decode prog_8_method_14_code 28 = .ok (.getfield 93, 3) := by decide +kernel
theorem d_Mo_formula_31 : decode prog_8_method_14_code 31 = .ok (.ifCond .le 5, 3) := by decide +kernel
theorem d_Mo_formula_34 : decode prog_8_method_14_code 34 = .ok (.iconst 0, 1) := by decide +kernel
theorem d_Mo_formula_35 : decode prog_8_method_14_code 35 = .ok (.ireturn, 1) := by decide +kernel
theorem d_Mo_formula_36 : decode prog_8_method_14_code 36 = .ok (.aload_n 0, 1) := by decide +kernel
theorem d_Mo_formula_37 : decode prog_8_method_14_code 37 = .ok (.iconst 1, 1) := by decide +kernel
theorem d_Mo_formula_38 : decode prog_8_method_14_code 38 = .ok (.putfield 146, 3) := by decide +kernel
theorem d_Mo_formula_41 : decode prog_8_method_14_code 41 = .ok (.aload_n 0, 1) := by decide +kernel
theorem d_Mo_formula_42 : decode prog_8_method_14_code 42 = .ok (.aload_n 0, 1) := by decide +kernel
theorem d_Mo_formula_43 : decode prog_8_method_14_code 43 = .ok (.getfield 99, 3) := by decide +kernel
theorem d_Mo_formula_46 : decode prog_8_method_14_code 46 = .ok (.putfield 150, 3) := by decide +kernel
theorem d_Mo_formula_49 : decode prog_8_method_14_code 49 = .ok (.aload_n 0, 1) := by decide +kernel
theorem d_Mo_formula_50 : decode prog_8_method_14_code 50 = .ok (.aload_n 0, 1) := by decide +kernel
theorem d_Mo_formula_51 : decode prog_8_method_14_code 51 = .ok (.getfield 120, 3) := by decide +kernel
theorem d_Mo_formula_54 : decode prog_8_method_14_code 54 = .ok (.putfield 153, 3) := by decide +kernel
theorem d_Mo_formula_57 : decode prog_8_method_14_code 57 = .ok (.aload_n 0, 1) := by decide +kernel
theorem d_Mo_formula_58 : decode prog_8_method_14_code 58 = .ok (.iconst 0, 1) := by decide +kernel
theorem d_Mo_formula_59 : decode prog_8_method_14_code 59 = .ok (.putfield 156, 3) := by decide +kernel
theorem d_Mo_formula_62 : decode prog_8_method_14_code 62 = .ok (.iconst 0, 1) := by decide +kernel
theorem d_Mo_formula_63 : decode prog_8_method_14_code 63 = .ok (.istore_n 2, 1) := by decide +kernel
theorem d_Mo_formula_64 : decode prog_8_method_14_code 64 = .ok (.iload_n 2, 1) := by decide +kernel
theorem d_Mo_formula_65 : decode prog_8_method_14_code 65 = .ok (.aload_n 0, 1) := by decide +kernel
theorem d_Mo_formula_66 : decode prog_8_method_14_code 66 = .ok (.getfield 150, 3) := by decide +kernel
theorem d_Mo_formula_69 : decode prog_8_method_14_code 69 = .ok (.if_icmp .ge 81, 3) := by decide +kernel
theorem d_Mo_formula_72 : decode prog_8_method_14_code 72 = .ok (.aload_n 0, 1) := by decide +kernel
theorem d_Mo_formula_73 : decode prog_8_method_14_code 73 = .ok (.getfield 13, 3) := by decide +kernel
theorem d_Mo_formula_76 : decode prog_8_method_14_code 76 = .ok (.iload_n 2, 1) := by decide +kernel
theorem d_Mo_formula_77 : decode prog_8_method_14_code 77 = .ok (.aload_n 0, 1) := by decide +kernel
theorem d_Mo_formula_78 : decode prog_8_method_14_code 78 = .ok (.getfield 31, 3) := by decide +kernel
theorem d_Mo_formula_81 : decode prog_8_method_14_code 81 = .ok (.iload_n 2, 1) := by decide +kernel
theorem d_Mo_formula_82 : decode prog_8_method_14_code 82 = .ok (.iaload, 1) := by decide +kernel
theorem d_Mo_formula_83 : decode prog_8_method_14_code 83 = .ok (.iastore, 1) := by decide +kernel
theorem d_Mo_formula_84 : decode prog_8_method_14_code 84 = .ok (.aload_n 0, 1) := by decide +kernel
theorem d_Mo_formula_85 : decode prog_8_method_14_code 85 = .ok (.getfield 16, 3) := by decide +kernel
theorem d_Mo_formula_88 : decode prog_8_method_14_code 88 = .ok (.iload_n 2, 1) := by decide +kernel
theorem d_Mo_formula_89 : decode prog_8_method_14_code 89 = .ok (.aload_n 0, 1) := by decide +kernel
theorem d_Mo_formula_90 : decode prog_8_method_14_code 90 = .ok (.getfield 34, 3) := by decide +kernel
theorem d_Mo_formula_93 : decode prog_8_method_14_code 93 = .ok (.iload_n 2, 1) := by decide +kernel
theorem d_Mo_formula_94 : decode prog_8_method_14_code 94 = .ok (.iaload, 1) := by decide +kernel
theorem d_Mo_formula_95 : decode prog_8_method_14_code 95 = .ok (.iastore, 1) := by decide +kernel
theorem d_Mo_formula_96 : decode prog_8_method_14_code 96 = .ok (.aload_n 0, 1) := by decide +kernel
theorem d_Mo_formula_97 : decode prog_8_method_14_code 97 = .ok (.getfield 19, 3) := by decide +kernel
theorem d_Mo_formula_100 : decode prog_8_method_14_code 100 = .ok (.iload_n 2, 1) := by decide +kernel
theorem d_Mo_formula_101 : decode prog_8_method_14_code 101 = .ok (.aload_n 0, 1) := by decide +kernel
theorem d_Mo_formula_102 : decode prog_8_method_14_code 102 = .ok (.getfield 37, 3) := by decide +kernel
theorem d_Mo_formula_105 : decode prog_8_method_14_code 105 = .ok (.iload_n 2, 1) := by decide +kernel
theorem d_Mo_formula_106 : decode prog_8_method_14_code 106 = .ok (.iaload, 1) := by decide +kernel
theorem d_Mo_formula_107 : decode prog_8_method_14_code 107 = .ok (.iastore, 1) := by decide +kernel
theorem d_Mo_formula_108 : decode prog_8_method_14_code 108 = .ok (.aload_n 0, 1) := by decide +kernel
theorem d_Mo_formula_109 : decode prog_8_method_14_code 109 = .ok (.getfield 22, 3) := by decide +kernel
theorem d_Mo_formula_112 : decode prog_8_method_14_code 112 = .ok (.iload_n 2, 1) := by decide +kernel
theorem d_Mo_formula_113 : decode prog_8_method_14_code 113 = .ok (.aload_n 0, 1) := by decide +kernel
theorem d_Mo_formula_114 : decode prog_8_method_14_code 114 = .ok (.getfield 40, 3) := by decide +kernel
theorem d_Mo_formula_117 : decode prog_8_method_14_code 117 = .ok (.iload_n 2, 1) := by decide +kernel
theorem d_Mo_formula_118 : decode prog_8_method_14_code 118 = .ok (.iaload, 1) := by decide +kernel
theorem d_Mo_formula_119 : decode prog_8_method_14_code 119 = .ok (.iastore, 1) := by decide +kernel
theorem d_Mo_formula_120 : decode prog_8_method_14_code 120 = .ok (.aload_n 0, 1) := by decide +kernel
theorem d_Mo_formula_121 : decode prog_8_method_14_code 121 = .ok (.getfield 13, 3) := by decide +kernel
theorem d_Mo_formula_124 : decode prog_8_method_14_code 124 = .ok (.iload_n 2, 1) := by decide +kernel
theorem d_Mo_formula_125 : decode prog_8_method_14_code 125 = .ok (.iaload, 1) := by decide +kernel
theorem d_Mo_formula_126 : decode prog_8_method_14_code 126 = .ok (.invokestatic 123, 3) := by decide +kernel
theorem d_Mo_formula_129 : decode prog_8_method_14_code 129 = .ok (.ifCond .eq 15, 3) := by decide +kernel
theorem d_Mo_formula_132 : decode prog_8_method_14_code 132 = .ok (.aload_n 0, 1) := by decide +kernel
theorem d_Mo_formula_133 : decode prog_8_method_14_code 133 = .ok (.getfield 25, 3) := by decide +kernel
theorem d_Mo_formula_136 : decode prog_8_method_14_code 136 = .ok (.aload_n 0, 1) := by decide +kernel
theorem d_Mo_formula_137 : decode prog_8_method_14_code 137 = .ok (.getfield 22, 3) := by decide +kernel
theorem d_Mo_formula_140 : decode prog_8_method_14_code 140 = .ok (.iload_n 2, 1) := by decide +kernel
theorem d_Mo_formula_141 : decode prog_8_method_14_code 141 = .ok (.iaload, 1) := by decide +kernel
theorem d_Mo_formula_142 : decode prog_8_method_14_code 142 = .ok (.iload_n 2, 1) := by decide +kernel
theorem d_Mo_formula_143 : decode prog_8_method_14_code 143 = .ok (.iastore, 1) := by decide +kernel
theorem d_Mo_formula_144 : decode prog_8_method_14_code 144 = .ok (.iinc 2 1, 3) := by decide +kernel
theorem d_Mo_formula_147 : decode prog_8_method_14_code 147 = .ok (.goto (-83), 3) := by decide +kernel
theorem d_Mo_formula_150 : decode prog_8_method_14_code 150 = .ok (.iconst 0, 1) := by decide +kernel
theorem d_Mo_formula_151 : decode prog_8_method_14_code 151 = .ok (.istore_n 2, 1) := by decide +kernel
theorem d_Mo_formula_152 : decode prog_8_method_14_code 152 = .ok (.iload_n 2, 1) := by decide +kernel
theorem d_Mo_formula_153 : decode prog_8_method_14_code 153 = .ok (.aload_n 0, 1) := by decide +kernel
theorem d_Mo_formula_154 : decode prog_8_method_14_code 154 = .ok (.getfield 153, 3) := by decide +kernel
theorem d_Mo_formula_157 : decode prog_8_method_14_code 157 = .ok (.if_icmp .ge 50, 3) := by decide +kernel
theorem d_Mo_formula_160 : decode prog_8_method_14_code 160 = .ok (.aload_n 0, 1) := by decide +kernel
theorem d_Mo_formula_161 : decode prog_8_method_14_code 161 = .ok (.getfield 13, 3) := by decide +kernel
theorem d_Mo_formula_164 : decode prog_8_method_14_code 164 = .ok (.aload_n 0, 1) := by decide +kernel
theorem d_Mo_formula_165 : decode prog_8_method_14_code 165 = .ok (.getfield 25, 3) := by decide +kernel
theorem d_Mo_formula_168 : decode prog_8_method_14_code 168 = .ok (.iload_n 2, 1) := by decide +kernel
theorem d_Mo_formula_169 : decode prog_8_method_14_code 169 = .ok (.iaload, 1) := by decide +kernel
theorem d_Mo_formula_170 : decode prog_8_method_14_code 170 = .ok (.iaload, 1) := by decide +kernel
theorem d_Mo_formula_171 : decode prog_8_method_14_code 171 = .ok (.bipush 6, 2) := by decide +kernel
theorem d_Mo_formula_173 : decode prog_8_method_14_code 173 = .ok (.if_icmp .eq 28, 3) := by decide +kernel
theorem d_Mo_formula_176 : decode prog_8_method_14_code 176 = .ok (.aload_n 0, 1) := by decide +kernel
theorem d_Mo_formula_177 : decode prog_8_method_14_code 177 = .ok (.getfield 28, 3) := by decide +kernel
theorem d_Mo_formula_180 : decode prog_8_method_14_code 180 = .ok (.aload_n 0, 1) := by decide +kernel
theorem d_Mo_formula_181 : decode prog_8_method_14_code 181 = .ok (.getfield 156, 3) := by decide +kernel
theorem d_Mo_formula_184 : decode prog_8_method_14_code 184 = .ok (.aload_n 0, 1) := by decide +kernel
theorem d_Mo_formula_185 : decode prog_8_method_14_code 185 = .ok (.getfield 25, 3) := by decide +kernel
theorem d_Mo_formula_188 : decode prog_8_method_14_code 188 = .ok (.iload_n 2, 1) := by decide +kernel
theorem d_Mo_formula_189 : decode prog_8_method_14_code 189 = .ok (.iaload, 1) := by decide +kernel
theorem d_Mo_formula_190 : decode prog_8_method_14_code 190 = .ok (.iastore, 1) := by decide +kernel
theorem d_Mo_formula_191 : decode prog_8_method_14_code 191 = .ok (.aload_n 0, 1) := by decide +kernel
theorem d_Mo_formula_192 : decode prog_8_method_14_code 192 = .ok (.dup, 1) := by decide +kernel
theorem d_Mo_formula_193 : decode prog_8_method_14_code 193 = .ok (.getfield 156, 3) := by decide +kernel
theorem d_Mo_formula_196 : decode prog_8_method_14_code 196 = .ok (.iconst 1, 1) := by decide +kernel
theorem d_Mo_formula_197 : decode prog_8_method_14_code 197 = .ok (.iadd, 1) := by decide +kernel
theorem d_Mo_formula_198 : decode prog_8_method_14_code 198 = .ok (.putfield 156, 3) := by decide +kernel
theorem d_Mo_formula_201 : decode prog_8_method_14_code 201 = .ok (.iinc 2 1, 3) := by decide +kernel
theorem d_Mo_formula_204 : decode prog_8_method_14_code 204 = .ok (.goto (-52), 3) := by decide +kernel
theorem d_Mo_formula_207 : decode prog_8_method_14_code 207 = .ok (.iconst 0, 1) := by decide +kernel
theorem d_Mo_formula_208 : decode prog_8_method_14_code 208 = .ok (.istore_n 2, 1) := by decide +kernel
theorem d_Mo_formula_209 : decode prog_8_method_14_code 209 = .ok (.iload_n 2, 1) := by decide +kernel
theorem d_Mo_formula_210 : decode prog_8_method_14_code 210 = .ok (.aload_n 0, 1) := by decide +kernel
theorem d_Mo_formula_211 : decode prog_8_method_14_code 211 = .ok (.invokevirtual 159, 3) := by decide +kernel
theorem d_Mo_formula_214 : decode prog_8_method_14_code 214 = .ok (.if_icmp .ge 14, 3) := by decide +kernel
theorem d_Mo_formula_217 : decode prog_8_method_14_code 217 = .ok (.aload_n 0, 1) := by decide +kernel
theorem d_Mo_formula_218 : decode prog_8_method_14_code 218 = .ok (.iload_n 2, 1) := by decide +kernel
theorem d_Mo_formula_219 : decode prog_8_method_14_code 219 = .ok (.invokevirtual 162, 3) := by decide +kernel
theorem d_Mo_formula_222 : decode prog_8_method_14_code 222 = .ok (.iinc 2 1, 3) := by decide +kernel
theorem d_Mo_formula_225 : decode prog_8_method_14_code 225 = .ok (.goto (-16), 3) := by decide +kernel
theorem d_Mo_formula_228 : decode prog_8_method_14_code 228 = .ok (.aload_n 0, 1) := by decide +kernel
theorem d_Mo_formula_229 : decode prog_8_method_14_code 229 = .ok (.invokevirtual 165, 3) := by decide +kernel
theorem d_Mo_formula_232 : decode prog_8_method_14_code 232 = .ok (.aload_n 0, 1) := by decide +kernel
theorem d_Mo_formula_233 : decode prog_8_method_14_code 233 = .ok (.invokevirtual 168, 3) := by decide +kernel
theorem d_Mo_formula_236 : decode prog_8_method_14_code 236 = .ok (.aload_n 0, 1) := by decide +kernel
theorem d_Mo_formula_237 : decode prog_8_method_14_code 237 = .ok (.getfield 150, 3) := by decide +kernel
theorem d_Mo_formula_240 : decode prog_8_method_14_code 240 = .ok (.ireturn, 1) := by decide +kernel
theorem d_Mo_count_0 : decode prog_8_method_15_code 0 = .ok (.bipush 8, 2) := by decide +kernel
theorem d_Mo_count_2 : decode prog_8_method_15_code 2 = .ok (.aload_n 0, 1) := by decide +kernel
theorem d_Mo_count_3 : decode prog_8_method_15_code 3 = .ok (.getfield 153, 3) := by decide +kernel
theorem d_Mo_count_6 : decode prog_8_method_15_code 6 = .ok (.ishl, 1) := by decide +kernel
theorem d_Mo_count_7 : decode prog_8_method_15_code 7 = .ok (.ireturn, 1) := by decide +kernel
theorem d_Mo_valueOf_0 : decode prog_8_method_16_code 0 = .ok (.aload_n 0, 1) := by decide +kernel
theorem d_Mo_valueOf_1 : decode prog_8_method_16_code 1 = .ok (.getfield 16, 3) := by decide +kernel
theorem d_Mo_valueOf_4 : decode prog_8_method_16_code 4 = .ok (.iload_n 1, 1) := by decide +kernel
theorem d_Mo_valueOf_5 : decode prog_8_method_16_code 5 = .ok (.iaload, 1) := by decide +kernel
theorem d_Mo_valueOf_6 : decode prog_8_method_16_code 6 = .ok (.ifCond .lt 21, 3) := by decide +kernel
theorem d_Mo_valueOf_9 : decode prog_8_method_16_code 9 = .ok (.aload_n 0, 1) := by decide +kernel
theorem d_Mo_valueOf_10 : decode prog_8_method_16_code 10 = .ok (.getfield 62, 3) := by decide +kernel
theorem d_Mo_valueOf_13 : decode prog_8_method_16_code 13 = .ok (.aload_n 0, 1) := by decide +kernel
theorem d_Mo_valueOf_14 : decode prog_8_method_16_code 14 = .ok (.getfield 16, 3) := by decide +kernel
theorem d_Mo_valueOf_17 : decode prog_8_method_16_code 17 = .ok (.iload_n 1, 1) := by decide +kernel
theorem d_Mo_valueOf_18 : decode prog_8_method_16_code 18 = .ok (.iaload, 1) := by decide +kernel
theorem d_Mo_valueOf_19 : decode prog_8_method_16_code 19 = .ok (.baload, 1) := by decide +kernel
theorem d_Mo_valueOf_20 : decode prog_8_method_16_code 20 = .ok (.ifCond .eq 7, 3) := by decide +kernel
theorem d_Mo_valueOf_23 : decode prog_8_method_16_code 23 = .ok (.iconst 1, 1) := by decide +kernel
theorem d_Mo_valueOf_24 : decode prog_8_method_16_code 24 = .ok (.goto 4, 3) := by decide +kernel
theorem d_Mo_valueOf_27 : decode prog_8_method_16_code 27 = .ok (.iconst 0, 1) := by decide +kernel
theorem d_Mo_valueOf_28 : decode prog_8_method_16_code 28 = .ok (.istore 4, 2) := by decide +kernel
theorem d_Mo_valueOf_30 : decode prog_8_method_16_code 30 = .ok (.aload_n 0, 1) := by decide +kernel
theorem d_Mo_valueOf_31 : decode prog_8_method_16_code 31 = .ok (.getfield 19, 3) := by decide +kernel
theorem d_Mo_valueOf_34 : decode prog_8_method_16_code 34 = .ok (.iload_n 1, 1) := by decide +kernel
theorem d_Mo_valueOf_35 : decode prog_8_method_16_code 35 = .ok (.iaload, 1) := by decide +kernel
theorem d_Mo_valueOf_36 : decode prog_8_method_16_code 36 = .ok (.ifCond .lt 21, 3) := by decide +kernel
theorem d_Mo_valueOf_39 : decode prog_8_method_16_code 39 = .ok (.aload_n 0, 1) := by decide +kernel
theorem d_Mo_valueOf_40 : decode prog_8_method_16_code 40 = .ok (.getfield 62, 3) := by decide +kernel
theorem d_Mo_valueOf_43 : decode prog_8_method_16_code 43 = .ok (.aload_n 0, 1) := by decide +kernel
theorem d_Mo_valueOf_44 : decode prog_8_method_16_code 44 = .ok (.getfield 19, 3) := by decide +kernel
theorem d_Mo_valueOf_47 : decode prog_8_method_16_code 47 = .ok (.iload_n 1, 1) := by decide +kernel
theorem d_Mo_valueOf_48 : decode prog_8_method_16_code 48 = .ok (.iaload, 1) := by decide +kernel
theorem d_Mo_valueOf_49 : decode prog_8_method_16_code 49 = .ok (.baload, 1) := by decide +kernel
theorem d_Mo_valueOf_50 : decode prog_8_method_16_code 50 = .ok (.ifCond .eq 7, 3) := by decide +kernel
theorem d_Mo_valueOf_53 : decode prog_8_method_16_code 53 = .ok (.iconst 1, 1) := by decide +kernel
theorem d_Mo_valueOf_54 : decode prog_8_method_16_code 54 = .ok (.goto 4, 3) := by decide +kernel
theorem d_Mo_valueOf_57 : decode prog_8_method_16_code 57 = .ok (.iconst 0, 1) := by decide +kernel
theorem d_Mo_valueOf_58 : decode prog_8_method_16_code 58 = .ok (.istore 5, 2) := by decide +kernel
theorem d_Mo_valueOf_60 : decode prog_8_method_16_code 60 = .ok (.aload_n 0, 1) := by decide +kernel
theorem d_Mo_valueOf_61 : decode prog_8_method_16_code 61 = .ok (.getfield 13, 3) := by decide +kernel
theorem d_Mo_valueOf_64 : decode prog_8_method_16_code 64 = .ok (.iload_n 1, 1) := by decide +kernel
theorem d_Mo_valueOf_65 : decode prog_8_method_16_code 65 = .ok (.iaload, 1) := by decide +kernel
theorem d_Mo_valueOf_66 : decode prog_8_method_16_code 66 = .ok (.tableswitch 205 0 13 #[70, 72, 205, 205, 205, 74, 85, 87, 102, 117, 137, 157, 173, 189], 70) := by decide +kernel
theorem d_Mo_valueOf_136 : decode prog_8_method_16_code 136 = .ok (.iconst 0, 1) := by decide +kernel
theorem d_Mo_valueOf_137 : decode prog_8_method_16_code 137 = .ok (.ireturn, 1) := by decide +kernel
theorem d_Mo_valueOf_138 : decode prog_8_method_16_code 138 = .ok (.iconst 1, 1) := by decide +kernel
theorem d_Mo_valueOf_139 : decode prog_8_method_16_code 139 = .ok (.ireturn, 1) := by decide +kernel
theorem d_Mo_valueOf_140 : decode prog_8_method_16_code 140 = .ok (.iload 5, 2) := by decide +kernel
theorem d_Mo_valueOf_142 : decode prog_8_method_16_code 142 = .ok (.ifCond .ne 7, 3) := by decide +kernel
theorem d_Mo_valueOf_145 : decode prog_8_method_16_code 145 = .ok (.iconst 1, 1) := by decide +kernel
theorem d_Mo_valueOf_146 : decode prog_8_method_16_code 146 = .ok (.goto 4, 3) := by decide +kernel
theorem d_Mo_valueOf_149 : decode prog_8_method_16_code 149 = .ok (.iconst 0, 1) := by decide +kernel
theorem d_Mo_valueOf_150 : decode prog_8_method_16_code 150 = .ok (.ireturn, 1) := by decide +kernel
theorem d_Mo_valueOf_151 : decode prog_8_method_16_code 151 = .ok (.iload_n 2, 1) := by decide +kernel
theorem d_Mo_valueOf_152 : decode prog_8_method_16_code 152 = .ok (.ireturn, 1) := by decide +kernel
theorem d_Mo_valueOf_153 : decode prog_8_method_16_code 153 = .ok (.iload 5, 2) := by decide +kernel
theorem d_Mo_valueOf_155 : decode prog_8_method_16_code 155 = .ok (.ifCond .ne 7, 3) := by decide +kernel
theorem d_Mo_valueOf_158 : decode prog_8_method_16_code 158 = .ok (.iload_n 2, 1) := by decide +kernel
theorem d_Mo_valueOf_159 : decode prog_8_method_16_code 159 = .ok (.ifCond .eq 7, 3) := by decide +kernel
theorem d_Mo_valueOf_162 : decode prog_8_method_16_code 162 = .ok (.iconst 1, 1) := by decide +kernel
theorem d_Mo_valueOf_163 : decode prog_8_method_16_code 163 = .ok (.goto 4, 3) := by decide +kernel
theorem d_Mo_valueOf_166 : decode prog_8_method_16_code 166 = .ok (.iconst 0, 1) := by decide +kernel
theorem d_Mo_valueOf_167 : decode prog_8_method_16_code 167 = .ok (.ireturn, 1) := by decide +kernel
theorem d_Mo_valueOf_168 : decode prog_8_method_16_code 168 = .ok (.iload 5, 2) := by decide +kernel
theorem d_Mo_valueOf_170 : decode prog_8_method_16_code 170 = .ok (.ifCond .eq 11, 3) := by decide +kernel
theorem d_Mo_valueOf_173 : decode prog_8_method_16_code 173 = .ok (.iload_n 2, 1) := by decide +kernel
theorem d_Mo_valueOf_174 : decode prog_8_method_16_code 174 = .ok (.ifCond .eq 7, 3) := by decide +kernel
theorem d_Mo_valueOf_177 : decode prog_8_method_16_code 177 = .ok (.iconst 1, 1) := by decide +kernel
theorem d_Mo_valueOf_178 : decode prog_8_method_16_code 178 = .ok (.goto 4, 3) := by decide +kernel
theorem d_Mo_valueOf_181 : decode prog_8_method_16_code 181 = .ok (.iconst 0, 1) := by decide +kernel
theorem d_Mo_valueOf_182 : decode prog_8_method_16_code 182 = .ok (.ireturn, 1) := by decide +kernel
theorem d_Mo_valueOf_183 : decode prog_8_method_16_code 183 = .ok (.iload 5, 2) := by decide +kernel
theorem d_Mo_valueOf_185 : decode prog_8_method_16_code 185 = .ok (.ifCond .ne 12, 3) := by decide +kernel
theorem d_Mo_valueOf_188 : decode prog_8_method_16_code 188 = .ok (.iload 4, 2) := by decide +kernel
theorem d_Mo_valueOf_190 : decode prog_8_method_16_code 190 = .ok (.ifCond .eq 11, 3) := by decide +kernel
theorem d_Mo_valueOf_193 : decode prog_8_method_16_code 193 = .ok (.iload_n 2, 1) := by decide +kernel
theorem d_Mo_valueOf_194 : decode prog_8_method_16_code 194 = .ok (.ifCond .eq 7, 3) := by decide +kernel
theorem d_Mo_valueOf_197 : decode prog_8_method_16_code 197 = .ok (.iconst 1, 1) := by decide +kernel
theorem d_Mo_valueOf_198 : decode prog_8_method_16_code 198 = .ok (.goto 4, 3) := by decide +kernel
theorem d_Mo_valueOf_201 : decode prog_8_method_16_code 201 = .ok (.iconst 0, 1) := by decide +kernel
theorem d_Mo_valueOf_202 : decode prog_8_method_16_code 202 = .ok (.ireturn, 1) := by decide +kernel
theorem d_Mo_valueOf_203 : decode prog_8_method_16_code 203 = .ok (.iload 5, 2) := by decide +kernel
theorem d_Mo_valueOf_205 : decode prog_8_method_16_code 205 = .ok (.ifCond .eq 16, 3) := by decide +kernel
theorem d_Mo_valueOf_208 : decode prog_8_method_16_code 208 = .ok (.iload 4, 2) := by decide +kernel
theorem d_Mo_valueOf_210 : decode prog_8_method_16_code 210 = .ok (.ifCond .ne 7, 3) := by decide +kernel
theorem d_Mo_valueOf_213 : decode prog_8_method_16_code 213 = .ok (.iload_n 2, 1) := by decide +kernel
theorem d_Mo_valueOf_214 : decode prog_8_method_16_code 214 = .ok (.ifCond .eq 7, 3) := by decide +kernel
theorem d_Mo_valueOf_217 : decode prog_8_method_16_code 217 = .ok (.iconst 1, 1) := by decide +kernel
theorem d_Mo_valueOf_218 : decode prog_8_method_16_code 218 = .ok (.goto 4, 3) := by decide +kernel
theorem d_Mo_valueOf_221 : decode prog_8_method_16_code 221 = .ok (.iconst 0, 1) := by decide +kernel
theorem d_Mo_valueOf_222 : decode prog_8_method_16_code 222 = .ok (.ireturn, 1) := by decide +kernel
theorem d_Mo_valueOf_223 : decode prog_8_method_16_code 223 = .ok (.iload 4, 2) := by decide +kernel
theorem d_Mo_valueOf_225 : decode prog_8_method_16_code 225 = .ok (.ifCond .eq 12, 3) := by decide +kernel
theorem d_Mo_valueOf_228 : decode prog_8_method_16_code 228 = .ok (.iload 5, 2) := by decide +kernel
theorem d_Mo_valueOf_230 : decode prog_8_method_16_code 230 = .ok (.ifCond .eq 7, 3) := by decide +kernel
theorem d_Mo_valueOf_233 : decode prog_8_method_16_code 233 = .ok (.iconst 1, 1) := by decide +kernel
theorem d_Mo_valueOf_234 : decode prog_8_method_16_code 234 = .ok (.goto 4, 3) := by decide +kernel
theorem d_Mo_valueOf_237 : decode prog_8_method_16_code 237 = .ok (.iconst 0, 1) := by decide +kernel
theorem d_Mo_valueOf_238 : decode prog_8_method_16_code 238 = .ok (.ireturn, 1) := by decide +kernel
theorem d_Mo_valueOf_239 : decode prog_8_method_16_code 239 = .ok (.iload 4, 2) := by decide +kernel
theorem d_Mo_valueOf_241 : decode prog_8_method_16_code 241 = .ok (.ifCond .ne 8, 3) := by decide +kernel
theorem d_Mo_valueOf_244 : decode prog_8_method_16_code 244 = .ok (.iload 5, 2) := by decide +kernel
theorem d_Mo_valueOf_246 : decode prog_8_method_16_code 246 = .ok (.ifCond .eq 7, 3) := by decide +kernel
theorem d_Mo_valueOf_249 : decode prog_8_method_16_code 249 = .ok (.iconst 1, 1) := by decide +kernel
theorem d_Mo_valueOf_250 : decode prog_8_method_16_code 250 = .ok (.goto 4, 3) := by decide +kernel
theorem d_Mo_valueOf_253 : decode prog_8_method_16_code 253 = .ok (.iconst 0, 1) := by decide +kernel
theorem d_Mo_valueOf_254 : decode prog_8_method_16_code 254 = .ok (.ireturn, 1) := by decide +kernel
theorem d_Mo_valueOf_255 : decode prog_8_method_16_code 255 = .ok (.iload 4, 2) := by decide +kernel
theorem d_Mo_valueOf_257 : decode prog_8_method_16_code 257 = .ok (.ifCond .eq 8, 3) := by decide +kernel
theorem d_Mo_valueOf_260 : decode prog_8_method_16_code 260 = .ok (.iload 5, 2) := by decide +kernel
theorem d_Mo_valueOf_262 : decode prog_8_method_16_code 262 = .ok (.ifCond .eq 7, 3) := by decide +kernel
theorem d_Mo_valueOf_265 : decode prog_8_method_16_code 265 = .ok (.iconst 1, 1) := by decide +kernel
theorem d_Mo_valueOf_266 : decode prog_8_method_16_code 266 = .ok (.goto 4, 3) := by decide +kernel
theorem d_Mo_valueOf_269 : decode prog_8_method_16_code 269 = .ok (.iconst 0, 1) := by decide +kernel
theorem d_Mo_valueOf_270 : decode prog_8_method_16_code 270 = .ok (.ireturn, 1) := by decide +kernel
theorem d_Mo_valueOf_271 : decode prog_8_method_16_code 271 = .ok (.iload_n 3, 1) := by decide +kernel
theorem d_Mo_valueOf_272 : decode prog_8_method_16_code 272 = .ok (.aload_n 0, 1) := by decide +kernel
theorem d_Mo_valueOf_273 : decode prog_8_method_16_code 273 = .ok (.getfield 13, 3) := by decide +kernel
theorem d_Mo_valueOf_276 : decode prog_8_method_16_code 276 = .ok (.iload_n 1, 1) := by decide +kernel
theorem d_Mo_valueOf_277 : decode prog_8_method_16_code 277 = .ok (.iaload, 1) := by decide +kernel
theorem d_Mo_valueOf_278 : decode prog_8_method_16_code 278 = .ok (.iconst 2, 1) := by decide +kernel
theorem d_Mo_valueOf_279 : decode prog_8_method_16_code 279 = .ok (.isub, 1) := by decide +kernel
theorem d_Mo_valueOf_280 : decode prog_8_method_16_code 280 = .ok (.ishr, 1) := by decide +kernel
theorem d_Mo_valueOf_281 : decode prog_8_method_16_code 281 = .ok (.iconst 1, 1) := by decide +kernel
theorem d_Mo_valueOf_282 : decode prog_8_method_16_code 282 = .ok (.iand, 1) := by decide +kernel
theorem d_Mo_valueOf_283 : decode prog_8_method_16_code 283 = .ok (.iconst 1, 1) := by decide +kernel
theorem d_Mo_valueOf_284 : decode prog_8_method_16_code 284 = .ok (.if_icmp .ne 7, 3) := by decide +kernel
theorem d_Mo_valueOf_287 : decode prog_8_method_16_code 287 = .ok (.iconst 1, 1) := by decide +kernel
theorem d_Mo_valueOf_288 : decode prog_8_method_16_code 288 = .ok (.goto 4, 3) := by decide +kernel
theorem d_Mo_valueOf_291 : decode prog_8_method_16_code 291 = .ok (.iconst 0, 1) := by decide +kernel
theorem d_Mo_valueOf_292 : decode prog_8_method_16_code 292 = .ok (.ireturn, 1) := by decide +kernel
theorem d_Mo_look_0 : decode prog_8_method_17_code 0 = .ok (.iconst 0, 1) := by decide +kernel
theorem d_Mo_look_1 : decode prog_8_method_17_code 1 = .ok (.istore_n 2, 1) := by decide +kernel
theorem d_Mo_look_2 : decode prog_8_method_17_code 2 = .ok (.iload_n 2, 1) := by decide +kernel
theorem d_Mo_look_3 : decode prog_8_method_17_code 3 = .ok (.aload_n 0, 1) := by decide +kernel
theorem d_Mo_look_4 : decode prog_8_method_17_code 4 = .ok (.getfield 150, 3) := by decide +kernel
theorem d_Mo_look_7 : decode prog_8_method_17_code 7 = .ok (.if_icmp .ge 56, 3) := by decide +kernel
theorem d_Mo_look_10 : decode prog_8_method_17_code 10 = .ok (.aload_n 0, 1) := by decide +kernel
theorem d_Mo_look_11 : decode prog_8_method_17_code 11 = .ok (.getfield 13, 3) := by decide +kernel
theorem d_Mo_look_14 : decode prog_8_method_17_code 14 = .ok (.iload_n 2, 1) := by decide +kernel
theorem d_Mo_look_15 : decode prog_8_method_17_code 15 = .ok (.iaload, 1) := by decide +kernel
theorem d_Mo_look_16 : decode prog_8_method_17_code 16 = .ok (.invokestatic 123, 3) := by decide +kernel
theorem d_Mo_look_19 : decode prog_8_method_17_code 19 = .ok (.ifCond .eq 23, 3) := by decide +kernel
theorem d_Mo_look_22 : decode prog_8_method_17_code 22 = .ok (.iload_n 1, 1) := by decide +kernel
theorem d_Mo_look_23 : decode prog_8_method_17_code 23 = .ok (.iconst 3, 1) := by decide +kernel
theorem d_Mo_look_24 : decode prog_8_method_17_code 24 = .ok (.aload_n 0, 1) := by decide +kernel
theorem d_Mo_look_25 : decode prog_8_method_17_code 25 = .ok (.getfield 22, 3) := by decide +kernel
theorem d_Mo_look_28 : decode prog_8_method_17_code 28 = .ok (.iload_n 2, 1) := by decide +kernel
theorem d_Mo_look_29 : decode prog_8_method_17_code 29 = .ok (.iaload, 1) := by decide +kernel
theorem d_Mo_look_30 : decode prog_8_method_17_code 30 = .ok (.iadd, 1) := by decide +kernel
theorem d_Mo_look_31 : decode prog_8_method_17_code 31 = .ok (.ishr, 1) := by decide +kernel
theorem d_Mo_look_32 : decode prog_8_method_17_code 32 = .ok (.iconst 1, 1) := by decide +kernel
theorem d_Mo_look_33 : decode prog_8_method_17_code 33 = .ok (.iand, 1) := by decide +kernel
theorem d_Mo_look_34 : decode prog_8_method_17_code 34 = .ok (.iconst 1, 1) := by decide +kernel
theorem d_Mo_look_35 : decode prog_8_method_17_code 35 = .ok (.if_icmp .ne 7, 3) := by decide +kernel
theorem d_Mo_look_38 : decode prog_8_method_17_code 38 = .ok (.iconst 1, 1) := by decide +kernel
theorem d_Mo_look_39 : decode prog_8_method_17_code 39 = .ok (.goto 4, 3) := by decide +kernel
theorem d_Mo_look_42 : decode prog_8_method_17_code 42 = .ok (.iconst 0, 1) := by decide +kernel
theorem d_Mo_look_43 : decode prog_8_method_17_code 43 = .ok (.istore_n 3, 1) := by decide +kernel
theorem d_Mo_look_44 : decode prog_8_method_17_code 44 = .ok (.aload_n 0, 1) := by decide +kernel
theorem d_Mo_look_45 : decode prog_8_method_17_code 45 = .ok (.getfield 62, 3) := by decide +kernel
theorem d_Mo_look_48 : decode prog_8_method_17_code 48 = .ok (.iload_n 2, 1) := by decide +kernel
theorem d_Mo_look_49 : decode prog_8_method_17_code 49 = .ok (.aload_n 0, 1) := by decide +kernel
theorem d_Mo_look_50 : decode prog_8_method_17_code 50 = .ok (.iload_n 2, 1) := by decide +kernel
theorem d_Mo_look_51 : decode prog_8_method_17_code 51 = .ok (.iload_n 3, 1) := by decide +kernel
theorem d_Mo_look_52 : decode prog_8_method_17_code 52 = .ok (.iload_n 1, 1) := by decide +kernel
theorem d_Mo_look_53 : decode prog_8_method_17_code 53 = .ok (.invokevirtual 171, 3) := by decide +kernel
theorem d_Mo_look_56 : decode prog_8_method_17_code 56 = .ok (.bastore, 1) := by decide +kernel
theorem d_Mo_look_57 : decode prog_8_method_17_code 57 = .ok (.iinc 2 1, 3) := by decide +kernel
theorem d_Mo_look_60 : decode prog_8_method_17_code 60 = .ok (.goto (-58), 3) := by decide +kernel
theorem d_Mo_look_63 : decode prog_8_method_17_code 63 = .ok (.aload_n 0, 1) := by decide +kernel
theorem d_Mo_look_64 : decode prog_8_method_17_code 64 = .ok (.getfield 52, 3) := by decide +kernel
theorem d_Mo_look_67 : decode prog_8_method_17_code 67 = .ok (.iload_n 1, 1) := by decide +kernel
theorem d_Mo_look_68 : decode prog_8_method_17_code 68 = .ok (.aload_n 0, 1) := by decide +kernel
theorem d_Mo_look_69 : decode prog_8_method_17_code 69 = .ok (.getfield 62, 3) := by decide +kernel
theorem d_Mo_look_72 : decode prog_8_method_17_code 72 = .ok (.aload_n 0, 1) := by decide +kernel
theorem d_Mo_look_73 : decode prog_8_method_17_code 73 = .ok (.getfield 150, 3) := by decide +kernel
theorem d_Mo_look_76 : decode prog_8_method_17_code 76 = .ok (.iconst 1, 1) := by decide +kernel
theorem d_Mo_look_77 : decode prog_8_method_17_code 77 = .ok (.isub, 1) := by decide +kernel
theorem d_Mo_look_78 : decode prog_8_method_17_code 78 = .ok (.baload, 1) := by decide +kernel
theorem d_Mo_look_79 : decode prog_8_method_17_code 79 = .ok (.bastore, 1) := by decide +kernel
theorem d_Mo_look_80 : decode prog_8_method_17_code 80 = .ok (.iconst 0, 1) := by decide +kernel
theorem d_Mo_look_81 : decode prog_8_method_17_code 81 = .ok (.istore_n 2, 1) := by decide +kernel
theorem d_Mo_look_82 : decode prog_8_method_17_code 82 = .ok (.iconst 0, 1) := by decide +kernel
theorem d_Mo_look_83 : decode prog_8_method_17_code 83 = .ok (.istore_n 3, 1) := by decide +kernel
theorem d_Mo_look_84 : decode prog_8_method_17_code 84 = .ok (.iload_n 3, 1) := by decide +kernel
theorem d_Mo_look_85 : decode prog_8_method_17_code 85 = .ok (.aload_n 0, 1) := by decide +kernel
theorem d_Mo_look_86 : decode prog_8_method_17_code 86 = .ok (.getfield 153, 3) := by decide +kernel
theorem d_Mo_look_89 : decode prog_8_method_17_code 89 = .ok (.if_icmp .ge 68, 3) := by decide +kernel
theorem d_Mo_look_92 : decode prog_8_method_17_code 92 = .ok (.aload_n 0, 1) := by decide +kernel
theorem d_Mo_look_93 : decode prog_8_method_17_code 93 = .ok (.getfield 25, 3) := by decide +kernel
theorem d_Mo_look_96 : decode prog_8_method_17_code 96 = .ok (.iload_n 3, 1) := by decide +kernel
theorem d_Mo_look_97 : decode prog_8_method_17_code 97 = .ok (.iaload, 1) := by decide +kernel
theorem d_Mo_look_98 : decode prog_8_method_17_code 98 = .ok (.istore 4, 2) := by decide +kernel
theorem d_Mo_look_100 : decode prog_8_method_17_code 100 = .ok (.aload_n 0, 1) := by decide +kernel
theorem d_Mo_look_101 : decode prog_8_method_17_code 101 = .ok (.getfield 13, 3) := by decide +kernel
theorem d_Mo_look_104 : decode prog_8_method_17_code 104 = .ok (.iload 4, 2) := by decide +kernel
theorem d_Mo_look_106 : decode prog_8_method_17_code 106 = .ok (.iaload, 1) := by decide +kernel
theorem d_Mo_look_107 : decode prog_8_method_17_code 107 = .ok (.bipush 6, 2) := by decide +kernel
theorem d_Mo_look_109 : decode prog_8_method_17_code 109 = .ok (.if_icmp .ne 18, 3) := by decide +kernel
theorem d_Mo_look_112 : decode prog_8_method_17_code 112 = .ok (.aload_n 0, 1) := by decide +kernel
theorem d_Mo_look_113 : decode prog_8_method_17_code 113 = .ok (.getfield 62, 3) := by decide +kernel
theorem d_Mo_look_116 : decode prog_8_method_17_code 116 = .ok (.aload_n 0, 1) := by decide +kernel
theorem d_Mo_look_117 : decode prog_8_method_17_code 117 = .ok (.getfield 19, 3) := by decide +kernel
theorem d_Mo_look_120 : decode prog_8_method_17_code 120 = .ok (.iload 4, 2) := by decide +kernel
theorem d_Mo_look_122 : decode prog_8_method_17_code 122 = .ok (.iaload, 1) := by decide +kernel
theorem d_Mo_look_123 : decode prog_8_method_17_code 123 = .ok (.baload, 1) := by decide +kernel
end
section
theorem d_Mo_look_124 : decode prog_8_method_17_code 124 = .ok (.goto 10, 3) := by decide +kernel
theorem d_Mo_look_127 : decode prog_8_method_17_code 127 = .ok (.aload_n 0, 1) := by decide +kernel
theorem d_Mo_look_128 : decode prog_8_method_17_code 128 = .ok (.getfield 62, 3) := by decide +kernel
theorem d_Mo_look_131 : decode prog_8_method_17_code 131 = .ok (.iload 4, 2) := by decide +kernel
theorem d_Mo_look_133 : decode prog_8_method_17_code 133 = .ok (.baload, 1) := by decide +kernel
theorem d_Mo_look_134 : decode prog_8_method_17_code 134 = .ok (.istore 5, 2) := by decide +kernel
theorem d_Mo_look_136 : decode prog_8_method_17_code 136 = .ok (.iload 5, 2) := by decide +kernel
theorem d_Mo_look_138 : decode prog_8_method_17_code 138 = .ok (.ifCond .eq 11, 3) := by decide +kernel
theorem d_Mo_look_141 : decode prog_8_method_17_code 141 = .ok (.iload_n 2, 1) := by decide +kernel
theorem d_Mo_look_142 : decode prog_8_method_17_code 142 = .ok (.iconst 1, 1) := by decide +kernel
theorem d_Mo_look_143 : decode prog_8_method_17_code 143 = .ok (.iload_n 3, 1) := by decide +kernel
theorem d_Mo_look_144 : decode prog_8_method_17_code 144 = .ok (.ishl, 1) := by decide +kernel
theorem d_Mo_look_145 : decode prog_8_method_17_code 145 = .ok (.ior, 1) := by decide +kernel
theorem d_Mo_look_146 : decode prog_8_method_17_code 146 = .ok (.goto 4, 3) := by decide +kernel
theorem d_Mo_look_149 : decode prog_8_method_17_code 149 = .ok (.iload_n 2, 1) := by decide +kernel
theorem d_Mo_look_150 : decode prog_8_method_17_code 150 = .ok (.istore_n 2, 1) := by decide +kernel
theorem d_Mo_look_151 : decode prog_8_method_17_code 151 = .ok (.iinc 3 1, 3) := by decide +kernel
theorem d_Mo_look_154 : decode prog_8_method_17_code 154 = .ok (.goto (-70), 3) := by decide +kernel
theorem d_Mo_look_157 : decode prog_8_method_17_code 157 = .ok (.aload_n 0, 1) := by decide +kernel
theorem d_Mo_look_158 : decode prog_8_method_17_code 158 = .ok (.getfield 49, 3) := by decide +kernel
theorem d_Mo_look_161 : decode prog_8_method_17_code 161 = .ok (.iload_n 1, 1) := by decide +kernel
theorem d_Mo_look_162 : decode prog_8_method_17_code 162 = .ok (.iload_n 2, 1) := by decide +kernel
theorem d_Mo_look_163 : decode prog_8_method_17_code 163 = .ok (.iastore, 1) := by decide +kernel
theorem d_Mo_look_164 : decode prog_8_method_17_code 164 = .ok (.iconst 0, 1) := by decide +kernel
theorem d_Mo_look_165 : decode prog_8_method_17_code 165 = .ok (.istore_n 3, 1) := by decide +kernel
theorem d_Mo_look_166 : decode prog_8_method_17_code 166 = .ok (.iconst 0, 1) := by decide +kernel
theorem d_Mo_look_167 : decode prog_8_method_17_code 167 = .ok (.istore 4, 2) := by decide +kernel
theorem d_Mo_look_169 : decode prog_8_method_17_code 169 = .ok (.iconst 0, 1) := by decide +kernel
theorem d_Mo_look_170 : decode prog_8_method_17_code 170 = .ok (.istore 5, 2) := by decide +kernel
theorem d_Mo_look_172 : decode prog_8_method_17_code 172 = .ok (.iload 5, 2) := by decide +kernel
theorem d_Mo_look_174 : decode prog_8_method_17_code 174 = .ok (.aload_n 0, 1) := by decide +kernel
theorem d_Mo_look_175 : decode prog_8_method_17_code 175 = .ok (.getfield 156, 3) := by decide +kernel
theorem d_Mo_look_178 : decode prog_8_method_17_code 178 = .ok (.if_icmp .ge 103, 3) := by decide +kernel
theorem d_Mo_look_181 : decode prog_8_method_17_code 181 = .ok (.aload_n 0, 1) := by decide +kernel
theorem d_Mo_look_182 : decode prog_8_method_17_code 182 = .ok (.getfield 28, 3) := by decide +kernel
theorem d_Mo_look_185 : decode prog_8_method_17_code 185 = .ok (.iload 5, 2) := by decide +kernel
theorem d_Mo_look_187 : decode prog_8_method_17_code 187 = .ok (.iaload, 1) := by decide +kernel
theorem d_Mo_look_188 : decode prog_8_method_17_code 188 = .ok (.istore 6, 2) := by decide +kernel
theorem d_Mo_look_190 : decode prog_8_method_17_code 190 = .ok (.aload_n 0, 1) := by decide +kernel
theorem d_Mo_look_191 : decode prog_8_method_17_code 191 = .ok (.getfield 13, 3) := by decide +kernel
theorem d_Mo_look_194 : decode prog_8_method_17_code 194 = .ok (.iload 6, 2) := by decide +kernel
theorem d_Mo_look_196 : decode prog_8_method_17_code 196 = .ok (.iaload, 1) := by decide +kernel
theorem d_Mo_look_197 : decode prog_8_method_17_code 197 = .ok (.bipush 7, 2) := by decide +kernel
theorem d_Mo_look_199 : decode prog_8_method_17_code 199 = .ok (.if_icmp .eq 15, 3) := by decide +kernel
theorem d_Mo_look_202 : decode prog_8_method_17_code 202 = .ok (.aload_n 0, 1) := by decide +kernel
theorem d_Mo_look_203 : decode prog_8_method_17_code 203 = .ok (.getfield 13, 3) := by decide +kernel
theorem d_Mo_look_206 : decode prog_8_method_17_code 206 = .ok (.iload 6, 2) := by decide +kernel
theorem d_Mo_look_208 : decode prog_8_method_17_code 208 = .ok (.iaload, 1) := by decide +kernel
theorem d_Mo_look_209 : decode prog_8_method_17_code 209 = .ok (.bipush 9, 2) := by decide +kernel
theorem d_Mo_look_211 : decode prog_8_method_17_code 211 = .ok (.if_icmp .ne 7, 3) := by decide +kernel
theorem d_Mo_look_214 : decode prog_8_method_17_code 214 = .ok (.iconst 1, 1) := by decide +kernel
theorem d_Mo_look_215 : decode prog_8_method_17_code 215 = .ok (.goto 4, 3) := by decide +kernel
theorem d_Mo_look_218 : decode prog_8_method_17_code 218 = .ok (.iconst 0, 1) := by decide +kernel
theorem d_Mo_look_219 : decode prog_8_method_17_code 219 = .ok (.istore 7, 2) := by decide +kernel
theorem d_Mo_look_221 : decode prog_8_method_17_code 221 = .ok (.aload_n 0, 1) := by decide +kernel
theorem d_Mo_look_222 : decode prog_8_method_17_code 222 = .ok (.getfield 62, 3) := by decide +kernel
theorem d_Mo_look_225 : decode prog_8_method_17_code 225 = .ok (.iload 6, 2) := by decide +kernel
theorem d_Mo_look_227 : decode prog_8_method_17_code 227 = .ok (.baload, 1) := by decide +kernel
theorem d_Mo_look_228 : decode prog_8_method_17_code 228 = .ok (.iload 7, 2) := by decide +kernel
theorem d_Mo_look_230 : decode prog_8_method_17_code 230 = .ok (.if_icmp .ne 12, 3) := by decide +kernel
theorem d_Mo_look_233 : decode prog_8_method_17_code 233 = .ok (.iload_n 3, 1) := by decide +kernel
theorem d_Mo_look_234 : decode prog_8_method_17_code 234 = .ok (.iconst 1, 1) := by decide +kernel
theorem d_Mo_look_235 : decode prog_8_method_17_code 235 = .ok (.iload 5, 2) := by decide +kernel
theorem d_Mo_look_237 : decode prog_8_method_17_code 237 = .ok (.ishl, 1) := by decide +kernel
theorem d_Mo_look_238 : decode prog_8_method_17_code 238 = .ok (.ior, 1) := by decide +kernel
theorem d_Mo_look_239 : decode prog_8_method_17_code 239 = .ok (.goto 4, 3) := by decide +kernel
theorem d_Mo_look_242 : decode prog_8_method_17_code 242 = .ok (.iload_n 3, 1) := by decide +kernel
theorem d_Mo_look_243 : decode prog_8_method_17_code 243 = .ok (.istore_n 3, 1) := by decide +kernel
theorem d_Mo_look_244 : decode prog_8_method_17_code 244 = .ok (.aload_n 0, 1) := by decide +kernel
theorem d_Mo_look_245 : decode prog_8_method_17_code 245 = .ok (.getfield 62, 3) := by decide +kernel
theorem d_Mo_look_248 : decode prog_8_method_17_code 248 = .ok (.aload_n 0, 1) := by decide +kernel
theorem d_Mo_look_249 : decode prog_8_method_17_code 249 = .ok (.getfield 19, 3) := by decide +kernel
theorem d_Mo_look_252 : decode prog_8_method_17_code 252 = .ok (.iload 6, 2) := by decide +kernel
theorem d_Mo_look_254 : decode prog_8_method_17_code 254 = .ok (.iaload, 1) := by decide +kernel
theorem d_Mo_look_255 : decode prog_8_method_17_code 255 = .ok (.baload, 1) := by decide +kernel
theorem d_Mo_look_256 : decode prog_8_method_17_code 256 = .ok (.iload 7, 2) := by decide +kernel
theorem d_Mo_look_258 : decode prog_8_method_17_code 258 = .ok (.if_icmp .ne 13, 3) := by decide +kernel
theorem d_Mo_look_261 : decode prog_8_method_17_code 261 = .ok (.iload 4, 2) := by decide +kernel
theorem d_Mo_look_263 : decode prog_8_method_17_code 263 = .ok (.iconst 1, 1) := by decide +kernel
theorem d_Mo_look_264 : decode prog_8_method_17_code 264 = .ok (.iload 5, 2) := by decide +kernel
theorem d_Mo_look_266 : decode prog_8_method_17_code 266 = .ok (.ishl, 1) := by decide +kernel
theorem d_Mo_look_267 : decode prog_8_method_17_code 267 = .ok (.ior, 1) := by decide +kernel
theorem d_Mo_look_268 : decode prog_8_method_17_code 268 = .ok (.goto 5, 3) := by decide +kernel
theorem d_Mo_look_271 : decode prog_8_method_17_code 271 = .ok (.iload 4, 2) := by decide +kernel
theorem d_Mo_look_273 : decode prog_8_method_17_code 273 = .ok (.istore 4, 2) := by decide +kernel
theorem d_Mo_look_275 : decode prog_8_method_17_code 275 = .ok (.iinc 5 1, 3) := by decide +kernel
theorem d_Mo_look_278 : decode prog_8_method_17_code 278 = .ok (.goto (-106), 3) := by decide +kernel
theorem d_Mo_look_281 : decode prog_8_method_17_code 281 = .ok (.aload_n 0, 1) := by decide +kernel
theorem d_Mo_look_282 : decode prog_8_method_17_code 282 = .ok (.getfield 56, 3) := by decide +kernel
theorem d_Mo_look_285 : decode prog_8_method_17_code 285 = .ok (.iload_n 1, 1) := by decide +kernel
theorem d_Mo_look_286 : decode prog_8_method_17_code 286 = .ok (.iload_n 3, 1) := by decide +kernel
theorem d_Mo_look_287 : decode prog_8_method_17_code 287 = .ok (.iastore, 1) := by decide +kernel
theorem d_Mo_look_288 : decode prog_8_method_17_code 288 = .ok (.aload_n 0, 1) := by decide +kernel
theorem d_Mo_look_289 : decode prog_8_method_17_code 289 = .ok (.getfield 59, 3) := by decide +kernel
theorem d_Mo_look_292 : decode prog_8_method_17_code 292 = .ok (.iload_n 1, 1) := by decide +kernel
theorem d_Mo_look_293 : decode prog_8_method_17_code 293 = .ok (.iload 4, 2) := by decide +kernel
theorem d_Mo_look_295 : decode prog_8_method_17_code 295 = .ok (.iastore, 1) := by decide +kernel
theorem d_Mo_look_296 : decode prog_8_method_17_code 296 = .ok (.return_, 1) := by decide +kernel
theorem d_Mo_goes_0 : decode prog_8_method_18_code 0 = .ok (.iload_n 1, 1) := by decide +kernel
theorem d_Mo_goes_1 : decode prog_8_method_18_code 1 = .ok (.iconst 3, 1) := by decide +kernel
theorem d_Mo_goes_2 : decode prog_8_method_18_code 2 = .ok (.ishr, 1) := by decide +kernel
theorem d_Mo_goes_3 : decode prog_8_method_18_code 3 = .ok (.aload_n 0, 1) := by decide +kernel
theorem d_Mo_goes_4 : decode prog_8_method_18_code 4 = .ok (.getfield 49, 3) := by decide +kernel
theorem d_Mo_goes_7 : decode prog_8_method_18_code 7 = .ok (.iload_n 2, 1) := by decide +kernel
theorem d_Mo_goes_8 : decode prog_8_method_18_code 8 = .ok (.iaload, 1) := by decide +kernel
theorem d_Mo_goes_9 : decode prog_8_method_18_code 9 = .ok (.if_icmp .ne 7, 3) := by decide +kernel
theorem d_Mo_goes_12 : decode prog_8_method_18_code 12 = .ok (.iconst 1, 1) := by decide +kernel
theorem d_Mo_goes_13 : decode prog_8_method_18_code 13 = .ok (.goto 4, 3) := by decide +kernel
theorem d_Mo_goes_16 : decode prog_8_method_18_code 16 = .ok (.iconst 0, 1) := by decide +kernel
theorem d_Mo_goes_17 : decode prog_8_method_18_code 17 = .ok (.ireturn, 1) := by decide +kernel
theorem d_Mo_noteSome_0 : decode prog_8_method_19_code 0 = .ok (.iconst 0, 1) := by decide +kernel
theorem d_Mo_noteSome_1 : decode prog_8_method_19_code 1 = .ok (.istore_n 1, 1) := by decide +kernel
theorem d_Mo_noteSome_2 : decode prog_8_method_19_code 2 = .ok (.iload_n 1, 1) := by decide +kernel
theorem d_Mo_noteSome_3 : decode prog_8_method_19_code 3 = .ok (.bipush 32, 2) := by decide +kernel
theorem d_Mo_noteSome_5 : decode prog_8_method_19_code 5 = .ok (.if_icmp .ge 16, 3) := by decide +kernel
theorem d_Mo_noteSome_8 : decode prog_8_method_19_code 8 = .ok (.aload_n 0, 1) := by decide +kernel
theorem d_Mo_noteSome_9 : decode prog_8_method_19_code 9 = .ok (.getfield 71, 3) := by decide +kernel
theorem d_Mo_noteSome_12 : decode prog_8_method_19_code 12 = .ok (.iload_n 1, 1) := by decide +kernel
theorem d_Mo_noteSome_13 : decode prog_8_method_19_code 13 = .ok (.iconst 0, 1) := by decide +kernel
theorem d_Mo_noteSome_14 : decode prog_8_method_19_code 14 = .ok (.bastore, 1) := by decide +kernel
theorem d_Mo_noteSome_15 : decode prog_8_method_19_code 15 = .ok (.iinc 1 1, 3) := by decide +kernel
theorem d_Mo_noteSome_18 : decode prog_8_method_19_code 18 = .ok (.goto (-16), 3) := by decide +kernel
theorem d_Mo_noteSome_21 : decode prog_8_method_19_code 21 = .ok (.iconst 0, 1) := by decide +kernel
theorem d_Mo_noteSome_22 : decode prog_8_method_19_code 22 = .ok (.istore_n 1, 1) := by decide +kernel
theorem d_Mo_noteSome_23 : decode prog_8_method_19_code 23 = .ok (.iload_n 1, 1) := by decide +kernel
theorem d_Mo_noteSome_24 : decode prog_8_method_19_code 24 = .ok (.aload_n 0, 1) := by decide +kernel
theorem d_Mo_noteSome_25 : decode prog_8_method_19_code 25 = .ok (.invokevirtual 159, 3) := by decide +kernel
theorem d_Mo_noteSome_28 : decode prog_8_method_19_code 28 = .ok (.if_icmp .ge 48, 3) := by decide +kernel
theorem d_Mo_noteSome_31 : decode prog_8_method_19_code 31 = .ok (.aload_n 0, 1) := by decide +kernel
theorem d_Mo_noteSome_32 : decode prog_8_method_19_code 32 = .ok (.getfield 71, 3) := by decide +kernel
theorem d_Mo_noteSome_35 : decode prog_8_method_19_code 35 = .ok (.aload_n 0, 1) := by decide +kernel
theorem d_Mo_noteSome_36 : decode prog_8_method_19_code 36 = .ok (.getfield 49, 3) := by decide +kernel
theorem d_Mo_noteSome_39 : decode prog_8_method_19_code 39 = .ok (.iload_n 1, 1) := by decide +kernel
theorem d_Mo_noteSome_40 : decode prog_8_method_19_code 40 = .ok (.iaload, 1) := by decide +kernel
theorem d_Mo_noteSome_41 : decode prog_8_method_19_code 41 = .ok (.aload_n 0, 1) := by decide +kernel
theorem d_Mo_noteSome_42 : decode prog_8_method_19_code 42 = .ok (.getfield 71, 3) := by decide +kernel
theorem d_Mo_noteSome_45 : decode prog_8_method_19_code 45 = .ok (.aload_n 0, 1) := by decide +kernel
theorem d_Mo_noteSome_46 : decode prog_8_method_19_code 46 = .ok (.getfield 49, 3) := by decide +kernel
theorem d_Mo_noteSome_49 : decode prog_8_method_19_code 49 = .ok (.iload_n 1, 1) := by decide +kernel
theorem d_Mo_noteSome_50 : decode prog_8_method_19_code 50 = .ok (.iaload, 1) := by decide +kernel
theorem d_Mo_noteSome_51 : decode prog_8_method_19_code 51 = .ok (.baload, 1) := by decide +kernel
theorem d_Mo_noteSome_52 : decode prog_8_method_19_code 52 = .ok (.ifCond .ne 12, 3) := by decide +kernel
theorem d_Mo_noteSome_55 : decode prog_8_method_19_code 55 = .ok (.aload_n 0, 1) := by decide +kernel
theorem d_Mo_noteSome_56 : decode prog_8_method_19_code 56 = .ok (.getfield 68, 3) := by decide +kernel
theorem d_Mo_noteSome_59 : decode prog_8_method_19_code 59 = .ok (.iload_n 1, 1) := by decide +kernel
theorem d_Mo_noteSome_60 : decode prog_8_method_19_code 60 = .ok (.baload, 1) := by decide +kernel
theorem d_Mo_noteSome_61 : decode prog_8_method_19_code 61 = .ok (.ifCond .eq 7, 3) := by decide +kernel
theorem d_Mo_noteSome_64 : decode prog_8_method_19_code 64 = .ok (.iconst 1, 1) := by decide +kernel
theorem d_Mo_noteSome_65 : decode prog_8_method_19_code 65 = .ok (.goto 4, 3) := by decide +kernel
theorem d_Mo_noteSome_68 : decode prog_8_method_19_code 68 = .ok (.iconst 0, 1) := by decide +kernel
theorem d_Mo_noteSome_69 : decode prog_8_method_19_code 69 = .ok (.bastore, 1) := by decide +kernel
theorem d_Mo_noteSome_70 : decode prog_8_method_19_code 70 = .ok (.iinc 1 1, 3) := by decide +kernel
theorem d_Mo_noteSome_73 : decode prog_8_method_19_code 73 = .ok (.goto (-50), 3) := by decide +kernel
theorem d_Mo_noteSome_76 : decode prog_8_method_19_code 76 = .ok (.return_, 1) := by decide +kernel
theorem d_Mo_leadsToOne_0 : decode prog_8_method_20_code 0 = .ok (.aload_n 0, 1) := by decide +kernel
theorem d_Mo_leadsToOne_1 : decode prog_8_method_20_code 1 = .ok (.getfield 71, 3) := by decide +kernel
theorem d_Mo_leadsToOne_4 : decode prog_8_method_20_code 4 = .ok (.iload_n 1, 1) := by decide +kernel
theorem d_Mo_leadsToOne_5 : decode prog_8_method_20_code 5 = .ok (.iconst 3, 1) := by decide +kernel
theorem d_Mo_leadsToOne_6 : decode prog_8_method_20_code 6 = .ok (.ishr, 1) := by decide +kernel
theorem d_Mo_leadsToOne_7 : decode prog_8_method_20_code 7 = .ok (.baload, 1) := by decide +kernel
theorem d_Mo_leadsToOne_8 : decode prog_8_method_20_code 8 = .ok (.ireturn, 1) := by decide +kernel
theorem d_Mo_countSteps_0 : decode prog_8_method_21_code 0 = .ok (.iconst 0, 1) := by decide +kernel
theorem d_Mo_countSteps_1 : decode prog_8_method_21_code 1 = .ok (.istore_n 2, 1) := by decide +kernel
theorem d_Mo_countSteps_2 : decode prog_8_method_21_code 2 = .ok (.iload_n 2, 1) := by decide +kernel
theorem d_Mo_countSteps_3 : decode prog_8_method_21_code 3 = .ok (.aload_n 0, 1) := by decide +kernel
theorem d_Mo_countSteps_4 : decode prog_8_method_21_code 4 = .ok (.invokevirtual 159, 3) := by decide +kernel
theorem d_Mo_countSteps_7 : decode prog_8_method_21_code 7 = .ok (.if_icmp .ge 49, 3) := by decide +kernel
theorem d_Mo_countSteps_10 : decode prog_8_method_21_code 10 = .ok (.aload_n 0, 1) := by decide +kernel
theorem d_Mo_countSteps_11 : decode prog_8_method_21_code 11 = .ok (.getfield 74, 3) := by decide +kernel
theorem d_Mo_countSteps_14 : decode prog_8_method_21_code 14 = .ok (.sipush 256, 3) := by decide +kernel
theorem d_Mo_countSteps_17 : decode prog_8_method_21_code 17 = .ok (.iload_n 1, 1) := by decide +kernel
theorem d_Mo_countSteps_18 : decode prog_8_method_21_code 18 = .ok (.imul, 1) := by decide +kernel
theorem d_Mo_countSteps_19 : decode prog_8_method_21_code 19 = .ok (.iload_n 2, 1) := by decide +kernel
theorem d_Mo_countSteps_20 : decode prog_8_method_21_code 20 = .ok (.iadd, 1) := by decide +kernel
theorem d_Mo_countSteps_21 : decode prog_8_method_21_code 21 = .ok (.aload_n 0, 1) := by decide +kernel
theorem d_Mo_countSteps_22 : decode prog_8_method_21_code 22 = .ok (.getfield 65, 3) := by decide +kernel
theorem d_Mo_countSteps_25 : decode prog_8_method_21_code 25 = .ok (.iload_n 2, 1) := by decide +kernel
theorem d_Mo_countSteps_26 : decode prog_8_method_21_code 26 = .ok (.baload, 1) := by decide +kernel
theorem d_Mo_countSteps_27 : decode prog_8_method_21_code 27 = .ok (.ifCond .eq 21, 3) := by decide +kernel
theorem d_Mo_countSteps_30 : decode prog_8_method_21_code 30 = .ok (.aload_n 0, 1) := by decide +kernel
theorem d_Mo_countSteps_31 : decode prog_8_method_21_code 31 = .ok (.getfield 59, 3) := by decide +kernel
theorem d_Mo_countSteps_34 : decode prog_8_method_21_code 34 = .ok (.iload_n 2, 1) := by decide +kernel
theorem d_Mo_countSteps_35 : decode prog_8_method_21_code 35 = .ok (.iaload, 1) := by decide +kernel
theorem d_Mo_countSteps_36 : decode prog_8_method_21_code 36 = .ok (.iload_n 1, 1) := by decide +kernel
theorem d_Mo_countSteps_37 : decode prog_8_method_21_code 37 = .ok (.ishr, 1) := by decide +kernel
theorem d_Mo_countSteps_38 : decode prog_8_method_21_code 38 = .ok (.iconst 1, 1) := by decide +kernel
theorem d_Mo_countSteps_39 : decode prog_8_method_21_code 39 = .ok (.iand, 1) := by decide +kernel
theorem d_Mo_countSteps_40 : decode prog_8_method_21_code 40 = .ok (.iconst 1, 1) := by decide +kernel
theorem d_Mo_countSteps_41 : decode prog_8_method_21_code 41 = .ok (.if_icmp .ne 7, 3) := by decide +kernel
theorem d_Mo_countSteps_44 : decode prog_8_method_21_code 44 = .ok (.iconst 0, 1) := by decide +kernel
theorem d_Mo_countSteps_45 : decode prog_8_method_21_code 45 = .ok (.goto 4, 3) := by decide +kernel
theorem d_Mo_countSteps_48 : decode prog_8_method_21_code 48 = .ok (.iconst (-1), 1) := by decide +kernel
theorem d_Mo_countSteps_49 : decode prog_8_method_21_code 49 = .ok (.iastore, 1) := by decide +kernel
theorem d_Mo_countSteps_50 : decode prog_8_method_21_code 50 = .ok (.iinc 2 1, 3) := by decide +kernel
theorem d_Mo_countSteps_53 : decode prog_8_method_21_code 53 = .ok (.goto (-51), 3) := by decide +kernel
theorem d_Mo_countSteps_56 : decode prog_8_method_21_code 56 = .ok (.iconst 1, 1) := by decide +kernel
theorem d_Mo_countSteps_57 : decode prog_8_method_21_code 57 = .ok (.istore_n 2, 1) := by decide +kernel
theorem d_Mo_countSteps_58 : decode prog_8_method_21_code 58 = .ok (.iconst 0, 1) := by decide +kernel
theorem d_Mo_countSteps_59 : decode prog_8_method_21_code 59 = .ok (.istore_n 3, 1) := by decide +kernel
theorem d_Mo_countSteps_60 : decode prog_8_method_21_code 60 = .ok (.iload_n 2, 1) := by decide +kernel
theorem d_Mo_countSteps_61 : decode prog_8_method_21_code 61 = .ok (.ifCond .eq 133, 3) := by decide +kernel
theorem d_Mo_countSteps_64 : decode prog_8_method_21_code 64 = .ok (.iconst 0, 1) := by decide +kernel
theorem d_Mo_countSteps_65 : decode prog_8_method_21_code 65 = .ok (.istore_n 2, 1) := by decide +kernel
theorem d_Mo_countSteps_66 : decode prog_8_method_21_code 66 = .ok (.iconst 0, 1) := by decide +kernel
theorem d_Mo_countSteps_67 : decode prog_8_method_21_code 67 = .ok (.istore 4, 2) := by decide +kernel
theorem d_Mo_countSteps_69 : decode prog_8_method_21_code 69 = .ok (.iload 4, 2) := by decide +kernel
theorem d_Mo_countSteps_71 : decode prog_8_method_21_code 71 = .ok (.aload_n 0, 1) := by decide +kernel
theorem d_Mo_countSteps_72 : decode prog_8_method_21_code 72 = .ok (.invokevirtual 159, 3) := by decide +kernel
theorem d_Mo_countSteps_75 : decode prog_8_method_21_code 75 = .ok (.if_icmp .ge 38, 3) := by decide +kernel
theorem d_Mo_countSteps_78 : decode prog_8_method_21_code 78 = .ok (.aload_n 0, 1) := by decide +kernel
theorem d_Mo_countSteps_79 : decode prog_8_method_21_code 79 = .ok (.getfield 68, 3) := by decide +kernel
theorem d_Mo_countSteps_82 : decode prog_8_method_21_code 82 = .ok (.iload 4, 2) := by decide +kernel
theorem d_Mo_countSteps_84 : decode prog_8_method_21_code 84 = .ok (.aload_n 0, 1) := by decide +kernel
theorem d_Mo_countSteps_85 : decode prog_8_method_21_code 85 = .ok (.getfield 74, 3) := by decide +kernel
theorem d_Mo_countSteps_88 : decode prog_8_method_21_code 88 = .ok (.sipush 256, 3) := by decide +kernel
theorem d_Mo_countSteps_91 : decode prog_8_method_21_code 91 = .ok (.iload_n 1, 1) := by decide +kernel
theorem d_Mo_countSteps_92 : decode prog_8_method_21_code 92 = .ok (.imul, 1) := by decide +kernel
theorem d_Mo_countSteps_93 : decode prog_8_method_21_code 93 = .ok (.iload 4, 2) := by decide +kernel
theorem d_Mo_countSteps_95 : decode prog_8_method_21_code 95 = .ok (.iadd, 1) := by decide +kernel
theorem d_Mo_countSteps_96 : decode prog_8_method_21_code 96 = .ok (.iaload, 1) := by decide +kernel
theorem d_Mo_countSteps_97 : decode prog_8_method_21_code 97 = .ok (.iload_n 3, 1) := by decide +kernel
theorem d_Mo_countSteps_98 : decode prog_8_method_21_code 98 = .ok (.if_icmp .ne 7, 3) := by decide +kernel
theorem d_Mo_countSteps_101 : decode prog_8_method_21_code 101 = .ok (.iconst 1, 1) := by decide +kernel
theorem d_Mo_countSteps_102 : decode prog_8_method_21_code 102 = .ok (.goto 4, 3) := by decide +kernel
theorem d_Mo_countSteps_105 : decode prog_8_method_21_code 105 = .ok (.iconst 0, 1) := by decide +kernel
theorem d_Mo_countSteps_106 : decode prog_8_method_21_code 106 = .ok (.bastore, 1) := by decide +kernel
theorem d_Mo_countSteps_107 : decode prog_8_method_21_code 107 = .ok (.iinc 4 1, 3) := by decide +kernel
theorem d_Mo_countSteps_110 : decode prog_8_method_21_code 110 = .ok (.goto (-41), 3) := by decide +kernel
theorem d_Mo_countSteps_113 : decode prog_8_method_21_code 113 = .ok (.aload_n 0, 1) := by decide +kernel
theorem d_Mo_countSteps_114 : decode prog_8_method_21_code 114 = .ok (.invokevirtual 175, 3) := by decide +kernel
theorem d_Mo_countSteps_117 : decode prog_8_method_21_code 117 = .ok (.iconst 0, 1) := by decide +kernel
theorem d_Mo_countSteps_118 : decode prog_8_method_21_code 118 = .ok (.istore 4, 2) := by decide +kernel
theorem d_Mo_countSteps_120 : decode prog_8_method_21_code 120 = .ok (.iload 4, 2) := by decide +kernel
theorem d_Mo_countSteps_122 : decode prog_8_method_21_code 122 = .ok (.aload_n 0, 1) := by decide +kernel
theorem d_Mo_countSteps_123 : decode prog_8_method_21_code 123 = .ok (.invokevirtual 159, 3) := by decide +kernel
theorem d_Mo_countSteps_126 : decode prog_8_method_21_code 126 = .ok (.if_icmp .ge 62, 3) := by decide +kernel
theorem d_Mo_countSteps_129 : decode prog_8_method_21_code 129 = .ok (.aload_n 0, 1) := by decide +kernel
theorem d_Mo_countSteps_130 : decode prog_8_method_21_code 130 = .ok (.getfield 65, 3) := by decide +kernel
theorem d_Mo_countSteps_133 : decode prog_8_method_21_code 133 = .ok (.iload 4, 2) := by decide +kernel
theorem d_Mo_countSteps_135 : decode prog_8_method_21_code 135 = .ok (.baload, 1) := by decide +kernel
theorem d_Mo_countSteps_136 : decode prog_8_method_21_code 136 = .ok (.ifCond .eq 46, 3) := by decide +kernel
theorem d_Mo_countSteps_139 : decode prog_8_method_21_code 139 = .ok (.aload_n 0, 1) := by decide +kernel
theorem d_Mo_countSteps_140 : decode prog_8_method_21_code 140 = .ok (.getfield 74, 3) := by decide +kernel
theorem d_Mo_countSteps_143 : decode prog_8_method_21_code 143 = .ok (.sipush 256, 3) := by decide +kernel
theorem d_Mo_countSteps_146 : decode prog_8_method_21_code 146 = .ok (.iload_n 1, 1) := by decide +kernel
theorem d_Mo_countSteps_147 : decode prog_8_method_21_code 147 = .ok (.imul, 1) := by decide +kernel
theorem d_Mo_countSteps_148 : decode prog_8_method_21_code 148 = .ok (.iload 4, 2) := by decide +kernel
theorem d_Mo_countSteps_150 : decode prog_8_method_21_code 150 = .ok (.iadd, 1) := by decide +kernel
theorem d_Mo_countSteps_151 : decode prog_8_method_21_code 151 = .ok (.iaload, 1) := by decide +kernel
theorem d_Mo_countSteps_152 : decode prog_8_method_21_code 152 = .ok (.ifCond .ge 30, 3) := by decide +kernel
theorem d_Mo_countSteps_155 : decode prog_8_method_21_code 155 = .ok (.aload_n 0, 1) := by decide +kernel
theorem d_Mo_countSteps_156 : decode prog_8_method_21_code 156 = .ok (.iload 4, 2) := by decide +kernel
theorem d_Mo_countSteps_158 : decode prog_8_method_21_code 158 = .ok (.invokevirtual 178, 3) := by decide +kernel
theorem d_Mo_countSteps_161 : decode prog_8_method_21_code 161 = .ok (.ifCond .eq 21, 3) := by decide +kernel
theorem d_Mo_countSteps_164 : decode prog_8_method_21_code 164 = .ok (.aload_n 0, 1) := by decide +kernel
theorem d_Mo_countSteps_165 : decode prog_8_method_21_code 165 = .ok (.getfield 74, 3) := by decide +kernel
theorem d_Mo_countSteps_168 : decode prog_8_method_21_code 168 = .ok (.sipush 256, 3) := by decide +kernel
theorem d_Mo_countSteps_171 : decode prog_8_method_21_code 171 = .ok (.iload_n 1, 1) := by decide +kernel
theorem d_Mo_countSteps_172 : decode prog_8_method_21_code 172 = .ok (.imul, 1) := by decide +kernel
theorem d_Mo_countSteps_173 : decode prog_8_method_21_code 173 = .ok (.iload 4, 2) := by decide +kernel
theorem d_Mo_countSteps_175 : decode prog_8_method_21_code 175 = .ok (.iadd, 1) := by decide +kernel
theorem d_Mo_countSteps_176 : decode prog_8_method_21_code 176 = .ok (.iload_n 3, 1) := by decide +kernel
theorem d_Mo_countSteps_177 : decode prog_8_method_21_code 177 = .ok (.iconst 1, 1) := by decide +kernel
theorem d_Mo_countSteps_178 : decode prog_8_method_21_code 178 = .ok (.iadd, 1) := by decide +kernel
theorem d_Mo_countSteps_179 : decode prog_8_method_21_code 179 = .ok (.iastore, 1) := by decide +kernel
theorem d_Mo_countSteps_180 : decode prog_8_method_21_code 180 = .ok (.iconst 1, 1) := by decide +kernel
theorem d_Mo_countSteps_181 : decode prog_8_method_21_code 181 = .ok (.istore_n 2, 1) := by decide +kernel
theorem d_Mo_countSteps_182 : decode prog_8_method_21_code 182 = .ok (.iinc 4 1, 3) := by decide +kernel
theorem d_Mo_countSteps_185 : decode prog_8_method_21_code 185 = .ok (.goto (-65), 3) := by decide +kernel
theorem d_Mo_countSteps_188 : decode prog_8_method_21_code 188 = .ok (.iinc 3 1, 3) := by decide +kernel
theorem d_Mo_countSteps_191 : decode prog_8_method_21_code 191 = .ok (.goto (-131), 3) := by decide +kernel
theorem d_Mo_countSteps_194 : decode prog_8_method_21_code 194 = .ok (.return_, 1) := by decide +kernel
theorem d_Mo_takeOut_0 : decode prog_8_method_22_code 0 = .ok (.iconst 0, 1) := by decide +kernel
theorem d_Mo_takeOut_1 : decode prog_8_method_22_code 1 = .ok (.istore_n 1, 1) := by decide +kernel
theorem d_Mo_takeOut_2 : decode prog_8_method_22_code 2 = .ok (.iload_n 1, 1) := by decide +kernel
theorem d_Mo_takeOut_3 : decode prog_8_method_22_code 3 = .ok (.aload_n 0, 1) := by decide +kernel
theorem d_Mo_takeOut_4 : decode prog_8_method_22_code 4 = .ok (.invokevirtual 159, 3) := by decide +kernel
theorem d_Mo_takeOut_7 : decode prog_8_method_22_code 7 = .ok (.if_icmp .ge 16, 3) := by decide +kernel
theorem d_Mo_takeOut_10 : decode prog_8_method_22_code 10 = .ok (.aload_n 0, 1) := by decide +kernel
theorem d_Mo_takeOut_11 : decode prog_8_method_22_code 11 = .ok (.getfield 65, 3) := by decide +kernel
theorem d_Mo_takeOut_14 : decode prog_8_method_22_code 14 = .ok (.iload_n 1, 1) := by decide +kernel
theorem d_Mo_takeOut_15 : decode prog_8_method_22_code 15 = .ok (.iconst 1, 1) := by decide +kernel
theorem d_Mo_takeOut_16 : decode prog_8_method_22_code 16 = .ok (.bastore, 1) := by decide +kernel
theorem d_Mo_takeOut_17 : decode prog_8_method_22_code 17 = .ok (.iinc 1 1, 3) := by decide +kernel
theorem d_Mo_takeOut_20 : decode prog_8_method_22_code 20 = .ok (.goto (-18), 3) := by decide +kernel
theorem d_Mo_takeOut_23 : decode prog_8_method_22_code 23 = .ok (.iconst 1, 1) := by decide +kernel
theorem d_Mo_takeOut_24 : decode prog_8_method_22_code 24 = .ok (.istore_n 1, 1) := by decide +kernel
theorem d_Mo_takeOut_25 : decode prog_8_method_22_code 25 = .ok (.iload_n 1, 1) := by decide +kernel
theorem d_Mo_takeOut_26 : decode prog_8_method_22_code 26 = .ok (.ifCond .eq 166, 3) := by decide +kernel
theorem d_Mo_takeOut_29 : decode prog_8_method_22_code 29 = .ok (.iconst 0, 1) := by decide +kernel
theorem d_Mo_takeOut_30 : decode prog_8_method_22_code 30 = .ok (.istore_n 1, 1) := by decide +kernel
theorem d_Mo_takeOut_31 : decode prog_8_method_22_code 31 = .ok (.iconst 0, 1) := by decide +kernel
theorem d_Mo_takeOut_32 : decode prog_8_method_22_code 32 = .ok (.istore_n 2, 1) := by decide +kernel
theorem d_Mo_takeOut_33 : decode prog_8_method_22_code 33 = .ok (.iload_n 2, 1) := by decide +kernel
theorem d_Mo_takeOut_34 : decode prog_8_method_22_code 34 = .ok (.aload_n 0, 1) := by decide +kernel
theorem d_Mo_takeOut_35 : decode prog_8_method_22_code 35 = .ok (.getfield 156, 3) := by decide +kernel
theorem d_Mo_takeOut_38 : decode prog_8_method_22_code 38 = .ok (.if_icmp .ge 77, 3) := by decide +kernel
theorem d_Mo_takeOut_41 : decode prog_8_method_22_code 41 = .ok (.aload_n 0, 1) := by decide +kernel
theorem d_Mo_takeOut_42 : decode prog_8_method_22_code 42 = .ok (.iload_n 2, 1) := by decide +kernel
theorem d_Mo_takeOut_43 : decode prog_8_method_22_code 43 = .ok (.invokevirtual 181, 3) := by decide +kernel
theorem d_Mo_takeOut_46 : decode prog_8_method_22_code 46 = .ok (.iconst 0, 1) := by decide +kernel
theorem d_Mo_takeOut_47 : decode prog_8_method_22_code 47 = .ok (.istore_n 3, 1) := by decide +kernel
theorem d_Mo_takeOut_48 : decode prog_8_method_22_code 48 = .ok (.iload_n 3, 1) := by decide +kernel
theorem d_Mo_takeOut_49 : decode prog_8_method_22_code 49 = .ok (.aload_n 0, 1) := by decide +kernel
theorem d_Mo_takeOut_50 : decode prog_8_method_22_code 50 = .ok (.invokevirtual 159, 3) := by decide +kernel
theorem d_Mo_takeOut_53 : decode prog_8_method_22_code 53 = .ok (.if_icmp .ge 56, 3) := by decide +kernel
theorem d_Mo_takeOut_56 : decode prog_8_method_22_code 56 = .ok (.aload_n 0, 1) := by decide +kernel
theorem d_Mo_takeOut_57 : decode prog_8_method_22_code 57 = .ok (.getfield 65, 3) := by decide +kernel
theorem d_Mo_takeOut_60 : decode prog_8_method_22_code 60 = .ok (.iload_n 3, 1) := by decide +kernel
theorem d_Mo_takeOut_61 : decode prog_8_method_22_code 61 = .ok (.baload, 1) := by decide +kernel
theorem d_Mo_takeOut_62 : decode prog_8_method_22_code 62 = .ok (.ifCond .eq 41, 3) := by decide +kernel
theorem d_Mo_takeOut_65 : decode prog_8_method_22_code 65 = .ok (.aload_n 0, 1) := by decide +kernel
theorem d_Mo_takeOut_66 : decode prog_8_method_22_code 66 = .ok (.getfield 56, 3) := by decide +kernel
theorem d_Mo_takeOut_69 : decode prog_8_method_22_code 69 = .ok (.iload_n 3, 1) := by decide +kernel
theorem d_Mo_takeOut_70 : decode prog_8_method_22_code 70 = .ok (.iaload, 1) := by decide +kernel
theorem d_Mo_takeOut_71 : decode prog_8_method_22_code 71 = .ok (.iload_n 2, 1) := by decide +kernel
theorem d_Mo_takeOut_72 : decode prog_8_method_22_code 72 = .ok (.ishr, 1) := by decide +kernel
theorem d_Mo_takeOut_73 : decode prog_8_method_22_code 73 = .ok (.iconst 1, 1) := by decide +kernel
theorem d_Mo_takeOut_74 : decode prog_8_method_22_code 74 = .ok (.iand, 1) := by decide +kernel
theorem d_Mo_takeOut_75 : decode prog_8_method_22_code 75 = .ok (.iconst 1, 1) := by decide +kernel
theorem d_Mo_takeOut_76 : decode prog_8_method_22_code 76 = .ok (.if_icmp .ne 27, 3) := by decide +kernel
theorem d_Mo_takeOut_79 : decode prog_8_method_22_code 79 = .ok (.aload_n 0, 1) := by decide +kernel
theorem d_Mo_takeOut_80 : decode prog_8_method_22_code 80 = .ok (.getfield 74, 3) := by decide +kernel
theorem d_Mo_takeOut_83 : decode prog_8_method_22_code 83 = .ok (.sipush 256, 3) := by decide +kernel
theorem d_Mo_takeOut_86 : decode prog_8_method_22_code 86 = .ok (.iload_n 2, 1) := by decide +kernel
theorem d_Mo_takeOut_87 : decode prog_8_method_22_code 87 = .ok (.imul, 1) := by decide +kernel
theorem d_Mo_takeOut_88 : decode prog_8_method_22_code 88 = .ok (.iload_n 3, 1) := by decide +kernel
theorem d_Mo_takeOut_89 : decode prog_8_method_22_code 89 = .ok (.iadd, 1) := by decide +kernel
theorem d_Mo_takeOut_90 : decode prog_8_method_22_code 90 = .ok (.iaload, 1) := by decide +kernel
theorem d_Mo_takeOut_91 : decode prog_8_method_22_code 91 = .ok (.ifCond .ge 12, 3) := by decide +kernel
theorem d_Mo_takeOut_94 : decode prog_8_method_22_code 94 = .ok (.aload_n 0, 1) := by decide +kernel
theorem d_Mo_takeOut_95 : decode prog_8_method_22_code 95 = .ok (.getfield 65, 3) := by decide +kernel
theorem d_Mo_takeOut_98 : decode prog_8_method_22_code 98 = .ok (.iload_n 3, 1) := by decide +kernel
theorem d_Mo_takeOut_99 : decode prog_8_method_22_code 99 = .ok (.iconst 0, 1) := by decide +kernel
theorem d_Mo_takeOut_100 : decode prog_8_method_22_code 100 = .ok (.bastore, 1) := by decide +kernel
theorem d_Mo_takeOut_101 : decode prog_8_method_22_code 101 = .ok (.iconst 1, 1) := by decide +kernel
theorem d_Mo_takeOut_102 : decode prog_8_method_22_code 102 = .ok (.istore_n 1, 1) := by decide +kernel
theorem d_Mo_takeOut_103 : decode prog_8_method_22_code 103 = .ok (.iinc 3 1, 3) := by decide +kernel
theorem d_Mo_takeOut_106 : decode prog_8_method_22_code 106 = .ok (.goto (-58), 3) := by decide +kernel
theorem d_Mo_takeOut_109 : decode prog_8_method_22_code 109 = .ok (.iinc 2 1, 3) := by decide +kernel
theorem d_Mo_takeOut_112 : decode prog_8_method_22_code 112 = .ok (.goto (-79), 3) := by decide +kernel
theorem d_Mo_takeOut_115 : decode prog_8_method_22_code 115 = .ok (.iconst 0, 1) := by decide +kernel
theorem d_Mo_takeOut_116 : decode prog_8_method_22_code 116 = .ok (.istore_n 2, 1) := by decide +kernel
theorem d_Mo_takeOut_117 : decode prog_8_method_22_code 117 = .ok (.iload_n 2, 1) := by decide +kernel
theorem d_Mo_takeOut_118 : decode prog_8_method_22_code 118 = .ok (.aload_n 0, 1) := by decide +kernel
theorem d_Mo_takeOut_119 : decode prog_8_method_22_code 119 = .ok (.invokevirtual 159, 3) := by decide +kernel
theorem d_Mo_takeOut_122 : decode prog_8_method_22_code 122 = .ok (.if_icmp .ge 21, 3) := by decide +kernel
theorem d_Mo_takeOut_125 : decode prog_8_method_22_code 125 = .ok (.aload_n 0, 1) := by decide +kernel
theorem d_Mo_takeOut_126 : decode prog_8_method_22_code 126 = .ok (.getfield 68, 3) := by decide +kernel
theorem d_Mo_takeOut_129 : decode prog_8_method_22_code 129 = .ok (.iload_n 2, 1) := by decide +kernel
theorem d_Mo_takeOut_130 : decode prog_8_method_22_code 130 = .ok (.aload_n 0, 1) := by decide +kernel
theorem d_Mo_takeOut_131 : decode prog_8_method_22_code 131 = .ok (.getfield 65, 3) := by decide +kernel
theorem d_Mo_takeOut_134 : decode prog_8_method_22_code 134 = .ok (.iload_n 2, 1) := by decide +kernel
theorem d_Mo_takeOut_135 : decode prog_8_method_22_code 135 = .ok (.baload, 1) := by decide +kernel
theorem d_Mo_takeOut_136 : decode prog_8_method_22_code 136 = .ok (.bastore, 1) := by decide +kernel
theorem d_Mo_takeOut_137 : decode prog_8_method_22_code 137 = .ok (.iinc 2 1, 3) := by decide +kernel
theorem d_Mo_takeOut_140 : decode prog_8_method_22_code 140 = .ok (.goto (-23), 3) := by decide +kernel
theorem d_Mo_takeOut_143 : decode prog_8_method_22_code 143 = .ok (.aload_n 0, 1) := by decide +kernel
theorem d_Mo_takeOut_144 : decode prog_8_method_22_code 144 = .ok (.invokevirtual 175, 3) := by decide +kernel
theorem d_Mo_takeOut_147 : decode prog_8_method_22_code 147 = .ok (.iconst 0, 1) := by decide +kernel
theorem d_Mo_takeOut_148 : decode prog_8_method_22_code 148 = .ok (.istore_n 2, 1) := by decide +kernel
theorem d_Mo_takeOut_149 : decode prog_8_method_22_code 149 = .ok (.iload_n 2, 1) := by decide +kernel
theorem d_Mo_takeOut_150 : decode prog_8_method_22_code 150 = .ok (.aload_n 0, 1) := by decide +kernel
theorem d_Mo_takeOut_151 : decode prog_8_method_22_code 151 = .ok (.invokevirtual 159, 3) := by decide +kernel
theorem d_Mo_takeOut_154 : decode prog_8_method_22_code 154 = .ok (.if_icmp .ge 35, 3) := by decide +kernel
theorem d_Mo_takeOut_157 : decode prog_8_method_22_code 157 = .ok (.aload_n 0, 1) := by decide +kernel
theorem d_Mo_takeOut_158 : decode prog_8_method_22_code 158 = .ok (.getfield 65, 3) := by decide +kernel
theorem d_Mo_takeOut_161 : decode prog_8_method_22_code 161 = .ok (.iload_n 2, 1) := by decide +kernel
theorem d_Mo_takeOut_162 : decode prog_8_method_22_code 162 = .ok (.baload, 1) := by decide +kernel
theorem d_Mo_takeOut_163 : decode prog_8_method_22_code 163 = .ok (.ifCond .eq 20, 3) := by decide +kernel
theorem d_Mo_takeOut_166 : decode prog_8_method_22_code 166 = .ok (.aload_n 0, 1) := by decide +kernel
theorem d_Mo_takeOut_167 : decode prog_8_method_22_code 167 = .ok (.iload_n 2, 1) := by decide +kernel
theorem d_Mo_takeOut_168 : decode prog_8_method_22_code 168 = .ok (.invokevirtual 178, 3) := by decide +kernel
theorem d_Mo_takeOut_171 : decode prog_8_method_22_code 171 = .ok (.ifCond .ne 12, 3) := by decide +kernel
theorem d_Mo_takeOut_174 : decode prog_8_method_22_code 174 = .ok (.aload_n 0, 1) := by decide +kernel
theorem d_Mo_takeOut_175 : decode prog_8_method_22_code 175 = .ok (.getfield 65, 3) := by decide +kernel
theorem d_Mo_takeOut_178 : decode prog_8_method_22_code 178 = .ok (.iload_n 2, 1) := by decide +kernel
theorem d_Mo_takeOut_179 : decode prog_8_method_22_code 179 = .ok (.iconst 0, 1) := by decide +kernel
theorem d_Mo_takeOut_180 : decode prog_8_method_22_code 180 = .ok (.bastore, 1) := by decide +kernel
theorem d_Mo_takeOut_181 : decode prog_8_method_22_code 181 = .ok (.iconst 1, 1) := by decide +kernel
theorem d_Mo_takeOut_182 : decode prog_8_method_22_code 182 = .ok (.istore_n 1, 1) := by decide +kernel
theorem d_Mo_takeOut_183 : decode prog_8_method_22_code 183 = .ok (.iinc 2 1, 3) := by decide +kernel
theorem d_Mo_takeOut_186 : decode prog_8_method_22_code 186 = .ok (.goto (-37), 3) := by decide +kernel
theorem d_Mo_takeOut_189 : decode prog_8_method_22_code 189 = .ok (.goto (-164), 3) := by decide +kernel
theorem d_Mo_takeOut_192 : decode prog_8_method_22_code 192 = .ok (.return_, 1) := by decide +kernel
theorem d_Mo_isDue_0 : decode prog_8_method_23_code 0 = .ok (.aload_n 0, 1) := by decide +kernel
theorem d_Mo_isDue_1 : decode prog_8_method_23_code 1 = .ok (.getfield 56, 3) := by decide +kernel
theorem d_Mo_isDue_4 : decode prog_8_method_23_code 4 = .ok (.iload_n 2, 1) := by decide +kernel
theorem d_Mo_isDue_5 : decode prog_8_method_23_code 5 = .ok (.iaload, 1) := by decide +kernel
theorem d_Mo_isDue_6 : decode prog_8_method_23_code 6 = .ok (.iload_n 1, 1) := by decide +kernel
theorem d_Mo_isDue_7 : decode prog_8_method_23_code 7 = .ok (.ishr, 1) := by decide +kernel
theorem d_Mo_isDue_8 : decode prog_8_method_23_code 8 = .ok (.iconst 1, 1) := by decide +kernel
theorem d_Mo_isDue_9 : decode prog_8_method_23_code 9 = .ok (.iand, 1) := by decide +kernel
theorem d_Mo_isDue_10 : decode prog_8_method_23_code 10 = .ok (.iconst 1, 1) := by decide +kernel
theorem d_Mo_isDue_11 : decode prog_8_method_23_code 11 = .ok (.if_icmp .ne 20, 3) := by decide +kernel
theorem d_Mo_isDue_14 : decode prog_8_method_23_code 14 = .ok (.aload_n 0, 1) := by decide +kernel
theorem d_Mo_isDue_15 : decode prog_8_method_23_code 15 = .ok (.getfield 59, 3) := by decide +kernel
theorem d_Mo_isDue_18 : decode prog_8_method_23_code 18 = .ok (.iload_n 2, 1) := by decide +kernel
theorem d_Mo_isDue_19 : decode prog_8_method_23_code 19 = .ok (.iaload, 1) := by decide +kernel
theorem d_Mo_isDue_20 : decode prog_8_method_23_code 20 = .ok (.iload_n 1, 1) := by decide +kernel
end
section
theorem d_Mo_isDue_21 : decode prog_8_method_23_code 21 = .ok (.ishr, 1) := by decide +kernel
theorem d_Mo_isDue_22 : decode prog_8_method_23_code 22 = .ok (.iconst 1, 1) := by decide +kernel
theorem d_Mo_isDue_23 : decode prog_8_method_23_code 23 = .ok (.iand, 1) := by decide +kernel
theorem d_Mo_isDue_24 : decode prog_8_method_23_code 24 = .ok (.ifCond .ne 7, 3) := by decide +kernel
theorem d_Mo_isDue_27 : decode prog_8_method_23_code 27 = .ok (.iconst 1, 1) := by decide +kernel
theorem d_Mo_isDue_28 : decode prog_8_method_23_code 28 = .ok (.goto 4, 3) := by decide +kernel
theorem d_Mo_isDue_31 : decode prog_8_method_23_code 31 = .ok (.iconst 0, 1) := by decide +kernel
theorem d_Mo_isDue_32 : decode prog_8_method_23_code 32 = .ok (.ireturn, 1) := by decide +kernel
theorem d_Mo_dutyAt_0 : decode prog_8_method_24_code 0 = .ok (.iconst 0, 1) := by decide +kernel
theorem d_Mo_dutyAt_1 : decode prog_8_method_24_code 1 = .ok (.istore_n 3, 1) := by decide +kernel
theorem d_Mo_dutyAt_2 : decode prog_8_method_24_code 2 = .ok (.iload_n 3, 1) := by decide +kernel
theorem d_Mo_dutyAt_3 : decode prog_8_method_24_code 3 = .ok (.aload_n 0, 1) := by decide +kernel
theorem d_Mo_dutyAt_4 : decode prog_8_method_24_code 4 = .ok (.getfield 156, 3) := by decide +kernel
theorem d_Mo_dutyAt_7 : decode prog_8_method_24_code 7 = .ok (.if_icmp .ge 32, 3) := by decide +kernel
theorem d_Mo_dutyAt_10 : decode prog_8_method_24_code 10 = .ok (.iload_n 2, 1) := by decide +kernel
theorem d_Mo_dutyAt_11 : decode prog_8_method_24_code 11 = .ok (.iload_n 3, 1) := by decide +kernel
theorem d_Mo_dutyAt_12 : decode prog_8_method_24_code 12 = .ok (.iadd, 1) := by decide +kernel
theorem d_Mo_dutyAt_13 : decode prog_8_method_24_code 13 = .ok (.aload_n 0, 1) := by decide +kernel
theorem d_Mo_dutyAt_14 : decode prog_8_method_24_code 14 = .ok (.getfield 156, 3) := by decide +kernel
theorem d_Mo_dutyAt_17 : decode prog_8_method_24_code 17 = .ok (.irem, 1) := by decide +kernel
theorem d_Mo_dutyAt_18 : decode prog_8_method_24_code 18 = .ok (.istore 4, 2) := by decide +kernel
theorem d_Mo_dutyAt_20 : decode prog_8_method_24_code 20 = .ok (.aload_n 0, 1) := by decide +kernel
theorem d_Mo_dutyAt_21 : decode prog_8_method_24_code 21 = .ok (.iload 4, 2) := by decide +kernel
theorem d_Mo_dutyAt_23 : decode prog_8_method_24_code 23 = .ok (.iload_n 1, 1) := by decide +kernel
theorem d_Mo_dutyAt_24 : decode prog_8_method_24_code 24 = .ok (.invokevirtual 184, 3) := by decide +kernel
theorem d_Mo_dutyAt_27 : decode prog_8_method_24_code 27 = .ok (.ifCond .eq 6, 3) := by decide +kernel
theorem d_Mo_dutyAt_30 : decode prog_8_method_24_code 30 = .ok (.iload 4, 2) := by decide +kernel
theorem d_Mo_dutyAt_32 : decode prog_8_method_24_code 32 = .ok (.ireturn, 1) := by decide +kernel
theorem d_Mo_dutyAt_33 : decode prog_8_method_24_code 33 = .ok (.iinc 3 1, 3) := by decide +kernel
theorem d_Mo_dutyAt_36 : decode prog_8_method_24_code 36 = .ok (.goto (-34), 3) := by decide +kernel
theorem d_Mo_dutyAt_39 : decode prog_8_method_24_code 39 = .ok (.iload_n 2, 1) := by decide +kernel
theorem d_Mo_dutyAt_40 : decode prog_8_method_24_code 40 = .ok (.ireturn, 1) := by decide +kernel
theorem d_Mo_nextOf_0 : decode prog_8_method_25_code 0 = .ok (.aload_n 0, 1) := by decide +kernel
theorem d_Mo_nextOf_1 : decode prog_8_method_25_code 1 = .ok (.getfield 156, 3) := by decide +kernel
theorem d_Mo_nextOf_4 : decode prog_8_method_25_code 4 = .ok (.ifCond .le 16, 3) := by decide +kernel
theorem d_Mo_nextOf_7 : decode prog_8_method_25_code 7 = .ok (.aload_n 0, 1) := by decide +kernel
theorem d_Mo_nextOf_8 : decode prog_8_method_25_code 8 = .ok (.iload_n 2, 1) := by decide +kernel
theorem d_Mo_nextOf_9 : decode prog_8_method_25_code 9 = .ok (.iload_n 1, 1) := by decide +kernel
theorem d_Mo_nextOf_10 : decode prog_8_method_25_code 10 = .ok (.invokevirtual 184, 3) := by decide +kernel
theorem d_Mo_nextOf_13 : decode prog_8_method_25_code 13 = .ok (.ifCond .eq 7, 3) := by decide +kernel
theorem d_Mo_nextOf_16 : decode prog_8_method_25_code 16 = .ok (.iconst 1, 1) := by decide +kernel
theorem d_Mo_nextOf_17 : decode prog_8_method_25_code 17 = .ok (.goto 4, 3) := by decide +kernel
theorem d_Mo_nextOf_20 : decode prog_8_method_25_code 20 = .ok (.iconst 0, 1) := by decide +kernel
theorem d_Mo_nextOf_21 : decode prog_8_method_25_code 21 = .ok (.istore_n 3, 1) := by decide +kernel
theorem d_Mo_nextOf_22 : decode prog_8_method_25_code 22 = .ok (.iconst (-1), 1) := by decide +kernel
theorem d_Mo_nextOf_23 : decode prog_8_method_25_code 23 = .ok (.istore 4, 2) := by decide +kernel
theorem d_Mo_nextOf_25 : decode prog_8_method_25_code 25 = .ok (.ldc 188, 2) := by decide +kernel
theorem d_Mo_nextOf_27 : decode prog_8_method_25_code 27 = .ok (.istore 5, 2) := by decide +kernel
theorem d_Mo_nextOf_29 : decode prog_8_method_25_code 29 = .ok (.iconst 0, 1) := by decide +kernel
theorem d_Mo_nextOf_30 : decode prog_8_method_25_code 30 = .ok (.istore 6, 2) := by decide +kernel
theorem d_Mo_nextOf_32 : decode prog_8_method_25_code 32 = .ok (.iload 6, 2) := by decide +kernel
theorem d_Mo_nextOf_34 : decode prog_8_method_25_code 34 = .ok (.aload_n 0, 1) := by decide +kernel
theorem d_Mo_nextOf_35 : decode prog_8_method_25_code 35 = .ok (.invokevirtual 159, 3) := by decide +kernel
theorem d_Mo_nextOf_38 : decode prog_8_method_25_code 38 = .ok (.if_icmp .ge 72, 3) := by decide +kernel
theorem d_Mo_nextOf_41 : decode prog_8_method_25_code 41 = .ok (.iload_n 3, 1) := by decide +kernel
theorem d_Mo_nextOf_42 : decode prog_8_method_25_code 42 = .ok (.ifCond .eq 19, 3) := by decide +kernel
theorem d_Mo_nextOf_45 : decode prog_8_method_25_code 45 = .ok (.aload_n 0, 1) := by decide +kernel
theorem d_Mo_nextOf_46 : decode prog_8_method_25_code 46 = .ok (.getfield 74, 3) := by decide +kernel
theorem d_Mo_nextOf_49 : decode prog_8_method_25_code 49 = .ok (.sipush 256, 3) := by decide +kernel
theorem d_Mo_nextOf_52 : decode prog_8_method_25_code 52 = .ok (.iload_n 2, 1) := by decide +kernel
theorem d_Mo_nextOf_53 : decode prog_8_method_25_code 53 = .ok (.imul, 1) := by decide +kernel
theorem d_Mo_nextOf_54 : decode prog_8_method_25_code 54 = .ok (.iload 6, 2) := by decide +kernel
theorem d_Mo_nextOf_56 : decode prog_8_method_25_code 56 = .ok (.iadd, 1) := by decide +kernel
theorem d_Mo_nextOf_57 : decode prog_8_method_25_code 57 = .ok (.iaload, 1) := by decide +kernel
theorem d_Mo_nextOf_58 : decode prog_8_method_25_code 58 = .ok (.goto 4, 3) := by decide +kernel
theorem d_Mo_nextOf_61 : decode prog_8_method_25_code 61 = .ok (.iconst 0, 1) := by decide +kernel
theorem d_Mo_nextOf_62 : decode prog_8_method_25_code 62 = .ok (.istore 7, 2) := by decide +kernel
theorem d_Mo_nextOf_64 : decode prog_8_method_25_code 64 = .ok (.aload_n 0, 1) := by decide +kernel
theorem d_Mo_nextOf_65 : decode prog_8_method_25_code 65 = .ok (.getfield 65, 3) := by decide +kernel
theorem d_Mo_nextOf_68 : decode prog_8_method_25_code 68 = .ok (.iload 6, 2) := by decide +kernel
theorem d_Mo_nextOf_70 : decode prog_8_method_25_code 70 = .ok (.baload, 1) := by decide +kernel
theorem d_Mo_nextOf_71 : decode prog_8_method_25_code 71 = .ok (.ifCond .eq 33, 3) := by decide +kernel
theorem d_Mo_nextOf_74 : decode prog_8_method_25_code 74 = .ok (.aload_n 0, 1) := by decide +kernel
theorem d_Mo_nextOf_75 : decode prog_8_method_25_code 75 = .ok (.iload_n 1, 1) := by decide +kernel
theorem d_Mo_nextOf_76 : decode prog_8_method_25_code 76 = .ok (.iload 6, 2) := by decide +kernel
theorem d_Mo_nextOf_78 : decode prog_8_method_25_code 78 = .ok (.invokevirtual 189, 3) := by decide +kernel
theorem d_Mo_nextOf_81 : decode prog_8_method_25_code 81 = .ok (.ifCond .eq 23, 3) := by decide +kernel
theorem d_Mo_nextOf_84 : decode prog_8_method_25_code 84 = .ok (.iload 7, 2) := by decide +kernel
theorem d_Mo_nextOf_86 : decode prog_8_method_25_code 86 = .ok (.ifCond .lt 18, 3) := by decide +kernel
theorem d_Mo_nextOf_89 : decode prog_8_method_25_code 89 = .ok (.iload 7, 2) := by decide +kernel
theorem d_Mo_nextOf_91 : decode prog_8_method_25_code 91 = .ok (.iload 5, 2) := by decide +kernel
theorem d_Mo_nextOf_93 : decode prog_8_method_25_code 93 = .ok (.if_icmp .ge 11, 3) := by decide +kernel
theorem d_Mo_nextOf_96 : decode prog_8_method_25_code 96 = .ok (.iload 6, 2) := by decide +kernel
theorem d_Mo_nextOf_98 : decode prog_8_method_25_code 98 = .ok (.istore 4, 2) := by decide +kernel
theorem d_Mo_nextOf_100 : decode prog_8_method_25_code 100 = .ok (.iload 7, 2) := by decide +kernel
theorem d_Mo_nextOf_102 : decode prog_8_method_25_code 102 = .ok (.istore 5, 2) := by decide +kernel
theorem d_Mo_nextOf_104 : decode prog_8_method_25_code 104 = .ok (.iinc 6 1, 3) := by decide +kernel
theorem d_Mo_nextOf_107 : decode prog_8_method_25_code 107 = .ok (.goto (-75), 3) := by decide +kernel
theorem d_Mo_nextOf_110 : decode prog_8_method_25_code 110 = .ok (.iload 4, 2) := by decide +kernel
theorem d_Mo_nextOf_112 : decode prog_8_method_25_code 112 = .ok (.ireturn, 1) := by decide +kernel
theorem d_Mo_firstState_0 : decode prog_8_method_26_code 0 = .ok (.iconst 0, 1) := by decide +kernel
theorem d_Mo_firstState_1 : decode prog_8_method_26_code 1 = .ok (.istore_n 1, 1) := by decide +kernel
theorem d_Mo_firstState_2 : decode prog_8_method_26_code 2 = .ok (.iload_n 1, 1) := by decide +kernel
theorem d_Mo_firstState_3 : decode prog_8_method_26_code 3 = .ok (.aload_n 0, 1) := by decide +kernel
theorem d_Mo_firstState_4 : decode prog_8_method_26_code 4 = .ok (.invokevirtual 159, 3) := by decide +kernel
theorem d_Mo_firstState_7 : decode prog_8_method_26_code 7 = .ok (.if_icmp .ge 29, 3) := by decide +kernel
theorem d_Mo_firstState_10 : decode prog_8_method_26_code 10 = .ok (.aload_n 0, 1) := by decide +kernel
theorem d_Mo_firstState_11 : decode prog_8_method_26_code 11 = .ok (.getfield 65, 3) := by decide +kernel
theorem d_Mo_firstState_14 : decode prog_8_method_26_code 14 = .ok (.iload_n 1, 1) := by decide +kernel
theorem d_Mo_firstState_15 : decode prog_8_method_26_code 15 = .ok (.baload, 1) := by decide +kernel
theorem d_Mo_firstState_16 : decode prog_8_method_26_code 16 = .ok (.ifCond .eq 14, 3) := by decide +kernel
theorem d_Mo_firstState_19 : decode prog_8_method_26_code 19 = .ok (.aload_n 0, 1) := by decide +kernel
theorem d_Mo_firstState_20 : decode prog_8_method_26_code 20 = .ok (.getfield 52, 3) := by decide +kernel
theorem d_Mo_firstState_23 : decode prog_8_method_26_code 23 = .ok (.iload_n 1, 1) := by decide +kernel
theorem d_Mo_firstState_24 : decode prog_8_method_26_code 24 = .ok (.baload, 1) := by decide +kernel
theorem d_Mo_firstState_25 : decode prog_8_method_26_code 25 = .ok (.ifCond .eq 5, 3) := by decide +kernel
theorem d_Mo_firstState_28 : decode prog_8_method_26_code 28 = .ok (.iload_n 1, 1) := by decide +kernel
theorem d_Mo_firstState_29 : decode prog_8_method_26_code 29 = .ok (.ireturn, 1) := by decide +kernel
theorem d_Mo_firstState_30 : decode prog_8_method_26_code 30 = .ok (.iinc 1 1, 3) := by decide +kernel
theorem d_Mo_firstState_33 : decode prog_8_method_26_code 33 = .ok (.goto (-31), 3) := by decide +kernel
theorem d_Mo_firstState_36 : decode prog_8_method_26_code 36 = .ok (.iconst (-1), 1) := by decide +kernel
theorem d_Mo_firstState_37 : decode prog_8_method_26_code 37 = .ok (.ireturn, 1) := by decide +kernel
theorem d_Mo_goWalk_0 : decode prog_8_method_27_code 0 = .ok (.aload_n 0, 1) := by decide +kernel
theorem d_Mo_goWalk_1 : decode prog_8_method_27_code 1 = .ok (.iconst (-1), 1) := by decide +kernel
theorem d_Mo_goWalk_2 : decode prog_8_method_27_code 2 = .ok (.putfield 192, 3) := by decide +kernel
theorem d_Mo_goWalk_5 : decode prog_8_method_27_code 5 = .ok (.aload_n 0, 1) := by decide +kernel
theorem d_Mo_goWalk_6 : decode prog_8_method_27_code 6 = .ok (.iconst (-1), 1) := by decide +kernel
theorem d_Mo_goWalk_7 : decode prog_8_method_27_code 7 = .ok (.putfield 195, 3) := by decide +kernel
theorem d_Mo_goWalk_10 : decode prog_8_method_27_code 10 = .ok (.iconst 0, 1) := by decide +kernel
theorem d_Mo_goWalk_11 : decode prog_8_method_27_code 11 = .ok (.istore_n 1, 1) := by decide +kernel
theorem d_Mo_goWalk_12 : decode prog_8_method_27_code 12 = .ok (.iload_n 1, 1) := by decide +kernel
theorem d_Mo_goWalk_13 : decode prog_8_method_27_code 13 = .ok (.aload_n 0, 1) := by decide +kernel
theorem d_Mo_goWalk_14 : decode prog_8_method_27_code 14 = .ok (.getfield 156, 3) := by decide +kernel
theorem d_Mo_goWalk_17 : decode prog_8_method_27_code 17 = .ok (.if_icmp .ge 14, 3) := by decide +kernel
theorem d_Mo_goWalk_20 : decode prog_8_method_27_code 20 = .ok (.aload_n 0, 1) := by decide +kernel
theorem d_Mo_goWalk_21 : decode prog_8_method_27_code 21 = .ok (.iload_n 1, 1) := by decide +kernel
theorem d_Mo_goWalk_22 : decode prog_8_method_27_code 22 = .ok (.invokevirtual 181, 3) := by decide +kernel
theorem d_Mo_goWalk_25 : decode prog_8_method_27_code 25 = .ok (.iinc 1 1, 3) := by decide +kernel
theorem d_Mo_goWalk_28 : decode prog_8_method_27_code 28 = .ok (.goto (-16), 3) := by decide +kernel
theorem d_Mo_goWalk_31 : decode prog_8_method_27_code 31 = .ok (.iconst 0, 1) := by decide +kernel
theorem d_Mo_goWalk_32 : decode prog_8_method_27_code 32 = .ok (.istore_n 1, 1) := by decide +kernel
theorem d_Mo_goWalk_33 : decode prog_8_method_27_code 33 = .ok (.iload_n 1, 1) := by decide +kernel
theorem d_Mo_goWalk_34 : decode prog_8_method_27_code 34 = .ok (.sipush 1280, 3) := by decide +kernel
theorem d_Mo_goWalk_37 : decode prog_8_method_27_code 37 = .ok (.if_icmp .ge 16, 3) := by decide +kernel
theorem d_Mo_goWalk_40 : decode prog_8_method_27_code 40 = .ok (.aload_n 0, 1) := by decide +kernel
theorem d_Mo_goWalk_41 : decode prog_8_method_27_code 41 = .ok (.getfield 80, 3) := by decide +kernel
theorem d_Mo_goWalk_44 : decode prog_8_method_27_code 44 = .ok (.iload_n 1, 1) := by decide +kernel
theorem d_Mo_goWalk_45 : decode prog_8_method_27_code 45 = .ok (.iconst (-1), 1) := by decide +kernel
theorem d_Mo_goWalk_46 : decode prog_8_method_27_code 46 = .ok (.iastore, 1) := by decide +kernel
theorem d_Mo_goWalk_47 : decode prog_8_method_27_code 47 = .ok (.iinc 1 1, 3) := by decide +kernel
theorem d_Mo_goWalk_50 : decode prog_8_method_27_code 50 = .ok (.goto (-17), 3) := by decide +kernel
theorem d_Mo_goWalk_53 : decode prog_8_method_27_code 53 = .ok (.aload_n 0, 1) := by decide +kernel
theorem d_Mo_goWalk_54 : decode prog_8_method_27_code 54 = .ok (.invokevirtual 198, 3) := by decide +kernel
theorem d_Mo_goWalk_57 : decode prog_8_method_27_code 57 = .ok (.istore_n 1, 1) := by decide +kernel
theorem d_Mo_goWalk_58 : decode prog_8_method_27_code 58 = .ok (.iconst 0, 1) := by decide +kernel
theorem d_Mo_goWalk_59 : decode prog_8_method_27_code 59 = .ok (.istore_n 2, 1) := by decide +kernel
theorem d_Mo_goWalk_60 : decode prog_8_method_27_code 60 = .ok (.iconst 0, 1) := by decide +kernel
theorem d_Mo_goWalk_61 : decode prog_8_method_27_code 61 = .ok (.istore_n 3, 1) := by decide +kernel
theorem d_Mo_goWalk_62 : decode prog_8_method_27_code 62 = .ok (.iload_n 1, 1) := by decide +kernel
theorem d_Mo_goWalk_63 : decode prog_8_method_27_code 63 = .ok (.ifCond .lt 89, 3) := by decide +kernel
theorem d_Mo_goWalk_66 : decode prog_8_method_27_code 66 = .ok (.aload_n 0, 1) := by decide +kernel
theorem d_Mo_goWalk_67 : decode prog_8_method_27_code 67 = .ok (.getfield 192, 3) := by decide +kernel
theorem d_Mo_goWalk_70 : decode prog_8_method_27_code 70 = .ok (.ifCond .ge 82, 3) := by decide +kernel
theorem d_Mo_goWalk_73 : decode prog_8_method_27_code 73 = .ok (.aload_n 0, 1) := by decide +kernel
theorem d_Mo_goWalk_74 : decode prog_8_method_27_code 74 = .ok (.iload_n 1, 1) := by decide +kernel
theorem d_Mo_goWalk_75 : decode prog_8_method_27_code 75 = .ok (.iload_n 3, 1) := by decide +kernel
theorem d_Mo_goWalk_76 : decode prog_8_method_27_code 76 = .ok (.invokevirtual 201, 3) := by decide +kernel
theorem d_Mo_goWalk_79 : decode prog_8_method_27_code 79 = .ok (.istore_n 3, 1) := by decide +kernel
theorem d_Mo_goWalk_80 : decode prog_8_method_27_code 80 = .ok (.iconst 5, 1) := by decide +kernel
theorem d_Mo_goWalk_81 : decode prog_8_method_27_code 81 = .ok (.iload_n 1, 1) := by decide +kernel
theorem d_Mo_goWalk_82 : decode prog_8_method_27_code 82 = .ok (.imul, 1) := by decide +kernel
theorem d_Mo_goWalk_83 : decode prog_8_method_27_code 83 = .ok (.iload_n 3, 1) := by decide +kernel
theorem d_Mo_goWalk_84 : decode prog_8_method_27_code 84 = .ok (.iadd, 1) := by decide +kernel
theorem d_Mo_goWalk_85 : decode prog_8_method_27_code 85 = .ok (.istore 4, 2) := by decide +kernel
theorem d_Mo_goWalk_87 : decode prog_8_method_27_code 87 = .ok (.aload_n 0, 1) := by decide +kernel
theorem d_Mo_goWalk_88 : decode prog_8_method_27_code 88 = .ok (.getfield 80, 3) := by decide +kernel
theorem d_Mo_goWalk_91 : decode prog_8_method_27_code 91 = .ok (.iload 4, 2) := by decide +kernel
theorem d_Mo_goWalk_93 : decode prog_8_method_27_code 93 = .ok (.iaload, 1) := by decide +kernel
theorem d_Mo_goWalk_94 : decode prog_8_method_27_code 94 = .ok (.ifCond .lt 30, 3) := by decide +kernel
theorem d_Mo_goWalk_97 : decode prog_8_method_27_code 97 = .ok (.aload_n 0, 1) := by decide +kernel
theorem d_Mo_goWalk_98 : decode prog_8_method_27_code 98 = .ok (.aload_n 0, 1) := by decide +kernel
theorem d_Mo_goWalk_99 : decode prog_8_method_27_code 99 = .ok (.getfield 80, 3) := by decide +kernel
theorem d_Mo_goWalk_102 : decode prog_8_method_27_code 102 = .ok (.iload 4, 2) := by decide +kernel
theorem d_Mo_goWalk_104 : decode prog_8_method_27_code 104 = .ok (.iaload, 1) := by decide +kernel
theorem d_Mo_goWalk_105 : decode prog_8_method_27_code 105 = .ok (.putfield 192, 3) := by decide +kernel
theorem d_Mo_goWalk_108 : decode prog_8_method_27_code 108 = .ok (.aload_n 0, 1) := by decide +kernel
theorem d_Mo_goWalk_109 : decode prog_8_method_27_code 109 = .ok (.iload_n 2, 1) := by decide +kernel
theorem d_Mo_goWalk_110 : decode prog_8_method_27_code 110 = .ok (.aload_n 0, 1) := by decide +kernel
theorem d_Mo_goWalk_111 : decode prog_8_method_27_code 111 = .ok (.getfield 80, 3) := by decide +kernel
theorem d_Mo_goWalk_114 : decode prog_8_method_27_code 114 = .ok (.iload 4, 2) := by decide +kernel
theorem d_Mo_goWalk_116 : decode prog_8_method_27_code 116 = .ok (.iaload, 1) := by decide +kernel
theorem d_Mo_goWalk_117 : decode prog_8_method_27_code 117 = .ok (.isub, 1) := by decide +kernel
theorem d_Mo_goWalk_118 : decode prog_8_method_27_code 118 = .ok (.putfield 195, 3) := by decide +kernel
theorem d_Mo_goWalk_121 : decode prog_8_method_27_code 121 = .ok (.goto 28, 3) := by decide +kernel
theorem d_Mo_goWalk_124 : decode prog_8_method_27_code 124 = .ok (.aload_n 0, 1) := by decide +kernel
theorem d_Mo_goWalk_125 : decode prog_8_method_27_code 125 = .ok (.getfield 80, 3) := by decide +kernel
theorem d_Mo_goWalk_128 : decode prog_8_method_27_code 128 = .ok (.iload 4, 2) := by decide +kernel
theorem d_Mo_goWalk_130 : decode prog_8_method_27_code 130 = .ok (.iload_n 2, 1) := by decide +kernel
theorem d_Mo_goWalk_131 : decode prog_8_method_27_code 131 = .ok (.iastore, 1) := by decide +kernel
theorem d_Mo_goWalk_132 : decode prog_8_method_27_code 132 = .ok (.aload_n 0, 1) := by decide +kernel
theorem d_Mo_goWalk_133 : decode prog_8_method_27_code 133 = .ok (.getfield 77, 3) := by decide +kernel
theorem d_Mo_goWalk_136 : decode prog_8_method_27_code 136 = .ok (.iload_n 2, 1) := by decide +kernel
theorem d_Mo_goWalk_137 : decode prog_8_method_27_code 137 = .ok (.iload_n 1, 1) := by decide +kernel
theorem d_Mo_goWalk_138 : decode prog_8_method_27_code 138 = .ok (.iastore, 1) := by decide +kernel
theorem d_Mo_goWalk_139 : decode prog_8_method_27_code 139 = .ok (.iinc 2 1, 3) := by decide +kernel
theorem d_Mo_goWalk_142 : decode prog_8_method_27_code 142 = .ok (.aload_n 0, 1) := by decide +kernel
theorem d_Mo_goWalk_143 : decode prog_8_method_27_code 143 = .ok (.iload_n 1, 1) := by decide +kernel
theorem d_Mo_goWalk_144 : decode prog_8_method_27_code 144 = .ok (.iload_n 3, 1) := by decide +kernel
theorem d_Mo_goWalk_145 : decode prog_8_method_27_code 145 = .ok (.invokevirtual 205, 3) := by decide +kernel
theorem d_Mo_goWalk_148 : decode prog_8_method_27_code 148 = .ok (.istore_n 1, 1) := by decide +kernel
theorem d_Mo_goWalk_149 : decode prog_8_method_27_code 149 = .ok (.goto (-87), 3) := by decide +kernel
theorem d_Mo_goWalk_152 : decode prog_8_method_27_code 152 = .ok (.return_, 1) := by decide +kernel
theorem d_Mo_refused_0 : decode prog_8_method_28_code 0 = .ok (.aload_n 0, 1) := by decide +kernel
theorem d_Mo_refused_1 : decode prog_8_method_28_code 1 = .ok (.aload_n 0, 1) := by decide +kernel
theorem d_Mo_refused_2 : decode prog_8_method_28_code 2 = .ok (.getfield 146, 3) := by decide +kernel
theorem d_Mo_refused_5 : decode prog_8_method_28_code 5 = .ok (.ifCond .ne 7, 3) := by decide +kernel
theorem d_Mo_refused_8 : decode prog_8_method_28_code 8 = .ok (.iconst 1, 1) := by decide +kernel
theorem d_Mo_refused_9 : decode prog_8_method_28_code 9 = .ok (.goto 12, 3) := by decide +kernel
theorem d_Mo_refused_12 : decode prog_8_method_28_code 12 = .ok (.iload_n 1, 1) := by decide +kernel
theorem d_Mo_refused_13 : decode prog_8_method_28_code 13 = .ok (.ifCond .eq 7, 3) := by decide +kernel
theorem d_Mo_refused_16 : decode prog_8_method_28_code 16 = .ok (.iconst 0, 1) := by decide +kernel
theorem d_Mo_refused_17 : decode prog_8_method_28_code 17 = .ok (.goto 4, 3) := by decide +kernel
theorem d_Mo_refused_20 : decode prog_8_method_28_code 20 = .ok (.iconst 2, 1) := by decide +kernel
theorem d_Mo_refused_21 : decode prog_8_method_28_code 21 = .ok (.putfield 93, 3) := by decide +kernel
theorem d_Mo_refused_24 : decode prog_8_method_28_code 24 = .ok (.aload_n 0, 1) := by decide +kernel
theorem d_Mo_refused_25 : decode prog_8_method_28_code 25 = .ok (.getfield 93, 3) := by decide +kernel
theorem d_Mo_refused_28 : decode prog_8_method_28_code 28 = .ok (.ifCond .le 7, 3) := by decide +kernel
theorem d_Mo_refused_31 : decode prog_8_method_28_code 31 = .ok (.iconst 1, 1) := by decide +kernel
theorem d_Mo_refused_32 : decode prog_8_method_28_code 32 = .ok (.goto 4, 3) := by decide +kernel
theorem d_Mo_refused_35 : decode prog_8_method_28_code 35 = .ok (.iconst 0, 1) := by decide +kernel
theorem d_Mo_refused_36 : decode prog_8_method_28_code 36 = .ok (.ireturn, 1) := by decide +kernel
theorem d_Mo_isState_0 : decode prog_8_method_29_code 0 = .ok (.iload_n 1, 1) := by decide +kernel
theorem d_Mo_isState_1 : decode prog_8_method_29_code 1 = .ok (.ifCond .lt 22, 3) := by decide +kernel
theorem d_Mo_isState_4 : decode prog_8_method_29_code 4 = .ok (.aload_n 0, 1) := by decide +kernel
theorem d_Mo_isState_5 : decode prog_8_method_29_code 5 = .ok (.getfield 146, 3) := by decide +kernel
theorem d_Mo_isState_8 : decode prog_8_method_29_code 8 = .ok (.ifCond .eq 15, 3) := by decide +kernel
theorem d_Mo_isState_11 : decode prog_8_method_29_code 11 = .ok (.iload_n 1, 1) := by decide +kernel
theorem d_Mo_isState_12 : decode prog_8_method_29_code 12 = .ok (.aload_n 0, 1) := by decide +kernel
theorem d_Mo_isState_13 : decode prog_8_method_29_code 13 = .ok (.invokevirtual 159, 3) := by decide +kernel
theorem d_Mo_isState_16 : decode prog_8_method_29_code 16 = .ok (.if_icmp .ge 7, 3) := by decide +kernel
theorem d_Mo_isState_19 : decode prog_8_method_29_code 19 = .ok (.iconst 1, 1) := by decide +kernel
theorem d_Mo_isState_20 : decode prog_8_method_29_code 20 = .ok (.goto 4, 3) := by decide +kernel
theorem d_Mo_isState_23 : decode prog_8_method_29_code 23 = .ok (.iconst 0, 1) := by decide +kernel
theorem d_Mo_isState_24 : decode prog_8_method_29_code 24 = .ok (.ireturn, 1) := by decide +kernel
theorem d_Mo_states_0 : decode prog_8_method_30_code 0 = .ok (.aload_n 0, 1) := by decide +kernel
theorem d_Mo_states_1 : decode prog_8_method_30_code 1 = .ok (.iconst 1, 1) := by decide +kernel
theorem d_Mo_states_2 : decode prog_8_method_30_code 2 = .ok (.invokevirtual 208, 3) := by decide +kernel
theorem d_Mo_states_5 : decode prog_8_method_30_code 5 = .ok (.ifCond .eq 7, 3) := by decide +kernel
theorem d_Mo_states_8 : decode prog_8_method_30_code 8 = .ok (.iconst 0, 1) := by decide +kernel
theorem d_Mo_states_9 : decode prog_8_method_30_code 9 = .ok (.goto 7, 3) := by decide +kernel
theorem d_Mo_states_12 : decode prog_8_method_30_code 12 = .ok (.aload_n 0, 1) := by decide +kernel
theorem d_Mo_states_13 : decode prog_8_method_30_code 13 = .ok (.invokevirtual 159, 3) := by decide +kernel
theorem d_Mo_states_16 : decode prog_8_method_30_code 16 = .ok (.ireturn, 1) := by decide +kernel
theorem d_Mo_isAt_0 : decode prog_8_method_31_code 0 = .ok (.aload_n 0, 1) := by decide +kernel
theorem d_Mo_isAt_1 : decode prog_8_method_31_code 1 = .ok (.aload_n 0, 1) := by decide +kernel
theorem d_Mo_isAt_2 : decode prog_8_method_31_code 2 = .ok (.iload_n 1, 1) := by decide +kernel
theorem d_Mo_isAt_3 : decode prog_8_method_31_code 3 = .ok (.invokevirtual 212, 3) := by decide +kernel
theorem d_Mo_isAt_6 : decode prog_8_method_31_code 6 = .ok (.invokevirtual 208, 3) := by decide +kernel
theorem d_Mo_isAt_9 : decode prog_8_method_31_code 9 = .ok (.ifCond .ne 16, 3) := by decide +kernel
theorem d_Mo_isAt_12 : decode prog_8_method_31_code 12 = .ok (.aload_n 0, 1) := by decide +kernel
theorem d_Mo_isAt_13 : decode prog_8_method_31_code 13 = .ok (.getfield 52, 3) := by decide +kernel
theorem d_Mo_isAt_16 : decode prog_8_method_31_code 16 = .ok (.iload_n 1, 1) := by decide +kernel
theorem d_Mo_isAt_17 : decode prog_8_method_31_code 17 = .ok (.baload, 1) := by decide +kernel
theorem d_Mo_isAt_18 : decode prog_8_method_31_code 18 = .ok (.ifCond .eq 7, 3) := by decide +kernel
theorem d_Mo_isAt_21 : decode prog_8_method_31_code 21 = .ok (.iconst 1, 1) := by decide +kernel
theorem d_Mo_isAt_22 : decode prog_8_method_31_code 22 = .ok (.goto 4, 3) := by decide +kernel
theorem d_Mo_isAt_25 : decode prog_8_method_31_code 25 = .ok (.iconst 0, 1) := by decide +kernel
theorem d_Mo_isAt_26 : decode prog_8_method_31_code 26 = .ok (.ireturn, 1) := by decide +kernel
theorem d_Mo_leads_0 : decode prog_8_method_32_code 0 = .ok (.aload_n 0, 1) := by decide +kernel
theorem d_Mo_leads_1 : decode prog_8_method_32_code 1 = .ok (.aload_n 0, 1) := by decide +kernel
theorem d_Mo_leads_2 : decode prog_8_method_32_code 2 = .ok (.iload_n 1, 1) := by decide +kernel
theorem d_Mo_leads_3 : decode prog_8_method_32_code 3 = .ok (.invokevirtual 212, 3) := by decide +kernel
theorem d_Mo_leads_6 : decode prog_8_method_32_code 6 = .ok (.ifCond .eq 15, 3) := by decide +kernel
theorem d_Mo_leads_9 : decode prog_8_method_32_code 9 = .ok (.aload_n 0, 1) := by decide +kernel
theorem d_Mo_leads_10 : decode prog_8_method_32_code 10 = .ok (.iload_n 2, 1) := by decide +kernel
theorem d_Mo_leads_11 : decode prog_8_method_32_code 11 = .ok (.invokevirtual 212, 3) := by decide +kernel
theorem d_Mo_leads_14 : decode prog_8_method_32_code 14 = .ok (.ifCond .eq 7, 3) := by decide +kernel
theorem d_Mo_leads_17 : decode prog_8_method_32_code 17 = .ok (.iconst 1, 1) := by decide +kernel
theorem d_Mo_leads_18 : decode prog_8_method_32_code 18 = .ok (.goto 4, 3) := by decide +kernel
theorem d_Mo_leads_21 : decode prog_8_method_32_code 21 = .ok (.iconst 0, 1) := by decide +kernel
theorem d_Mo_leads_22 : decode prog_8_method_32_code 22 = .ok (.invokevirtual 208, 3) := by decide +kernel
theorem d_Mo_leads_25 : decode prog_8_method_32_code 25 = .ok (.ifCond .ne 16, 3) := by decide +kernel
theorem d_Mo_leads_28 : decode prog_8_method_32_code 28 = .ok (.aload_n 0, 1) := by decide +kernel
theorem d_Mo_leads_29 : decode prog_8_method_32_code 29 = .ok (.iload_n 1, 1) := by decide +kernel
theorem d_Mo_leads_30 : decode prog_8_method_32_code 30 = .ok (.iload_n 2, 1) := by decide +kernel
theorem d_Mo_leads_31 : decode prog_8_method_32_code 31 = .ok (.invokevirtual 189, 3) := by decide +kernel
theorem d_Mo_leads_34 : decode prog_8_method_32_code 34 = .ok (.ifCond .eq 7, 3) := by decide +kernel
theorem d_Mo_leads_37 : decode prog_8_method_32_code 37 = .ok (.iconst 1, 1) := by decide +kernel
theorem d_Mo_leads_38 : decode prog_8_method_32_code 38 = .ok (.goto 4, 3) := by decide +kernel
theorem d_Mo_leads_41 : decode prog_8_method_32_code 41 = .ok (.iconst 0, 1) := by decide +kernel
theorem d_Mo_leads_42 : decode prog_8_method_32_code 42 = .ok (.ireturn, 1) := by decide +kernel
theorem d_Mo_lasts_0 : decode prog_8_method_33_code 0 = .ok (.aload_n 0, 1) := by decide +kernel
theorem d_Mo_lasts_1 : decode prog_8_method_33_code 1 = .ok (.aload_n 0, 1) := by decide +kernel
theorem d_Mo_lasts_2 : decode prog_8_method_33_code 2 = .ok (.iload_n 1, 1) := by decide +kernel
theorem d_Mo_lasts_3 : decode prog_8_method_33_code 3 = .ok (.invokevirtual 212, 3) := by decide +kernel
theorem d_Mo_lasts_6 : decode prog_8_method_33_code 6 = .ok (.invokevirtual 208, 3) := by decide +kernel
theorem d_Mo_lasts_9 : decode prog_8_method_33_code 9 = .ok (.ifCond .ne 16, 3) := by decide +kernel
theorem d_Mo_lasts_12 : decode prog_8_method_33_code 12 = .ok (.aload_n 0, 1) := by decide +kernel
theorem d_Mo_lasts_13 : decode prog_8_method_33_code 13 = .ok (.getfield 65, 3) := by decide +kernel
theorem d_Mo_lasts_16 : decode prog_8_method_33_code 16 = .ok (.iload_n 1, 1) := by decide +kernel
theorem d_Mo_lasts_17 : decode prog_8_method_33_code 17 = .ok (.baload, 1) := by decide +kernel
theorem d_Mo_lasts_18 : decode prog_8_method_33_code 18 = .ok (.ifCond .eq 7, 3) := by decide +kernel
theorem d_Mo_lasts_21 : decode prog_8_method_33_code 21 = .ok (.iconst 1, 1) := by decide +kernel
theorem d_Mo_lasts_22 : decode prog_8_method_33_code 22 = .ok (.goto 4, 3) := by decide +kernel
theorem d_Mo_lasts_25 : decode prog_8_method_33_code 25 = .ok (.iconst 0, 1) := by decide +kernel
theorem d_Mo_lasts_26 : decode prog_8_method_33_code 26 = .ok (.ireturn, 1) := by decide +kernel
theorem d_Mo_lasting_0 : decode prog_8_method_34_code 0 = .ok (.aload_n 0, 1) := by decide +kernel
theorem d_Mo_lasting_1 : decode prog_8_method_34_code 1 = .ok (.iconst 1, 1) := by decide +kernel
theorem d_Mo_lasting_2 : decode prog_8_method_34_code 2 = .ok (.invokevirtual 208, 3) := by decide +kernel
theorem d_Mo_lasting_5 : decode prog_8_method_34_code 5 = .ok (.ifCond .eq 5, 3) := by decide +kernel
theorem d_Mo_lasting_8 : decode prog_8_method_34_code 8 = .ok (.iconst 0, 1) := by decide +kernel
theorem d_Mo_lasting_9 : decode prog_8_method_34_code 9 = .ok (.ireturn, 1) := by decide +kernel
theorem d_Mo_lasting_10 : decode prog_8_method_34_code 10 = .ok (.iconst 0, 1) := by decide +kernel
theorem d_Mo_lasting_11 : decode prog_8_method_34_code 11 = .ok (.istore_n 1, 1) := by decide +kernel
theorem d_Mo_lasting_12 : decode prog_8_method_34_code 12 = .ok (.iconst 0, 1) := by decide +kernel
theorem d_Mo_lasting_13 : decode prog_8_method_34_code 13 = .ok (.istore_n 2, 1) := by decide +kernel
theorem d_Mo_lasting_14 : decode prog_8_method_34_code 14 = .ok (.iload_n 2, 1) := by decide +kernel
theorem d_Mo_lasting_15 : decode prog_8_method_34_code 15 = .ok (.aload_n 0, 1) := by decide +kernel
theorem d_Mo_lasting_16 : decode prog_8_method_34_code 16 = .ok (.invokevirtual 159, 3) := by decide +kernel
theorem d_Mo_lasting_19 : decode prog_8_method_34_code 19 = .ok (.if_icmp .ge 26, 3) := by decide +kernel
theorem d_Mo_lasting_22 : decode prog_8_method_34_code 22 = .ok (.aload_n 0, 1) := by decide +kernel
theorem d_Mo_lasting_23 : decode prog_8_method_34_code 23 = .ok (.getfield 65, 3) := by decide +kernel
theorem d_Mo_lasting_26 : decode prog_8_method_34_code 26 = .ok (.iload_n 2, 1) := by decide +kernel
theorem d_Mo_lasting_27 : decode prog_8_method_34_code 27 = .ok (.baload, 1) := by decide +kernel
theorem d_Mo_lasting_28 : decode prog_8_method_34_code 28 = .ok (.ifCond .eq 9, 3) := by decide +kernel
theorem d_Mo_lasting_31 : decode prog_8_method_34_code 31 = .ok (.iload_n 1, 1) := by decide +kernel
theorem d_Mo_lasting_32 : decode prog_8_method_34_code 32 = .ok (.iconst 1, 1) := by decide +kernel
theorem d_Mo_lasting_33 : decode prog_8_method_34_code 33 = .ok (.iadd, 1) := by decide +kernel
theorem d_Mo_lasting_34 : decode prog_8_method_34_code 34 = .ok (.goto 4, 3) := by decide +kernel
theorem d_Mo_lasting_37 : decode prog_8_method_34_code 37 = .ok (.iload_n 1, 1) := by decide +kernel
theorem d_Mo_lasting_38 : decode prog_8_method_34_code 38 = .ok (.istore_n 1, 1) := by decide +kernel
theorem d_Mo_lasting_39 : decode prog_8_method_34_code 39 = .ok (.iinc 2 1, 3) := by decide +kernel
theorem d_Mo_lasting_42 : decode prog_8_method_34_code 42 = .ok (.goto (-28), 3) := by decide +kernel
theorem d_Mo_lasting_45 : decode prog_8_method_34_code 45 = .ok (.iload_n 1, 1) := by decide +kernel
theorem d_Mo_lasting_46 : decode prog_8_method_34_code 46 = .ok (.ireturn, 1) := by decide +kernel
theorem d_Mo_promises_0 : decode prog_8_method_35_code 0 = .ok (.aload_n 0, 1) := by decide +kernel
theorem d_Mo_promises_1 : decode prog_8_method_35_code 1 = .ok (.iconst 1, 1) := by decide +kernel
theorem d_Mo_promises_2 : decode prog_8_method_35_code 2 = .ok (.invokevirtual 208, 3) := by decide +kernel
theorem d_Mo_promises_5 : decode prog_8_method_35_code 5 = .ok (.ifCond .eq 7, 3) := by decide +kernel
theorem d_Mo_promises_8 : decode prog_8_method_35_code 8 = .ok (.iconst 0, 1) := by decide +kernel
theorem d_Mo_promises_9 : decode prog_8_method_35_code 9 = .ok (.goto 7, 3) := by decide +kernel
theorem d_Mo_promises_12 : decode prog_8_method_35_code 12 = .ok (.aload_n 0, 1) := by decide +kernel
theorem d_Mo_promises_13 : decode prog_8_method_35_code 13 = .ok (.getfield 156, 3) := by decide +kernel
theorem d_Mo_promises_16 : decode prog_8_method_35_code 16 = .ok (.ireturn, 1) := by decide +kernel
theorem d_Mo_can_0 : decode prog_8_method_36_code 0 = .ok (.aload_n 0, 1) := by decide +kernel
theorem d_Mo_can_1 : decode prog_8_method_36_code 1 = .ok (.iconst 1, 1) := by decide +kernel
theorem d_Mo_can_2 : decode prog_8_method_36_code 2 = .ok (.invokevirtual 208, 3) := by decide +kernel
theorem d_Mo_can_5 : decode prog_8_method_36_code 5 = .ok (.ifCond .ne 14, 3) := by decide +kernel
theorem d_Mo_can_8 : decode prog_8_method_36_code 8 = .ok (.aload_n 0, 1) := by decide +kernel
theorem d_Mo_can_9 : decode prog_8_method_36_code 9 = .ok (.getfield 192, 3) := by decide +kernel
theorem d_Mo_can_12 : decode prog_8_method_36_code 12 = .ok (.ifCond .lt 7, 3) := by decide +kernel
theorem d_Mo_can_15 : decode prog_8_method_36_code 15 = .ok (.iconst 1, 1) := by decide +kernel
theorem d_Mo_can_16 : decode prog_8_method_36_code 16 = .ok (.goto 4, 3) := by decide +kernel
theorem d_Mo_can_19 : decode prog_8_method_36_code 19 = .ok (.iconst 0, 1) := by decide +kernel
theorem d_Mo_can_20 : decode prog_8_method_36_code 20 = .ok (.ireturn, 1) := by decide +kernel
theorem d_Mo_stem_0 : decode prog_8_method_37_code 0 = .ok (.aload_n 0, 1) := by decide +kernel
theorem d_Mo_stem_1 : decode prog_8_method_37_code 1 = .ok (.iconst 1, 1) := by decide +kernel
theorem d_Mo_stem_2 : decode prog_8_method_37_code 2 = .ok (.invokevirtual 208, 3) := by decide +kernel
theorem d_Mo_stem_5 : decode prog_8_method_37_code 5 = .ok (.ifCond .eq 7, 3) := by decide +kernel
theorem d_Mo_stem_8 : decode prog_8_method_37_code 8 = .ok (.iconst 0, 1) := by decide +kernel
theorem d_Mo_stem_9 : decode prog_8_method_37_code 9 = .ok (.goto 7, 3) := by decide +kernel
theorem d_Mo_stem_12 : decode prog_8_method_37_code 12 = .ok (.aload_n 0, 1) := by decide +kernel
theorem d_Mo_stem_13 : decode prog_8_method_37_code 13 = .ok (.getfield 192, 3) := by decide +kernel
theorem d_Mo_stem_16 : decode prog_8_method_37_code 16 = .ok (.ireturn, 1) := by decide +kernel
theorem d_Mo_loop_0 : decode prog_8_method_38_code 0 = .ok (.aload_n 0, 1) := by decide +kernel
theorem d_Mo_loop_1 : decode prog_8_method_38_code 1 = .ok (.iconst 1, 1) := by decide +kernel
theorem d_Mo_loop_2 : decode prog_8_method_38_code 2 = .ok (.invokevirtual 208, 3) := by decide +kernel
theorem d_Mo_loop_5 : decode prog_8_method_38_code 5 = .ok (.ifCond .eq 7, 3) := by decide +kernel
theorem d_Mo_loop_8 : decode prog_8_method_38_code 8 = .ok (.iconst 0, 1) := by decide +kernel
theorem d_Mo_loop_9 : decode prog_8_method_38_code 9 = .ok (.goto 7, 3) := by decide +kernel
theorem d_Mo_loop_12 : decode prog_8_method_38_code 12 = .ok (.aload_n 0, 1) := by decide +kernel
theorem d_Mo_loop_13 : decode prog_8_method_38_code 13 = .ok (.getfield 195, 3) := by decide +kernel
theorem d_Mo_loop_16 : decode prog_8_method_38_code 16 = .ok (.ireturn, 1) := by decide +kernel
theorem d_Mo_step_0 : decode prog_8_method_39_code 0 = .ok (.aload_n 0, 1) := by decide +kernel
theorem d_Mo_step_1 : decode prog_8_method_39_code 1 = .ok (.aload_n 0, 1) := by decide +kernel
theorem d_Mo_step_2 : decode prog_8_method_39_code 2 = .ok (.getfield 146, 3) := by decide +kernel
theorem d_Mo_step_5 : decode prog_8_method_39_code 5 = .ok (.ifCond .eq 10, 3) := by decide +kernel
theorem d_Mo_step_8 : decode prog_8_method_39_code 8 = .ok (.aload_n 0, 1) := by decide +kernel
theorem d_Mo_step_9 : decode prog_8_method_39_code 9 = .ok (.getfield 192, 3) := by decide +kernel
theorem d_Mo_step_12 : decode prog_8_method_39_code 12 = .ok (.ifCond .ge 7, 3) := by decide +kernel
theorem d_Mo_step_15 : decode prog_8_method_39_code 15 = .ok (.iconst 1, 1) := by decide +kernel
theorem d_Mo_step_16 : decode prog_8_method_39_code 16 = .ok (.goto 25, 3) := by decide +kernel
theorem d_Mo_step_19 : decode prog_8_method_39_code 19 = .ok (.iload_n 1, 1) := by decide +kernel
theorem d_Mo_step_20 : decode prog_8_method_39_code 20 = .ok (.ifCond .lt 16, 3) := by decide +kernel
theorem d_Mo_step_23 : decode prog_8_method_39_code 23 = .ok (.iload_n 1, 1) := by decide +kernel
theorem d_Mo_step_24 : decode prog_8_method_39_code 24 = .ok (.aload_n 0, 1) := by decide +kernel
theorem d_Mo_step_25 : decode prog_8_method_39_code 25 = .ok (.getfield 192, 3) := by decide +kernel
theorem d_Mo_step_28 : decode prog_8_method_39_code 28 = .ok (.aload_n 0, 1) := by decide +kernel
theorem d_Mo_step_29 : decode prog_8_method_39_code 29 = .ok (.getfield 195, 3) := by decide +kernel
theorem d_Mo_step_32 : decode prog_8_method_39_code 32 = .ok (.iadd, 1) := by decide +kernel
theorem d_Mo_step_33 : decode prog_8_method_39_code 33 = .ok (.if_icmp .lt 7, 3) := by decide +kernel
theorem d_Mo_step_36 : decode prog_8_method_39_code 36 = .ok (.iconst 2, 1) := by decide +kernel
theorem d_Mo_step_37 : decode prog_8_method_39_code 37 = .ok (.goto 4, 3) := by decide +kernel
theorem d_Mo_step_40 : decode prog_8_method_39_code 40 = .ok (.iconst 0, 1) := by decide +kernel
theorem d_Mo_step_41 : decode prog_8_method_39_code 41 = .ok (.putfield 93, 3) := by decide +kernel
theorem d_Mo_step_44 : decode prog_8_method_39_code 44 = .ok (.aload_n 0, 1) := by decide +kernel
theorem d_Mo_step_45 : decode prog_8_method_39_code 45 = .ok (.getfield 93, 3) := by decide +kernel
theorem d_Mo_step_48 : decode prog_8_method_39_code 48 = .ok (.ifCond .le 7, 3) := by decide +kernel
theorem d_Mo_step_51 : decode prog_8_method_39_code 51 = .ok (.iconst 0, 1) := by decide +kernel
theorem d_Mo_step_52 : decode prog_8_method_39_code 52 = .ok (.goto 9, 3) := by decide +kernel
theorem d_Mo_step_55 : decode prog_8_method_39_code 55 = .ok (.aload_n 0, 1) := by decide +kernel
theorem d_Mo_step_56 : decode prog_8_method_39_code 56 = .ok (.getfield 77, 3) := by decide +kernel
theorem d_Mo_step_59 : decode prog_8_method_39_code 59 = .ok (.iload_n 1, 1) := by decide +kernel
theorem d_Mo_step_60 : decode prog_8_method_39_code 60 = .ok (.iaload, 1) := by decide +kernel
theorem d_Mo_step_61 : decode prog_8_method_39_code 61 = .ok (.ireturn, 1) := by decide +kernel
theorem d_Mo_shape_0 : decode prog_8_method_40_code 0 = .ok (.aload_n 0, 1) := by decide +kernel
theorem d_Mo_shape_1 : decode prog_8_method_40_code 1 = .ok (.iload_n 1, 1) := by decide +kernel
theorem d_Mo_shape_2 : decode prog_8_method_40_code 2 = .ok (.ifCond .lt 20, 3) := by decide +kernel
theorem d_Mo_shape_5 : decode prog_8_method_40_code 5 = .ok (.iload_n 1, 1) := by decide +kernel
theorem d_Mo_shape_6 : decode prog_8_method_40_code 6 = .ok (.bipush 8, 2) := by decide +kernel
end
section
theorem d_Mo_shape_8 : decode prog_8_method_40_code 8 = .ok (.if_icmp .gt 14, 3) := by decide +kernel
theorem d_Mo_shape_11 : decode prog_8_method_40_code 11 = .ok (.iload_n 2, 1) := by decide +kernel
theorem d_Mo_shape_12 : decode prog_8_method_40_code 12 = .ok (.iconst 1, 1) := by decide +kernel
theorem d_Mo_shape_13 : decode prog_8_method_40_code 13 = .ok (.if_icmp .lt 9, 3) := by decide +kernel
theorem d_Mo_shape_16 : decode prog_8_method_40_code 16 = .ok (.iload_n 2, 1) := by decide +kernel
theorem d_Mo_shape_17 : decode prog_8_method_40_code 17 = .ok (.bipush 8, 2) := by decide +kernel
theorem d_Mo_shape_19 : decode prog_8_method_40_code 19 = .ok (.if_icmp .le 7, 3) := by decide +kernel
theorem d_Mo_shape_22 : decode prog_8_method_40_code 22 = .ok (.iconst 1, 1) := by decide +kernel
theorem d_Mo_shape_23 : decode prog_8_method_40_code 23 = .ok (.goto 4, 3) := by decide +kernel
theorem d_Mo_shape_26 : decode prog_8_method_40_code 26 = .ok (.iconst 0, 1) := by decide +kernel
theorem d_Mo_shape_27 : decode prog_8_method_40_code 27 = .ok (.putfield 93, 3) := by decide +kernel
theorem d_Mo_shape_30 : decode prog_8_method_40_code 30 = .ok (.aload_n 0, 1) := by decide +kernel
theorem d_Mo_shape_31 : decode prog_8_method_40_code 31 = .ok (.getfield 93, 3) := by decide +kernel
theorem d_Mo_shape_34 : decode prog_8_method_40_code 34 = .ok (.ifCond .le 4, 3) := by decide +kernel
theorem d_Mo_shape_37 : decode prog_8_method_40_code 37 = .ok (.return_, 1) := by decide +kernel
theorem d_Mo_shape_38 : decode prog_8_method_40_code 38 = .ok (.aload_n 0, 1) := by decide +kernel
theorem d_Mo_shape_39 : decode prog_8_method_40_code 39 = .ok (.getfield 215, 3) := by decide +kernel
theorem d_Mo_shape_42 : decode prog_8_method_40_code 42 = .ok (.aload_n 0, 1) := by decide +kernel
theorem d_Mo_shape_43 : decode prog_8_method_40_code 43 = .ok (.getfield 89, 3) := by decide +kernel
theorem d_Mo_shape_46 : decode prog_8_method_40_code 46 = .ok (.iadd, 1) := by decide +kernel
theorem d_Mo_shape_47 : decode prog_8_method_40_code 47 = .ok (.istore_n 3, 1) := by decide +kernel
theorem d_Mo_shape_48 : decode prog_8_method_40_code 48 = .ok (.iload_n 3, 1) := by decide +kernel
theorem d_Mo_shape_49 : decode prog_8_method_40_code 49 = .ok (.bipush 16, 2) := by decide +kernel
theorem d_Mo_shape_51 : decode prog_8_method_40_code 51 = .ok (.if_icmp .ge 16, 3) := by decide +kernel
theorem d_Mo_shape_54 : decode prog_8_method_40_code 54 = .ok (.aload_n 0, 1) := by decide +kernel
theorem d_Mo_shape_55 : decode prog_8_method_40_code 55 = .ok (.getfield 83, 3) := by decide +kernel
theorem d_Mo_shape_58 : decode prog_8_method_40_code 58 = .ok (.iload_n 3, 1) := by decide +kernel
theorem d_Mo_shape_59 : decode prog_8_method_40_code 59 = .ok (.iconst 0, 1) := by decide +kernel
theorem d_Mo_shape_60 : decode prog_8_method_40_code 60 = .ok (.iastore, 1) := by decide +kernel
theorem d_Mo_shape_61 : decode prog_8_method_40_code 61 = .ok (.iinc 3 1, 3) := by decide +kernel
theorem d_Mo_shape_64 : decode prog_8_method_40_code 64 = .ok (.goto (-16), 3) := by decide +kernel
theorem d_Mo_shape_67 : decode prog_8_method_40_code 67 = .ok (.iload_n 1, 1) := by decide +kernel
theorem d_Mo_shape_68 : decode prog_8_method_40_code 68 = .ok (.iload_n 2, 1) := by decide +kernel
theorem d_Mo_shape_69 : decode prog_8_method_40_code 69 = .ok (.iadd, 1) := by decide +kernel
theorem d_Mo_shape_70 : decode prog_8_method_40_code 70 = .ok (.istore_n 3, 1) := by decide +kernel
theorem d_Mo_shape_71 : decode prog_8_method_40_code 71 = .ok (.iload_n 3, 1) := by decide +kernel
theorem d_Mo_shape_72 : decode prog_8_method_40_code 72 = .ok (.bipush 16, 2) := by decide +kernel
theorem d_Mo_shape_74 : decode prog_8_method_40_code 74 = .ok (.if_icmp .ge 16, 3) := by decide +kernel
theorem d_Mo_shape_77 : decode prog_8_method_40_code 77 = .ok (.aload_n 0, 1) := by decide +kernel
theorem d_Mo_shape_78 : decode prog_8_method_40_code 78 = .ok (.getfield 83, 3) := by decide +kernel
theorem d_Mo_shape_81 : decode prog_8_method_40_code 81 = .ok (.iload_n 3, 1) := by decide +kernel
theorem d_Mo_shape_82 : decode prog_8_method_40_code 82 = .ok (.iconst 0, 1) := by decide +kernel
theorem d_Mo_shape_83 : decode prog_8_method_40_code 83 = .ok (.iastore, 1) := by decide +kernel
theorem d_Mo_shape_84 : decode prog_8_method_40_code 84 = .ok (.iinc 3 1, 3) := by decide +kernel
theorem d_Mo_shape_87 : decode prog_8_method_40_code 87 = .ok (.goto (-16), 3) := by decide +kernel
theorem d_Mo_shape_90 : decode prog_8_method_40_code 90 = .ok (.aload_n 0, 1) := by decide +kernel
theorem d_Mo_shape_91 : decode prog_8_method_40_code 91 = .ok (.iload_n 1, 1) := by decide +kernel
theorem d_Mo_shape_92 : decode prog_8_method_40_code 92 = .ok (.putfield 215, 3) := by decide +kernel
theorem d_Mo_shape_95 : decode prog_8_method_40_code 95 = .ok (.aload_n 0, 1) := by decide +kernel
theorem d_Mo_shape_96 : decode prog_8_method_40_code 96 = .ok (.iload_n 2, 1) := by decide +kernel
theorem d_Mo_shape_97 : decode prog_8_method_40_code 97 = .ok (.putfield 89, 3) := by decide +kernel
theorem d_Mo_shape_100 : decode prog_8_method_40_code 100 = .ok (.return_, 1) := by decide +kernel
theorem d_Mo_set_0 : decode prog_8_method_41_code 0 = .ok (.aload_n 0, 1) := by decide +kernel
theorem d_Mo_set_1 : decode prog_8_method_41_code 1 = .ok (.iload_n 1, 1) := by decide +kernel
theorem d_Mo_set_2 : decode prog_8_method_41_code 2 = .ok (.ifCond .lt 16, 3) := by decide +kernel
theorem d_Mo_set_5 : decode prog_8_method_41_code 5 = .ok (.iload_n 1, 1) := by decide +kernel
theorem d_Mo_set_6 : decode prog_8_method_41_code 6 = .ok (.aload_n 0, 1) := by decide +kernel
theorem d_Mo_set_7 : decode prog_8_method_41_code 7 = .ok (.getfield 215, 3) := by decide +kernel
theorem d_Mo_set_10 : decode prog_8_method_41_code 10 = .ok (.aload_n 0, 1) := by decide +kernel
theorem d_Mo_set_11 : decode prog_8_method_41_code 11 = .ok (.getfield 89, 3) := by decide +kernel
theorem d_Mo_set_14 : decode prog_8_method_41_code 14 = .ok (.iadd, 1) := by decide +kernel
theorem d_Mo_set_15 : decode prog_8_method_41_code 15 = .ok (.if_icmp .lt 7, 3) := by decide +kernel
theorem d_Mo_set_18 : decode prog_8_method_41_code 18 = .ok (.iconst 1, 1) := by decide +kernel
theorem d_Mo_set_19 : decode prog_8_method_41_code 19 = .ok (.goto 4, 3) := by decide +kernel
theorem d_Mo_set_22 : decode prog_8_method_41_code 22 = .ok (.iconst 0, 1) := by decide +kernel
theorem d_Mo_set_23 : decode prog_8_method_41_code 23 = .ok (.putfield 93, 3) := by decide +kernel
theorem d_Mo_set_26 : decode prog_8_method_41_code 26 = .ok (.aload_n 0, 1) := by decide +kernel
theorem d_Mo_set_27 : decode prog_8_method_41_code 27 = .ok (.getfield 93, 3) := by decide +kernel
theorem d_Mo_set_30 : decode prog_8_method_41_code 30 = .ok (.ifCond .le 5, 3) := by decide +kernel
theorem d_Mo_set_33 : decode prog_8_method_41_code 33 = .ok (.iconst 0, 1) := by decide +kernel
theorem d_Mo_set_34 : decode prog_8_method_41_code 34 = .ok (.ireturn, 1) := by decide +kernel
theorem d_Mo_set_35 : decode prog_8_method_41_code 35 = .ok (.aload_n 0, 1) := by decide +kernel
theorem d_Mo_set_36 : decode prog_8_method_41_code 36 = .ok (.getfield 83, 3) := by decide +kernel
theorem d_Mo_set_39 : decode prog_8_method_41_code 39 = .ok (.iload_n 1, 1) := by decide +kernel
theorem d_Mo_set_40 : decode prog_8_method_41_code 40 = .ok (.iaload, 1) := by decide +kernel
theorem d_Mo_set_41 : decode prog_8_method_41_code 41 = .ok (.istore_n 3, 1) := by decide +kernel
theorem d_Mo_set_42 : decode prog_8_method_41_code 42 = .ok (.aload_n 0, 1) := by decide +kernel
theorem d_Mo_set_43 : decode prog_8_method_41_code 43 = .ok (.getfield 83, 3) := by decide +kernel
theorem d_Mo_set_46 : decode prog_8_method_41_code 46 = .ok (.iload_n 1, 1) := by decide +kernel
theorem d_Mo_set_47 : decode prog_8_method_41_code 47 = .ok (.iload_n 2, 1) := by decide +kernel
theorem d_Mo_set_48 : decode prog_8_method_41_code 48 = .ok (.bipush 7, 2) := by decide +kernel
theorem d_Mo_set_50 : decode prog_8_method_41_code 50 = .ok (.iand, 1) := by decide +kernel
theorem d_Mo_set_51 : decode prog_8_method_41_code 51 = .ok (.iastore, 1) := by decide +kernel
theorem d_Mo_set_52 : decode prog_8_method_41_code 52 = .ok (.iload_n 3, 1) := by decide +kernel
theorem d_Mo_set_53 : decode prog_8_method_41_code 53 = .ok (.ireturn, 1) := by decide +kernel
theorem d_Mo_adopt_0 : decode prog_8_method_42_code 0 = .ok (.aload_n 0, 1) := by decide +kernel
theorem d_Mo_adopt_1 : decode prog_8_method_42_code 1 = .ok (.iconst 1, 1) := by decide +kernel
theorem d_Mo_adopt_2 : decode prog_8_method_42_code 2 = .ok (.invokevirtual 208, 3) := by decide +kernel
theorem d_Mo_adopt_5 : decode prog_8_method_42_code 5 = .ok (.ifCond .ne 28, 3) := by decide +kernel
theorem d_Mo_adopt_8 : decode prog_8_method_42_code 8 = .ok (.aload_n 0, 1) := by decide +kernel
theorem d_Mo_adopt_9 : decode prog_8_method_42_code 9 = .ok (.getfield 192, 3) := by decide +kernel
theorem d_Mo_adopt_12 : decode prog_8_method_42_code 12 = .ok (.ifCond .lt 21, 3) := by decide +kernel
theorem d_Mo_adopt_15 : decode prog_8_method_42_code 15 = .ok (.aload_n 0, 1) := by decide +kernel
theorem d_Mo_adopt_16 : decode prog_8_method_42_code 16 = .ok (.getfield 192, 3) := by decide +kernel
theorem d_Mo_adopt_19 : decode prog_8_method_42_code 19 = .ok (.bipush 8, 2) := by decide +kernel
theorem d_Mo_adopt_21 : decode prog_8_method_42_code 21 = .ok (.if_icmp .gt 12, 3) := by decide +kernel
theorem d_Mo_adopt_24 : decode prog_8_method_42_code 24 = .ok (.aload_n 0, 1) := by decide +kernel
theorem d_Mo_adopt_25 : decode prog_8_method_42_code 25 = .ok (.getfield 195, 3) := by decide +kernel
theorem d_Mo_adopt_28 : decode prog_8_method_42_code 28 = .ok (.bipush 8, 2) := by decide +kernel
theorem d_Mo_adopt_30 : decode prog_8_method_42_code 30 = .ok (.if_icmp .le 5, 3) := by decide +kernel
theorem d_Mo_adopt_33 : decode prog_8_method_42_code 33 = .ok (.iconst 0, 1) := by decide +kernel
theorem d_Mo_adopt_34 : decode prog_8_method_42_code 34 = .ok (.ireturn, 1) := by decide +kernel
theorem d_Mo_adopt_35 : decode prog_8_method_42_code 35 = .ok (.aload_n 0, 1) := by decide +kernel
theorem d_Mo_adopt_36 : decode prog_8_method_42_code 36 = .ok (.aload_n 0, 1) := by decide +kernel
theorem d_Mo_adopt_37 : decode prog_8_method_42_code 37 = .ok (.getfield 192, 3) := by decide +kernel
theorem d_Mo_adopt_40 : decode prog_8_method_42_code 40 = .ok (.putfield 215, 3) := by decide +kernel
theorem d_Mo_adopt_43 : decode prog_8_method_42_code 43 = .ok (.aload_n 0, 1) := by decide +kernel
theorem d_Mo_adopt_44 : decode prog_8_method_42_code 44 = .ok (.aload_n 0, 1) := by decide +kernel
theorem d_Mo_adopt_45 : decode prog_8_method_42_code 45 = .ok (.getfield 195, 3) := by decide +kernel
theorem d_Mo_adopt_48 : decode prog_8_method_42_code 48 = .ok (.putfield 89, 3) := by decide +kernel
theorem d_Mo_adopt_51 : decode prog_8_method_42_code 51 = .ok (.iconst 0, 1) := by decide +kernel
theorem d_Mo_adopt_52 : decode prog_8_method_42_code 52 = .ok (.istore_n 1, 1) := by decide +kernel
theorem d_Mo_adopt_53 : decode prog_8_method_42_code 53 = .ok (.iload_n 1, 1) := by decide +kernel
theorem d_Mo_adopt_54 : decode prog_8_method_42_code 54 = .ok (.bipush 16, 2) := by decide +kernel
theorem d_Mo_adopt_56 : decode prog_8_method_42_code 56 = .ok (.if_icmp .ge 41, 3) := by decide +kernel
theorem d_Mo_adopt_59 : decode prog_8_method_42_code 59 = .ok (.aload_n 0, 1) := by decide +kernel
theorem d_Mo_adopt_60 : decode prog_8_method_42_code 60 = .ok (.getfield 83, 3) := by decide +kernel
theorem d_Mo_adopt_63 : decode prog_8_method_42_code 63 = .ok (.iload_n 1, 1) := by decide +kernel
theorem d_Mo_adopt_64 : decode prog_8_method_42_code 64 = .ok (.iload_n 1, 1) := by decide +kernel
theorem d_Mo_adopt_65 : decode prog_8_method_42_code 65 = .ok (.aload_n 0, 1) := by decide +kernel
theorem d_Mo_adopt_66 : decode prog_8_method_42_code 66 = .ok (.getfield 192, 3) := by decide +kernel
theorem d_Mo_adopt_69 : decode prog_8_method_42_code 69 = .ok (.aload_n 0, 1) := by decide +kernel
theorem d_Mo_adopt_70 : decode prog_8_method_42_code 70 = .ok (.getfield 195, 3) := by decide +kernel
theorem d_Mo_adopt_73 : decode prog_8_method_42_code 73 = .ok (.iadd, 1) := by decide +kernel
theorem d_Mo_adopt_74 : decode prog_8_method_42_code 74 = .ok (.if_icmp .ge 15, 3) := by decide +kernel
theorem d_Mo_adopt_77 : decode prog_8_method_42_code 77 = .ok (.aload_n 0, 1) := by decide +kernel
theorem d_Mo_adopt_78 : decode prog_8_method_42_code 78 = .ok (.getfield 77, 3) := by decide +kernel
theorem d_Mo_adopt_81 : decode prog_8_method_42_code 81 = .ok (.iload_n 1, 1) := by decide +kernel
theorem d_Mo_adopt_82 : decode prog_8_method_42_code 82 = .ok (.iaload, 1) := by decide +kernel
theorem d_Mo_adopt_83 : decode prog_8_method_42_code 83 = .ok (.bipush 7, 2) := by decide +kernel
theorem d_Mo_adopt_85 : decode prog_8_method_42_code 85 = .ok (.iand, 1) := by decide +kernel
theorem d_Mo_adopt_86 : decode prog_8_method_42_code 86 = .ok (.goto 4, 3) := by decide +kernel
theorem d_Mo_adopt_89 : decode prog_8_method_42_code 89 = .ok (.iconst 0, 1) := by decide +kernel
theorem d_Mo_adopt_90 : decode prog_8_method_42_code 90 = .ok (.iastore, 1) := by decide +kernel
theorem d_Mo_adopt_91 : decode prog_8_method_42_code 91 = .ok (.iinc 1 1, 3) := by decide +kernel
theorem d_Mo_adopt_94 : decode prog_8_method_42_code 94 = .ok (.goto (-41), 3) := by decide +kernel
theorem d_Mo_adopt_97 : decode prog_8_method_42_code 97 = .ok (.iconst 1, 1) := by decide +kernel
theorem d_Mo_adopt_98 : decode prog_8_method_42_code 98 = .ok (.ireturn, 1) := by decide +kernel
theorem d_Mo_placeOf_0 : decode prog_8_method_43_code 0 = .ok (.iload_n 1, 1) := by decide +kernel
theorem d_Mo_placeOf_1 : decode prog_8_method_43_code 1 = .ok (.aload_n 0, 1) := by decide +kernel
theorem d_Mo_placeOf_2 : decode prog_8_method_43_code 2 = .ok (.getfield 215, 3) := by decide +kernel
theorem d_Mo_placeOf_5 : decode prog_8_method_43_code 5 = .ok (.if_icmp .ge 7, 3) := by decide +kernel
theorem d_Mo_placeOf_8 : decode prog_8_method_43_code 8 = .ok (.iload_n 1, 1) := by decide +kernel
theorem d_Mo_placeOf_9 : decode prog_8_method_43_code 9 = .ok (.goto 19, 3) := by decide +kernel
theorem d_Mo_placeOf_12 : decode prog_8_method_43_code 12 = .ok (.aload_n 0, 1) := by decide +kernel
theorem d_Mo_placeOf_13 : decode prog_8_method_43_code 13 = .ok (.getfield 215, 3) := by decide +kernel
theorem d_Mo_placeOf_16 : decode prog_8_method_43_code 16 = .ok (.iload_n 1, 1) := by decide +kernel
theorem d_Mo_placeOf_17 : decode prog_8_method_43_code 17 = .ok (.aload_n 0, 1) := by decide +kernel
theorem d_Mo_placeOf_18 : decode prog_8_method_43_code 18 = .ok (.getfield 215, 3) := by decide +kernel
theorem d_Mo_placeOf_21 : decode prog_8_method_43_code 21 = .ok (.isub, 1) := by decide +kernel
theorem d_Mo_placeOf_22 : decode prog_8_method_43_code 22 = .ok (.aload_n 0, 1) := by decide +kernel
theorem d_Mo_placeOf_23 : decode prog_8_method_43_code 23 = .ok (.getfield 89, 3) := by decide +kernel
theorem d_Mo_placeOf_26 : decode prog_8_method_43_code 26 = .ok (.irem, 1) := by decide +kernel
theorem d_Mo_placeOf_27 : decode prog_8_method_43_code 27 = .ok (.iadd, 1) := by decide +kernel
theorem d_Mo_placeOf_28 : decode prog_8_method_43_code 28 = .ok (.ireturn, 1) := by decide +kernel
theorem d_Mo_letter_0 : decode prog_8_method_44_code 0 = .ok (.aload_n 0, 1) := by decide +kernel
theorem d_Mo_letter_1 : decode prog_8_method_44_code 1 = .ok (.iload_n 1, 1) := by decide +kernel
theorem d_Mo_letter_2 : decode prog_8_method_44_code 2 = .ok (.ifCond .ge 7, 3) := by decide +kernel
theorem d_Mo_letter_5 : decode prog_8_method_44_code 5 = .ok (.iconst 1, 1) := by decide +kernel
theorem d_Mo_letter_6 : decode prog_8_method_44_code 6 = .ok (.goto 4, 3) := by decide +kernel
theorem d_Mo_letter_9 : decode prog_8_method_44_code 9 = .ok (.iconst 0, 1) := by decide +kernel
theorem d_Mo_letter_10 : decode prog_8_method_44_code 10 = .ok (.putfield 93, 3) := by decide +kernel
theorem d_Mo_letter_13 : decode prog_8_method_44_code 13 = .ok (.aload_n 0, 1) := by decide +kernel
theorem d_Mo_letter_14 : decode prog_8_method_44_code 14 = .ok (.getfield 93, 3) := by decide +kernel
theorem d_Mo_letter_17 : decode prog_8_method_44_code 17 = .ok (.ifCond .le 7, 3) := by decide +kernel
theorem d_Mo_letter_20 : decode prog_8_method_44_code 20 = .ok (.iconst 0, 1) := by decide +kernel
theorem d_Mo_letter_21 : decode prog_8_method_44_code 21 = .ok (.goto 13, 3) := by decide +kernel
theorem d_Mo_letter_24 : decode prog_8_method_44_code 24 = .ok (.aload_n 0, 1) := by decide +kernel
theorem d_Mo_letter_25 : decode prog_8_method_44_code 25 = .ok (.getfield 83, 3) := by decide +kernel
theorem d_Mo_letter_28 : decode prog_8_method_44_code 28 = .ok (.aload_n 0, 1) := by decide +kernel
theorem d_Mo_letter_29 : decode prog_8_method_44_code 29 = .ok (.iload_n 1, 1) := by decide +kernel
theorem d_Mo_letter_30 : decode prog_8_method_44_code 30 = .ok (.invokevirtual 218, 3) := by decide +kernel
theorem d_Mo_letter_33 : decode prog_8_method_44_code 33 = .ok (.iaload, 1) := by decide +kernel
theorem d_Mo_letter_34 : decode prog_8_method_44_code 34 = .ok (.ireturn, 1) := by decide +kernel
theorem d_Mo_spread_0 : decode prog_8_method_45_code 0 = .ok (.aload_n 0, 1) := by decide +kernel
theorem d_Mo_spread_1 : decode prog_8_method_45_code 1 = .ok (.getfield 215, 3) := by decide +kernel
theorem d_Mo_spread_4 : decode prog_8_method_45_code 4 = .ok (.aload_n 0, 1) := by decide +kernel
theorem d_Mo_spread_5 : decode prog_8_method_45_code 5 = .ok (.getfield 89, 3) := by decide +kernel
theorem d_Mo_spread_8 : decode prog_8_method_45_code 8 = .ok (.iadd, 1) := by decide +kernel
theorem d_Mo_spread_9 : decode prog_8_method_45_code 9 = .ok (.istore_n 2, 1) := by decide +kernel
theorem d_Mo_spread_10 : decode prog_8_method_45_code 10 = .ok (.iconst 0, 1) := by decide +kernel
theorem d_Mo_spread_11 : decode prog_8_method_45_code 11 = .ok (.istore_n 3, 1) := by decide +kernel
theorem d_Mo_spread_12 : decode prog_8_method_45_code 12 = .ok (.iload_n 3, 1) := by decide +kernel
theorem d_Mo_spread_13 : decode prog_8_method_45_code 13 = .ok (.iload_n 2, 1) := by decide +kernel
theorem d_Mo_spread_14 : decode prog_8_method_45_code 14 = .ok (.if_icmp .ge 47, 3) := by decide +kernel
theorem d_Mo_spread_17 : decode prog_8_method_45_code 17 = .ok (.aload_n 0, 1) := by decide +kernel
theorem d_Mo_spread_18 : decode prog_8_method_45_code 18 = .ok (.getfield 86, 3) := by decide +kernel
theorem d_Mo_spread_21 : decode prog_8_method_45_code 21 = .ok (.bipush 16, 2) := by decide +kernel
theorem d_Mo_spread_23 : decode prog_8_method_45_code 23 = .ok (.iload_n 1, 1) := by decide +kernel
theorem d_Mo_spread_24 : decode prog_8_method_45_code 24 = .ok (.imul, 1) := by decide +kernel
theorem d_Mo_spread_25 : decode prog_8_method_45_code 25 = .ok (.iload_n 3, 1) := by decide +kernel
theorem d_Mo_spread_26 : decode prog_8_method_45_code 26 = .ok (.iadd, 1) := by decide +kernel
theorem d_Mo_spread_27 : decode prog_8_method_45_code 27 = .ok (.aload_n 0, 1) := by decide +kernel
theorem d_Mo_spread_28 : decode prog_8_method_45_code 28 = .ok (.getfield 13, 3) := by decide +kernel
theorem d_Mo_spread_31 : decode prog_8_method_45_code 31 = .ok (.iload_n 1, 1) := by decide +kernel
theorem d_Mo_spread_32 : decode prog_8_method_45_code 32 = .ok (.iaload, 1) := by decide +kernel
theorem d_Mo_spread_33 : decode prog_8_method_45_code 33 = .ok (.bipush 8, 2) := by decide +kernel
theorem d_Mo_spread_35 : decode prog_8_method_45_code 35 = .ok (.if_icmp .eq 14, 3) := by decide +kernel
theorem d_Mo_spread_38 : decode prog_8_method_45_code 38 = .ok (.aload_n 0, 1) := by decide +kernel
theorem d_Mo_spread_39 : decode prog_8_method_45_code 39 = .ok (.getfield 13, 3) := by decide +kernel
theorem d_Mo_spread_42 : decode prog_8_method_45_code 42 = .ok (.iload_n 1, 1) := by decide +kernel
theorem d_Mo_spread_43 : decode prog_8_method_45_code 43 = .ok (.iaload, 1) := by decide +kernel
theorem d_Mo_spread_44 : decode prog_8_method_45_code 44 = .ok (.bipush 10, 2) := by decide +kernel
theorem d_Mo_spread_46 : decode prog_8_method_45_code 46 = .ok (.if_icmp .ne 7, 3) := by decide +kernel
theorem d_Mo_spread_49 : decode prog_8_method_45_code 49 = .ok (.iconst 1, 1) := by decide +kernel
theorem d_Mo_spread_50 : decode prog_8_method_45_code 50 = .ok (.goto 4, 3) := by decide +kernel
theorem d_Mo_spread_53 : decode prog_8_method_45_code 53 = .ok (.iconst 0, 1) := by decide +kernel
theorem d_Mo_spread_54 : decode prog_8_method_45_code 54 = .ok (.bastore, 1) := by decide +kernel
theorem d_Mo_spread_55 : decode prog_8_method_45_code 55 = .ok (.iinc 3 1, 3) := by decide +kernel
theorem d_Mo_spread_58 : decode prog_8_method_45_code 58 = .ok (.goto (-46), 3) := by decide +kernel
theorem d_Mo_spread_61 : decode prog_8_method_45_code 61 = .ok (.iconst 0, 1) := by decide +kernel
theorem d_Mo_spread_62 : decode prog_8_method_45_code 62 = .ok (.istore_n 3, 1) := by decide +kernel
theorem d_Mo_spread_63 : decode prog_8_method_45_code 63 = .ok (.iload_n 3, 1) := by decide +kernel
theorem d_Mo_spread_64 : decode prog_8_method_45_code 64 = .ok (.bipush 18, 2) := by decide +kernel
theorem d_Mo_spread_66 : decode prog_8_method_45_code 66 = .ok (.if_icmp .ge 181, 3) := by decide +kernel
theorem d_Mo_spread_69 : decode prog_8_method_45_code 69 = .ok (.iconst 0, 1) := by decide +kernel
theorem d_Mo_spread_70 : decode prog_8_method_45_code 70 = .ok (.istore 4, 2) := by decide +kernel
theorem d_Mo_spread_72 : decode prog_8_method_45_code 72 = .ok (.iload 4, 2) := by decide +kernel
theorem d_Mo_spread_74 : decode prog_8_method_45_code 74 = .ok (.iload_n 2, 1) := by decide +kernel
theorem d_Mo_spread_75 : decode prog_8_method_45_code 75 = .ok (.if_icmp .ge 166, 3) := by decide +kernel
theorem d_Mo_spread_78 : decode prog_8_method_45_code 78 = .ok (.iload 4, 2) := by decide +kernel
theorem d_Mo_spread_80 : decode prog_8_method_45_code 80 = .ok (.iconst 1, 1) := by decide +kernel
theorem d_Mo_spread_81 : decode prog_8_method_45_code 81 = .ok (.iadd, 1) := by decide +kernel
theorem d_Mo_spread_82 : decode prog_8_method_45_code 82 = .ok (.iload_n 2, 1) := by decide +kernel
theorem d_Mo_spread_83 : decode prog_8_method_45_code 83 = .ok (.if_icmp .ge 10, 3) := by decide +kernel
theorem d_Mo_spread_86 : decode prog_8_method_45_code 86 = .ok (.iload 4, 2) := by decide +kernel
theorem d_Mo_spread_88 : decode prog_8_method_45_code 88 = .ok (.iconst 1, 1) := by decide +kernel
theorem d_Mo_spread_89 : decode prog_8_method_45_code 89 = .ok (.iadd, 1) := by decide +kernel
theorem d_Mo_spread_90 : decode prog_8_method_45_code 90 = .ok (.goto 7, 3) := by decide +kernel
theorem d_Mo_spread_93 : decode prog_8_method_45_code 93 = .ok (.aload_n 0, 1) := by decide +kernel
theorem d_Mo_spread_94 : decode prog_8_method_45_code 94 = .ok (.getfield 215, 3) := by decide +kernel
theorem d_Mo_spread_97 : decode prog_8_method_45_code 97 = .ok (.istore 5, 2) := by decide +kernel
theorem d_Mo_spread_99 : decode prog_8_method_45_code 99 = .ok (.aload_n 0, 1) := by decide +kernel
theorem d_Mo_spread_100 : decode prog_8_method_45_code 100 = .ok (.getfield 16, 3) := by decide +kernel
theorem d_Mo_spread_103 : decode prog_8_method_45_code 103 = .ok (.iload_n 1, 1) := by decide +kernel
theorem d_Mo_spread_104 : decode prog_8_method_45_code 104 = .ok (.iaload, 1) := by decide +kernel
theorem d_Mo_spread_105 : decode prog_8_method_45_code 105 = .ok (.ifCond .lt 59, 3) := by decide +kernel
theorem d_Mo_spread_108 : decode prog_8_method_45_code 108 = .ok (.aload_n 0, 1) := by decide +kernel
theorem d_Mo_spread_109 : decode prog_8_method_45_code 109 = .ok (.getfield 62, 3) := by decide +kernel
theorem d_Mo_spread_112 : decode prog_8_method_45_code 112 = .ok (.aload_n 0, 1) := by decide +kernel
theorem d_Mo_spread_113 : decode prog_8_method_45_code 113 = .ok (.getfield 16, 3) := by decide +kernel
theorem d_Mo_spread_116 : decode prog_8_method_45_code 116 = .ok (.iload_n 1, 1) := by decide +kernel
theorem d_Mo_spread_117 : decode prog_8_method_45_code 117 = .ok (.iaload, 1) := by decide +kernel
theorem d_Mo_spread_118 : decode prog_8_method_45_code 118 = .ok (.aload_n 0, 1) := by decide +kernel
theorem d_Mo_spread_119 : decode prog_8_method_45_code 119 = .ok (.getfield 86, 3) := by decide +kernel
theorem d_Mo_spread_122 : decode prog_8_method_45_code 122 = .ok (.bipush 16, 2) := by decide +kernel
theorem d_Mo_spread_124 : decode prog_8_method_45_code 124 = .ok (.aload_n 0, 1) := by decide +kernel
theorem d_Mo_spread_125 : decode prog_8_method_45_code 125 = .ok (.getfield 16, 3) := by decide +kernel
theorem d_Mo_spread_128 : decode prog_8_method_45_code 128 = .ok (.iload_n 1, 1) := by decide +kernel
theorem d_Mo_spread_129 : decode prog_8_method_45_code 129 = .ok (.iaload, 1) := by decide +kernel
theorem d_Mo_spread_130 : decode prog_8_method_45_code 130 = .ok (.imul, 1) := by decide +kernel
theorem d_Mo_spread_131 : decode prog_8_method_45_code 131 = .ok (.iload 4, 2) := by decide +kernel
theorem d_Mo_spread_133 : decode prog_8_method_45_code 133 = .ok (.iadd, 1) := by decide +kernel
theorem d_Mo_spread_134 : decode prog_8_method_45_code 134 = .ok (.baload, 1) := by decide +kernel
theorem d_Mo_spread_135 : decode prog_8_method_45_code 135 = .ok (.bastore, 1) := by decide +kernel
theorem d_Mo_spread_136 : decode prog_8_method_45_code 136 = .ok (.aload_n 0, 1) := by decide +kernel
theorem d_Mo_spread_137 : decode prog_8_method_45_code 137 = .ok (.getfield 62, 3) := by decide +kernel
theorem d_Mo_spread_140 : decode prog_8_method_45_code 140 = .ok (.aload_n 0, 1) := by decide +kernel
theorem d_Mo_spread_141 : decode prog_8_method_45_code 141 = .ok (.getfield 19, 3) := by decide +kernel
theorem d_Mo_spread_144 : decode prog_8_method_45_code 144 = .ok (.iload_n 1, 1) := by decide +kernel
theorem d_Mo_spread_145 : decode prog_8_method_45_code 145 = .ok (.iaload, 1) := by decide +kernel
theorem d_Mo_spread_146 : decode prog_8_method_45_code 146 = .ok (.aload_n 0, 1) := by decide +kernel
theorem d_Mo_spread_147 : decode prog_8_method_45_code 147 = .ok (.getfield 86, 3) := by decide +kernel
theorem d_Mo_spread_150 : decode prog_8_method_45_code 150 = .ok (.bipush 16, 2) := by decide +kernel
theorem d_Mo_spread_152 : decode prog_8_method_45_code 152 = .ok (.aload_n 0, 1) := by decide +kernel
theorem d_Mo_spread_153 : decode prog_8_method_45_code 153 = .ok (.getfield 19, 3) := by decide +kernel
theorem d_Mo_spread_156 : decode prog_8_method_45_code 156 = .ok (.iload_n 1, 1) := by decide +kernel
theorem d_Mo_spread_157 : decode prog_8_method_45_code 157 = .ok (.iaload, 1) := by decide +kernel
theorem d_Mo_spread_158 : decode prog_8_method_45_code 158 = .ok (.imul, 1) := by decide +kernel
theorem d_Mo_spread_159 : decode prog_8_method_45_code 159 = .ok (.iload 4, 2) := by decide +kernel
theorem d_Mo_spread_161 : decode prog_8_method_45_code 161 = .ok (.iadd, 1) := by decide +kernel
theorem d_Mo_spread_162 : decode prog_8_method_45_code 162 = .ok (.baload, 1) := by decide +kernel
theorem d_Mo_spread_163 : decode prog_8_method_45_code 163 = .ok (.bastore, 1) := by decide +kernel
theorem d_Mo_spread_164 : decode prog_8_method_45_code 164 = .ok (.aload_n 0, 1) := by decide +kernel
theorem d_Mo_spread_165 : decode prog_8_method_45_code 165 = .ok (.getfield 13, 3) := by decide +kernel
theorem d_Mo_spread_168 : decode prog_8_method_45_code 168 = .ok (.iload_n 1, 1) := by decide +kernel
theorem d_Mo_spread_169 : decode prog_8_method_45_code 169 = .ok (.iaload, 1) := by decide +kernel
theorem d_Mo_spread_170 : decode prog_8_method_45_code 170 = .ok (.bipush 6, 2) := by decide +kernel
theorem d_Mo_spread_172 : decode prog_8_method_45_code 172 = .ok (.if_icmp .ne 23, 3) := by decide +kernel
theorem d_Mo_spread_175 : decode prog_8_method_45_code 175 = .ok (.aload_n 0, 1) := by decide +kernel
theorem d_Mo_spread_176 : decode prog_8_method_45_code 176 = .ok (.getfield 86, 3) := by decide +kernel
theorem d_Mo_spread_179 : decode prog_8_method_45_code 179 = .ok (.bipush 16, 2) := by decide +kernel
theorem d_Mo_spread_181 : decode prog_8_method_45_code 181 = .ok (.aload_n 0, 1) := by decide +kernel
theorem d_Mo_spread_182 : decode prog_8_method_45_code 182 = .ok (.getfield 19, 3) := by decide +kernel
theorem d_Mo_spread_185 : decode prog_8_method_45_code 185 = .ok (.iload_n 1, 1) := by decide +kernel
theorem d_Mo_spread_186 : decode prog_8_method_45_code 186 = .ok (.iaload, 1) := by decide +kernel
theorem d_Mo_spread_187 : decode prog_8_method_45_code 187 = .ok (.imul, 1) := by decide +kernel
theorem d_Mo_spread_188 : decode prog_8_method_45_code 188 = .ok (.iload 5, 2) := by decide +kernel
theorem d_Mo_spread_190 : decode prog_8_method_45_code 190 = .ok (.iadd, 1) := by decide +kernel
theorem d_Mo_spread_191 : decode prog_8_method_45_code 191 = .ok (.baload, 1) := by decide +kernel
theorem d_Mo_spread_192 : decode prog_8_method_45_code 192 = .ok (.goto 15, 3) := by decide +kernel
theorem d_Mo_spread_195 : decode prog_8_method_45_code 195 = .ok (.aload_n 0, 1) := by decide +kernel
theorem d_Mo_spread_196 : decode prog_8_method_45_code 196 = .ok (.getfield 86, 3) := by decide +kernel
theorem d_Mo_spread_199 : decode prog_8_method_45_code 199 = .ok (.bipush 16, 2) := by decide +kernel
theorem d_Mo_spread_201 : decode prog_8_method_45_code 201 = .ok (.iload_n 1, 1) := by decide +kernel
theorem d_Mo_spread_202 : decode prog_8_method_45_code 202 = .ok (.imul, 1) := by decide +kernel
theorem d_Mo_spread_203 : decode prog_8_method_45_code 203 = .ok (.iload 5, 2) := by decide +kernel
theorem d_Mo_spread_205 : decode prog_8_method_45_code 205 = .ok (.iadd, 1) := by decide +kernel
theorem d_Mo_spread_206 : decode prog_8_method_45_code 206 = .ok (.baload, 1) := by decide +kernel
theorem d_Mo_spread_207 : decode prog_8_method_45_code 207 = .ok (.istore 6, 2) := by decide +kernel
theorem d_Mo_spread_209 : decode prog_8_method_45_code 209 = .ok (.aload_n 0, 1) := by decide +kernel
theorem d_Mo_spread_210 : decode prog_8_method_45_code 210 = .ok (.getfield 86, 3) := by decide +kernel
theorem d_Mo_spread_213 : decode prog_8_method_45_code 213 = .ok (.bipush 16, 2) := by decide +kernel
theorem d_Mo_spread_215 : decode prog_8_method_45_code 215 = .ok (.iload_n 1, 1) := by decide +kernel
theorem d_Mo_spread_216 : decode prog_8_method_45_code 216 = .ok (.imul, 1) := by decide +kernel
theorem d_Mo_spread_217 : decode prog_8_method_45_code 217 = .ok (.iload 4, 2) := by decide +kernel
theorem d_Mo_spread_219 : decode prog_8_method_45_code 219 = .ok (.iadd, 1) := by decide +kernel
theorem d_Mo_spread_220 : decode prog_8_method_45_code 220 = .ok (.aload_n 0, 1) := by decide +kernel
theorem d_Mo_spread_221 : decode prog_8_method_45_code 221 = .ok (.iload_n 1, 1) := by decide +kernel
theorem d_Mo_spread_222 : decode prog_8_method_45_code 222 = .ok (.iload 6, 2) := by decide +kernel
theorem d_Mo_spread_224 : decode prog_8_method_45_code 224 = .ok (.aload_n 0, 1) := by decide +kernel
theorem d_Mo_spread_225 : decode prog_8_method_45_code 225 = .ok (.getfield 83, 3) := by decide +kernel
theorem d_Mo_spread_228 : decode prog_8_method_45_code 228 = .ok (.iload 4, 2) := by decide +kernel
theorem d_Mo_spread_230 : decode prog_8_method_45_code 230 = .ok (.iaload, 1) := by decide +kernel
theorem d_Mo_spread_231 : decode prog_8_method_45_code 231 = .ok (.invokevirtual 171, 3) := by decide +kernel
theorem d_Mo_spread_234 : decode prog_8_method_45_code 234 = .ok (.bastore, 1) := by decide +kernel
theorem d_Mo_spread_235 : decode prog_8_method_45_code 235 = .ok (.iinc 4 1, 3) := by decide +kernel
theorem d_Mo_spread_238 : decode prog_8_method_45_code 238 = .ok (.goto (-166), 3) := by decide +kernel
theorem d_Mo_spread_241 : decode prog_8_method_45_code 241 = .ok (.iinc 3 1, 3) := by decide +kernel
theorem d_Mo_spread_244 : decode prog_8_method_45_code 244 = .ok (.goto (-181), 3) := by decide +kernel
theorem d_Mo_spread_247 : decode prog_8_method_45_code 247 = .ok (.return_, 1) := by decide +kernel
theorem d_Mo_holds_0 : decode prog_8_method_46_code 0 = .ok (.aload_n 0, 1) := by decide +kernel
theorem d_Mo_holds_1 : decode prog_8_method_46_code 1 = .ok (.iload_n 1, 1) := by decide +kernel
theorem d_Mo_holds_2 : decode prog_8_method_46_code 2 = .ok (.ifCond .lt 7, 3) := by decide +kernel
theorem d_Mo_holds_5 : decode prog_8_method_46_code 5 = .ok (.iconst 1, 1) := by decide +kernel
theorem d_Mo_holds_6 : decode prog_8_method_46_code 6 = .ok (.goto 4, 3) := by decide +kernel
theorem d_Mo_holds_9 : decode prog_8_method_46_code 9 = .ok (.iconst 0, 1) := by decide +kernel
theorem d_Mo_holds_10 : decode prog_8_method_46_code 10 = .ok (.invokevirtual 208, 3) := by decide +kernel
theorem d_Mo_holds_13 : decode prog_8_method_46_code 13 = .ok (.ifCond .eq 5, 3) := by decide +kernel
theorem d_Mo_holds_16 : decode prog_8_method_46_code 16 = .ok (.iconst 0, 1) := by decide +kernel
theorem d_Mo_holds_17 : decode prog_8_method_46_code 17 = .ok (.ireturn, 1) := by decide +kernel
theorem d_Mo_holds_18 : decode prog_8_method_46_code 18 = .ok (.iconst 0, 1) := by decide +kernel
theorem d_Mo_holds_19 : decode prog_8_method_46_code 19 = .ok (.istore_n 2, 1) := by decide +kernel
theorem d_Mo_holds_20 : decode prog_8_method_46_code 20 = .ok (.iload_n 2, 1) := by decide +kernel
theorem d_Mo_holds_21 : decode prog_8_method_46_code 21 = .ok (.aload_n 0, 1) := by decide +kernel
theorem d_Mo_holds_22 : decode prog_8_method_46_code 22 = .ok (.getfield 150, 3) := by decide +kernel
theorem d_Mo_holds_25 : decode prog_8_method_46_code 25 = .ok (.if_icmp .ge 14, 3) := by decide +kernel
theorem d_Mo_holds_28 : decode prog_8_method_46_code 28 = .ok (.aload_n 0, 1) := by decide +kernel
theorem d_Mo_holds_29 : decode prog_8_method_46_code 29 = .ok (.iload_n 2, 1) := by decide +kernel
theorem d_Mo_holds_30 : decode prog_8_method_46_code 30 = .ok (.invokevirtual 221, 3) := by decide +kernel
theorem d_Mo_holds_33 : decode prog_8_method_46_code 33 = .ok (.iinc 2 1, 3) := by decide +kernel
theorem d_Mo_holds_36 : decode prog_8_method_46_code 36 = .ok (.goto (-16), 3) := by decide +kernel
theorem d_Mo_holds_39 : decode prog_8_method_46_code 39 = .ok (.aload_n 0, 1) := by decide +kernel
theorem d_Mo_holds_40 : decode prog_8_method_46_code 40 = .ok (.getfield 86, 3) := by decide +kernel
theorem d_Mo_holds_43 : decode prog_8_method_46_code 43 = .ok (.bipush 16, 2) := by decide +kernel
theorem d_Mo_holds_45 : decode prog_8_method_46_code 45 = .ok (.aload_n 0, 1) := by decide +kernel
theorem d_Mo_holds_46 : decode prog_8_method_46_code 46 = .ok (.getfield 150, 3) := by decide +kernel
theorem d_Mo_holds_49 : decode prog_8_method_46_code 49 = .ok (.iconst 1, 1) := by decide +kernel
theorem d_Mo_holds_50 : decode prog_8_method_46_code 50 = .ok (.isub, 1) := by decide +kernel
theorem d_Mo_holds_51 : decode prog_8_method_46_code 51 = .ok (.imul, 1) := by decide +kernel
theorem d_Mo_holds_52 : decode prog_8_method_46_code 52 = .ok (.aload_n 0, 1) := by decide +kernel
theorem d_Mo_holds_53 : decode prog_8_method_46_code 53 = .ok (.iload_n 1, 1) := by decide +kernel
theorem d_Mo_holds_54 : decode prog_8_method_46_code 54 = .ok (.invokevirtual 218, 3) := by decide +kernel
theorem d_Mo_holds_57 : decode prog_8_method_46_code 57 = .ok (.iadd, 1) := by decide +kernel
theorem d_Mo_holds_58 : decode prog_8_method_46_code 58 = .ok (.baload, 1) := by decide +kernel
theorem d_Mo_holds_59 : decode prog_8_method_46_code 59 = .ok (.ireturn, 1) := by decide +kernel
theorem d_Fo_clear_0 : decode prog_2_method_2_code 0 = .ok (.aload_n 0, 1) := by decide +kernel
theorem d_Fo_clear_1 : decode prog_2_method_2_code 1 = .ok (.iconst 0, 1) := by decide +kernel
theorem d_Fo_clear_2 : decode prog_2_method_2_code 2 = .ok (.putfield 33, 3) := by decide +kernel
theorem d_Fo_clear_5 : decode prog_2_method_2_code 5 = .ok (.aload_n 0, 1) := by decide +kernel
theorem d_Fo_clear_6 : decode prog_2_method_2_code 6 = .ok (.iconst 0, 1) := by decide +kernel
theorem d_Fo_clear_7 : decode prog_2_method_2_code 7 = .ok (.putfield 37, 3) := by decide +kernel
theorem d_Fo_clear_10 : decode prog_2_method_2_code 10 = .ok (.aload_n 0, 1) := by decide +kernel
theorem d_Fo_clear_11 : decode prog_2_method_2_code 11 = .ok (.iconst 0, 1) := by decide +kernel
theorem d_Fo_clear_12 : decode prog_2_method_2_code 12 = .ok (.putfield 40, 3) := by decide +kernel
theorem d_Fo_clear_15 : decode prog_2_method_2_code 15 = .ok (.return_, 1) := by decide +kernel
theorem d_Fo_add_0 : decode prog_2_method_3_code 0 = .ok (.aload_n 0, 1) := by decide +kernel
theorem d_Fo_add_1 : decode prog_2_method_3_code 1 = .ok (.getfield 33, 3) := by decide +kernel
theorem d_Fo_add_4 : decode prog_2_method_3_code 4 = .ok (.bipush 18, 2) := by decide +kernel
theorem d_Fo_add_6 : decode prog_2_method_3_code 6 = .ok (.if_icmp .lt 5, 3) := by decide +kernel
theorem d_Fo_add_9 : decode prog_2_method_3_code 9 = .ok (.iconst (-1), 1) := by decide +kernel
theorem d_Fo_add_10 : decode prog_2_method_3_code 10 = .ok (.ireturn, 1) := by decide +kernel
theorem d_Fo_add_11 : decode prog_2_method_3_code 11 = .ok (.aload_n 0, 1) := by decide +kernel
theorem d_Fo_add_12 : decode prog_2_method_3_code 12 = .ok (.getfield 9, 3) := by decide +kernel
theorem d_Fo_add_15 : decode prog_2_method_3_code 15 = .ok (.aload_n 0, 1) := by decide +kernel
theorem d_Fo_add_16 : decode prog_2_method_3_code 16 = .ok (.getfield 33, 3) := by decide +kernel
theorem d_Fo_add_19 : decode prog_2_method_3_code 19 = .ok (.iload_n 1, 1) := by decide +kernel
theorem d_Fo_add_20 : decode prog_2_method_3_code 20 = .ok (.iastore, 1) := by decide +kernel
theorem d_Fo_add_21 : decode prog_2_method_3_code 21 = .ok (.aload_n 0, 1) := by decide +kernel
theorem d_Fo_add_22 : decode prog_2_method_3_code 22 = .ok (.getfield 15, 3) := by decide +kernel
theorem d_Fo_add_25 : decode prog_2_method_3_code 25 = .ok (.aload_n 0, 1) := by decide +kernel
theorem d_Fo_add_26 : decode prog_2_method_3_code 26 = .ok (.getfield 33, 3) := by decide +kernel
theorem d_Fo_add_29 : decode prog_2_method_3_code 29 = .ok (.iload_n 2, 1) := by decide +kernel
theorem d_Fo_add_30 : decode prog_2_method_3_code 30 = .ok (.iastore, 1) := by decide +kernel
theorem d_Fo_add_31 : decode prog_2_method_3_code 31 = .ok (.aload_n 0, 1) := by decide +kernel
theorem d_Fo_add_32 : decode prog_2_method_3_code 32 = .ok (.getfield 18, 3) := by decide +kernel
theorem d_Fo_add_35 : decode prog_2_method_3_code 35 = .ok (.aload_n 0, 1) := by decide +kernel
theorem d_Fo_add_36 : decode prog_2_method_3_code 36 = .ok (.getfield 33, 3) := by decide +kernel
theorem d_Fo_add_39 : decode prog_2_method_3_code 39 = .ok (.iload_n 3, 1) := by decide +kernel
theorem d_Fo_add_40 : decode prog_2_method_3_code 40 = .ok (.iastore, 1) := by decide +kernel
theorem d_Fo_add_41 : decode prog_2_method_3_code 41 = .ok (.aload_n 0, 1) := by decide +kernel
theorem d_Fo_add_42 : decode prog_2_method_3_code 42 = .ok (.getfield 21, 3) := by decide +kernel
theorem d_Fo_add_45 : decode prog_2_method_3_code 45 = .ok (.aload_n 0, 1) := by decide +kernel
theorem d_Fo_add_46 : decode prog_2_method_3_code 46 = .ok (.getfield 33, 3) := by decide +kernel
theorem d_Fo_add_49 : decode prog_2_method_3_code 49 = .ok (.iload 4, 2) := by decide +kernel
theorem d_Fo_add_51 : decode prog_2_method_3_code 51 = .ok (.iastore, 1) := by decide +kernel
theorem d_Fo_add_52 : decode prog_2_method_3_code 52 = .ok (.iload_n 1, 1) := by decide +kernel
theorem d_Fo_add_53 : decode prog_2_method_3_code 53 = .ok (.invokestatic 43, 3) := by decide +kernel
theorem d_Fo_add_56 : decode prog_2_method_3_code 56 = .ok (.ifCond .eq 30, 3) := by decide +kernel
theorem d_Fo_add_59 : decode prog_2_method_3_code 59 = .ok (.iload 4, 2) := by decide +kernel
end
section
theorem d_Fo_add_61 : decode prog_2_method_3_code 61 = .ok (.iconst 5, 1) := by decide +kernel
theorem d_Fo_add_62 : decode prog_2_method_3_code 62 = .ok (.if_icmp .ge 24, 3) := by decide +kernel
theorem d_Fo_add_65 : decode prog_2_method_3_code 65 = .ok (.aload_n 0, 1) := by decide +kernel
theorem d_Fo_add_66 : decode prog_2_method_3_code 66 = .ok (.getfield 24, 3) := by decide +kernel
theorem d_Fo_add_69 : decode prog_2_method_3_code 69 = .ok (.iload 4, 2) := by decide +kernel
theorem d_Fo_add_71 : decode prog_2_method_3_code 71 = .ok (.aload_n 0, 1) := by decide +kernel
theorem d_Fo_add_72 : decode prog_2_method_3_code 72 = .ok (.getfield 33, 3) := by decide +kernel
theorem d_Fo_add_75 : decode prog_2_method_3_code 75 = .ok (.iastore, 1) := by decide +kernel
theorem d_Fo_add_76 : decode prog_2_method_3_code 76 = .ok (.aload_n 0, 1) := by decide +kernel
theorem d_Fo_add_77 : decode prog_2_method_3_code 77 = .ok (.dup, 1) := by decide +kernel
theorem d_Fo_add_78 : decode prog_2_method_3_code 78 = .ok (.getfield 37, 3) := by decide +kernel
theorem d_Fo_add_81 : decode prog_2_method_3_code 81 = .ok (.iconst 1, 1) := by decide +kernel
theorem d_Fo_add_82 : decode prog_2_method_3_code 82 = .ok (.iadd, 1) := by decide +kernel
theorem d_Fo_add_83 : decode prog_2_method_3_code 83 = .ok (.putfield 37, 3) := by decide +kernel
theorem d_Fo_add_86 : decode prog_2_method_3_code 86 = .ok (.aload_n 0, 1) := by decide +kernel
theorem d_Fo_add_87 : decode prog_2_method_3_code 87 = .ok (.dup, 1) := by decide +kernel
theorem d_Fo_add_88 : decode prog_2_method_3_code 88 = .ok (.getfield 33, 3) := by decide +kernel
theorem d_Fo_add_91 : decode prog_2_method_3_code 91 = .ok (.iconst 1, 1) := by decide +kernel
theorem d_Fo_add_92 : decode prog_2_method_3_code 92 = .ok (.iadd, 1) := by decide +kernel
theorem d_Fo_add_93 : decode prog_2_method_3_code 93 = .ok (.putfield 33, 3) := by decide +kernel
theorem d_Fo_add_96 : decode prog_2_method_3_code 96 = .ok (.aload_n 0, 1) := by decide +kernel
theorem d_Fo_add_97 : decode prog_2_method_3_code 97 = .ok (.getfield 33, 3) := by decide +kernel
theorem d_Fo_add_100 : decode prog_2_method_3_code 100 = .ok (.iconst 1, 1) := by decide +kernel
theorem d_Fo_add_101 : decode prog_2_method_3_code 101 = .ok (.isub, 1) := by decide +kernel
theorem d_Fo_add_102 : decode prog_2_method_3_code 102 = .ok (.ireturn, 1) := by decide +kernel
theorem d_Fo_listPromises_0 : decode prog_2_method_4_code 0 = .ok (.aload_n 0, 1) := by decide +kernel
theorem d_Fo_listPromises_1 : decode prog_2_method_4_code 1 = .ok (.iconst 0, 1) := by decide +kernel
theorem d_Fo_listPromises_2 : decode prog_2_method_4_code 2 = .ok (.putfield 40, 3) := by decide +kernel
theorem d_Fo_listPromises_5 : decode prog_2_method_4_code 5 = .ok (.iconst 0, 1) := by decide +kernel
theorem d_Fo_listPromises_6 : decode prog_2_method_4_code 6 = .ok (.istore_n 1, 1) := by decide +kernel
theorem d_Fo_listPromises_7 : decode prog_2_method_4_code 7 = .ok (.iload_n 1, 1) := by decide +kernel
theorem d_Fo_listPromises_8 : decode prog_2_method_4_code 8 = .ok (.aload_n 0, 1) := by decide +kernel
theorem d_Fo_listPromises_9 : decode prog_2_method_4_code 9 = .ok (.getfield 37, 3) := by decide +kernel
theorem d_Fo_listPromises_12 : decode prog_2_method_4_code 12 = .ok (.if_icmp .ge 55, 3) := by decide +kernel
theorem d_Fo_listPromises_15 : decode prog_2_method_4_code 15 = .ok (.iload_n 1, 1) := by decide +kernel
theorem d_Fo_listPromises_16 : decode prog_2_method_4_code 16 = .ok (.iconst 5, 1) := by decide +kernel
theorem d_Fo_listPromises_17 : decode prog_2_method_4_code 17 = .ok (.if_icmp .ge 50, 3) := by decide +kernel
theorem d_Fo_listPromises_20 : decode prog_2_method_4_code 20 = .ok (.aload_n 0, 1) := by decide +kernel
theorem d_Fo_listPromises_21 : decode prog_2_method_4_code 21 = .ok (.getfield 9, 3) := by decide +kernel
theorem d_Fo_listPromises_24 : decode prog_2_method_4_code 24 = .ok (.aload_n 0, 1) := by decide +kernel
theorem d_Fo_listPromises_25 : decode prog_2_method_4_code 25 = .ok (.getfield 24, 3) := by decide +kernel
theorem d_Fo_listPromises_28 : decode prog_2_method_4_code 28 = .ok (.iload_n 1, 1) := by decide +kernel
theorem d_Fo_listPromises_29 : decode prog_2_method_4_code 29 = .ok (.iaload, 1) := by decide +kernel
theorem d_Fo_listPromises_30 : decode prog_2_method_4_code 30 = .ok (.iaload, 1) := by decide +kernel
theorem d_Fo_listPromises_31 : decode prog_2_method_4_code 31 = .ok (.bipush 88, 2) := by decide +kernel
theorem d_Fo_listPromises_33 : decode prog_2_method_4_code 33 = .ok (.if_icmp .eq 28, 3) := by decide +kernel
theorem d_Fo_listPromises_36 : decode prog_2_method_4_code 36 = .ok (.aload_n 0, 1) := by decide +kernel
theorem d_Fo_listPromises_37 : decode prog_2_method_4_code 37 = .ok (.getfield 27, 3) := by decide +kernel
theorem d_Fo_listPromises_40 : decode prog_2_method_4_code 40 = .ok (.aload_n 0, 1) := by decide +kernel
theorem d_Fo_listPromises_41 : decode prog_2_method_4_code 41 = .ok (.getfield 40, 3) := by decide +kernel
theorem d_Fo_listPromises_44 : decode prog_2_method_4_code 44 = .ok (.aload_n 0, 1) := by decide +kernel
theorem d_Fo_listPromises_45 : decode prog_2_method_4_code 45 = .ok (.getfield 24, 3) := by decide +kernel
theorem d_Fo_listPromises_48 : decode prog_2_method_4_code 48 = .ok (.iload_n 1, 1) := by decide +kernel
theorem d_Fo_listPromises_49 : decode prog_2_method_4_code 49 = .ok (.iaload, 1) := by decide +kernel
theorem d_Fo_listPromises_50 : decode prog_2_method_4_code 50 = .ok (.iastore, 1) := by decide +kernel
theorem d_Fo_listPromises_51 : decode prog_2_method_4_code 51 = .ok (.aload_n 0, 1) := by decide +kernel
theorem d_Fo_listPromises_52 : decode prog_2_method_4_code 52 = .ok (.dup, 1) := by decide +kernel
theorem d_Fo_listPromises_53 : decode prog_2_method_4_code 53 = .ok (.getfield 40, 3) := by decide +kernel
theorem d_Fo_listPromises_56 : decode prog_2_method_4_code 56 = .ok (.iconst 1, 1) := by decide +kernel
theorem d_Fo_listPromises_57 : decode prog_2_method_4_code 57 = .ok (.iadd, 1) := by decide +kernel
theorem d_Fo_listPromises_58 : decode prog_2_method_4_code 58 = .ok (.putfield 40, 3) := by decide +kernel
theorem d_Fo_listPromises_61 : decode prog_2_method_4_code 61 = .ok (.iinc 1 1, 3) := by decide +kernel
theorem d_Fo_listPromises_64 : decode prog_2_method_4_code 64 = .ok (.goto (-57), 3) := by decide +kernel
theorem d_Fo_listPromises_67 : decode prog_2_method_4_code 67 = .ok (.return_, 1) := by decide +kernel
theorem d_Fo_size_0 : decode prog_2_method_5_code 0 = .ok (.aload_n 0, 1) := by decide +kernel
theorem d_Fo_size_1 : decode prog_2_method_5_code 1 = .ok (.getfield 33, 3) := by decide +kernel
theorem d_Fo_size_4 : decode prog_2_method_5_code 4 = .ok (.ireturn, 1) := by decide +kernel
theorem d_Fo_stateCount_0 : decode prog_2_method_6_code 0 = .ok (.bipush 8, 2) := by decide +kernel
theorem d_Fo_stateCount_2 : decode prog_2_method_6_code 2 = .ok (.aload_n 0, 1) := by decide +kernel
theorem d_Fo_stateCount_3 : decode prog_2_method_6_code 3 = .ok (.getfield 37, 3) := by decide +kernel
theorem d_Fo_stateCount_6 : decode prog_2_method_6_code 6 = .ok (.ishl, 1) := by decide +kernel
theorem d_Fo_stateCount_7 : decode prog_2_method_6_code 7 = .ok (.ireturn, 1) := by decide +kernel
theorem d_Fo_promiseCount_0 : decode prog_2_method_7_code 0 = .ok (.aload_n 0, 1) := by decide +kernel
theorem d_Fo_promiseCount_1 : decode prog_2_method_7_code 1 = .ok (.getfield 40, 3) := by decide +kernel
theorem d_Fo_promiseCount_4 : decode prog_2_method_7_code 4 = .ok (.ireturn, 1) := by decide +kernel
theorem d_Fo_isWholeIn_0 : decode prog_2_method_8_code 0 = .ok (.iload_n 1, 1) := by decide +kernel
theorem d_Fo_isWholeIn_1 : decode prog_2_method_8_code 1 = .ok (.aload_n 0, 1) := by decide +kernel
theorem d_Fo_isWholeIn_2 : decode prog_2_method_8_code 2 = .ok (.getfield 33, 3) := by decide +kernel
theorem d_Fo_isWholeIn_5 : decode prog_2_method_8_code 5 = .ok (.iconst 1, 1) := by decide +kernel
theorem d_Fo_isWholeIn_6 : decode prog_2_method_8_code 6 = .ok (.isub, 1) := by decide +kernel
theorem d_Fo_isWholeIn_7 : decode prog_2_method_8_code 7 = .ok (.invokestatic 47, 3) := by decide +kernel
theorem d_Fo_isWholeIn_10 : decode prog_2_method_8_code 10 = .ok (.ireturn, 1) := by decide +kernel
theorem d_Fo_partsAt_0 : decode prog_2_method_9_code 0 = .ok (.iconst 0, 1) := by decide +kernel
theorem d_Fo_partsAt_1 : decode prog_2_method_9_code 1 = .ok (.istore_n 2, 1) := by decide +kernel
theorem d_Fo_partsAt_2 : decode prog_2_method_9_code 2 = .ok (.iconst 0, 1) := by decide +kernel
theorem d_Fo_partsAt_3 : decode prog_2_method_9_code 3 = .ok (.istore_n 3, 1) := by decide +kernel
theorem d_Fo_partsAt_4 : decode prog_2_method_9_code 4 = .ok (.iload_n 3, 1) := by decide +kernel
theorem d_Fo_partsAt_5 : decode prog_2_method_9_code 5 = .ok (.aload_n 0, 1) := by decide +kernel
theorem d_Fo_partsAt_6 : decode prog_2_method_9_code 6 = .ok (.getfield 33, 3) := by decide +kernel
theorem d_Fo_partsAt_9 : decode prog_2_method_9_code 9 = .ok (.if_icmp .ge 25, 3) := by decide +kernel
theorem d_Fo_partsAt_12 : decode prog_2_method_9_code 12 = .ok (.aload_n 0, 1) := by decide +kernel
theorem d_Fo_partsAt_13 : decode prog_2_method_9_code 13 = .ok (.iload_n 3, 1) := by decide +kernel
theorem d_Fo_partsAt_14 : decode prog_2_method_9_code 14 = .ok (.iload_n 1, 1) := by decide +kernel
theorem d_Fo_partsAt_15 : decode prog_2_method_9_code 15 = .ok (.iload_n 2, 1) := by decide +kernel
theorem d_Fo_partsAt_16 : decode prog_2_method_9_code 16 = .ok (.invokevirtual 51, 3) := by decide +kernel
theorem d_Fo_partsAt_19 : decode prog_2_method_9_code 19 = .ok (.ifCond .eq 9, 3) := by decide +kernel
theorem d_Fo_partsAt_22 : decode prog_2_method_9_code 22 = .ok (.iload_n 2, 1) := by decide +kernel
theorem d_Fo_partsAt_23 : decode prog_2_method_9_code 23 = .ok (.iconst 1, 1) := by decide +kernel
theorem d_Fo_partsAt_24 : decode prog_2_method_9_code 24 = .ok (.iload_n 3, 1) := by decide +kernel
theorem d_Fo_partsAt_25 : decode prog_2_method_9_code 25 = .ok (.ishl, 1) := by decide +kernel
theorem d_Fo_partsAt_26 : decode prog_2_method_9_code 26 = .ok (.ior, 1) := by decide +kernel
theorem d_Fo_partsAt_27 : decode prog_2_method_9_code 27 = .ok (.istore_n 2, 1) := by decide +kernel
theorem d_Fo_partsAt_28 : decode prog_2_method_9_code 28 = .ok (.iinc 3 1, 3) := by decide +kernel
theorem d_Fo_partsAt_31 : decode prog_2_method_9_code 31 = .ok (.goto (-27), 3) := by decide +kernel
theorem d_Fo_partsAt_34 : decode prog_2_method_9_code 34 = .ok (.iload_n 2, 1) := by decide +kernel
theorem d_Fo_partsAt_35 : decode prog_2_method_9_code 35 = .ok (.ireturn, 1) := by decide +kernel
theorem d_Fo_isPartAt_0 : decode prog_2_method_10_code 0 = .ok (.iload_n 3, 1) := by decide +kernel
theorem d_Fo_isPartAt_1 : decode prog_2_method_10_code 1 = .ok (.aload_n 0, 1) := by decide +kernel
theorem d_Fo_isPartAt_2 : decode prog_2_method_10_code 2 = .ok (.getfield 15, 3) := by decide +kernel
theorem d_Fo_isPartAt_5 : decode prog_2_method_10_code 5 = .ok (.iload_n 1, 1) := by decide +kernel
theorem d_Fo_isPartAt_6 : decode prog_2_method_10_code 6 = .ok (.iaload, 1) := by decide +kernel
theorem d_Fo_isPartAt_7 : decode prog_2_method_10_code 7 = .ok (.invokestatic 47, 3) := by decide +kernel
theorem d_Fo_isPartAt_10 : decode prog_2_method_10_code 10 = .ok (.istore 4, 2) := by decide +kernel
theorem d_Fo_isPartAt_12 : decode prog_2_method_10_code 12 = .ok (.iload_n 3, 1) := by decide +kernel
theorem d_Fo_isPartAt_13 : decode prog_2_method_10_code 13 = .ok (.aload_n 0, 1) := by decide +kernel
theorem d_Fo_isPartAt_14 : decode prog_2_method_10_code 14 = .ok (.getfield 18, 3) := by decide +kernel
theorem d_Fo_isPartAt_17 : decode prog_2_method_10_code 17 = .ok (.iload_n 1, 1) := by decide +kernel
theorem d_Fo_isPartAt_18 : decode prog_2_method_10_code 18 = .ok (.iaload, 1) := by decide +kernel
theorem d_Fo_isPartAt_19 : decode prog_2_method_10_code 19 = .ok (.invokestatic 47, 3) := by decide +kernel
theorem d_Fo_isPartAt_22 : decode prog_2_method_10_code 22 = .ok (.istore 5, 2) := by decide +kernel
theorem d_Fo_isPartAt_24 : decode prog_2_method_10_code 24 = .ok (.iload_n 2, 1) := by decide +kernel
theorem d_Fo_isPartAt_25 : decode prog_2_method_10_code 25 = .ok (.iconst 3, 1) := by decide +kernel
theorem d_Fo_isPartAt_26 : decode prog_2_method_10_code 26 = .ok (.aload_n 0, 1) := by decide +kernel
theorem d_Fo_isPartAt_27 : decode prog_2_method_10_code 27 = .ok (.getfield 21, 3) := by decide +kernel
theorem d_Fo_isPartAt_30 : decode prog_2_method_10_code 30 = .ok (.iload_n 1, 1) := by decide +kernel
theorem d_Fo_isPartAt_31 : decode prog_2_method_10_code 31 = .ok (.iaload, 1) := by decide +kernel
theorem d_Fo_isPartAt_32 : decode prog_2_method_10_code 32 = .ok (.iadd, 1) := by decide +kernel
theorem d_Fo_isPartAt_33 : decode prog_2_method_10_code 33 = .ok (.invokestatic 47, 3) := by decide +kernel
theorem d_Fo_isPartAt_36 : decode prog_2_method_10_code 36 = .ok (.istore 6, 2) := by decide +kernel
theorem d_Fo_isPartAt_38 : decode prog_2_method_10_code 38 = .ok (.aload_n 0, 1) := by decide +kernel
theorem d_Fo_isPartAt_39 : decode prog_2_method_10_code 39 = .ok (.getfield 9, 3) := by decide +kernel
theorem d_Fo_isPartAt_42 : decode prog_2_method_10_code 42 = .ok (.iload_n 1, 1) := by decide +kernel
theorem d_Fo_isPartAt_43 : decode prog_2_method_10_code 43 = .ok (.iaload, 1) := by decide +kernel
theorem d_Fo_isPartAt_44 : decode prog_2_method_10_code 44 = .ok (.lookupswitch 272 #[(33, 136), (38, 147), (49, 116), (62, 179), (70, 198), (71, 214), (82, 251), (85, 230), (88, 195), (97, 118), (98, 124), (99, 130), (124, 163)], 116) := by decide +kernel
theorem d_Fo_isPartAt_160 : decode prog_2_method_10_code 160 = .ok (.iconst 1, 1) := by decide +kernel
theorem d_Fo_isPartAt_161 : decode prog_2_method_10_code 161 = .ok (.ireturn, 1) := by decide +kernel
theorem d_Fo_isPartAt_162 : decode prog_2_method_10_code 162 = .ok (.iload_n 2, 1) := by decide +kernel
theorem d_Fo_isPartAt_163 : decode prog_2_method_10_code 163 = .ok (.iconst 0, 1) := by decide +kernel
theorem d_Fo_isPartAt_164 : decode prog_2_method_10_code 164 = .ok (.invokestatic 47, 3) := by decide +kernel
theorem d_Fo_isPartAt_167 : decode prog_2_method_10_code 167 = .ok (.ireturn, 1) := by decide +kernel
theorem d_Fo_isPartAt_168 : decode prog_2_method_10_code 168 = .ok (.iload_n 2, 1) := by decide +kernel
theorem d_Fo_isPartAt_169 : decode prog_2_method_10_code 169 = .ok (.iconst 1, 1) := by decide +kernel
theorem d_Fo_isPartAt_170 : decode prog_2_method_10_code 170 = .ok (.invokestatic 47, 3) := by decide +kernel
theorem d_Fo_isPartAt_173 : decode prog_2_method_10_code 173 = .ok (.ireturn, 1) := by decide +kernel
theorem d_Fo_isPartAt_174 : decode prog_2_method_10_code 174 = .ok (.iload_n 2, 1) := by decide +kernel
theorem d_Fo_isPartAt_175 : decode prog_2_method_10_code 175 = .ok (.iconst 2, 1) := by decide +kernel
theorem d_Fo_isPartAt_176 : decode prog_2_method_10_code 176 = .ok (.invokestatic 47, 3) := by decide +kernel
theorem d_Fo_isPartAt_179 : decode prog_2_method_10_code 179 = .ok (.ireturn, 1) := by decide +kernel
theorem d_Fo_isPartAt_180 : decode prog_2_method_10_code 180 = .ok (.iload 5, 2) := by decide +kernel
theorem d_Fo_isPartAt_182 : decode prog_2_method_10_code 182 = .ok (.ifCond .ne 7, 3) := by decide +kernel
theorem d_Fo_isPartAt_185 : decode prog_2_method_10_code 185 = .ok (.iconst 1, 1) := by decide +kernel
theorem d_Fo_isPartAt_186 : decode prog_2_method_10_code 186 = .ok (.goto 4, 3) := by decide +kernel
theorem d_Fo_isPartAt_189 : decode prog_2_method_10_code 189 = .ok (.iconst 0, 1) := by decide +kernel
theorem d_Fo_isPartAt_190 : decode prog_2_method_10_code 190 = .ok (.ireturn, 1) := by decide +kernel
theorem d_Fo_isPartAt_191 : decode prog_2_method_10_code 191 = .ok (.iload 4, 2) := by decide +kernel
theorem d_Fo_isPartAt_193 : decode prog_2_method_10_code 193 = .ok (.ifCond .eq 12, 3) := by decide +kernel
theorem d_Fo_isPartAt_196 : decode prog_2_method_10_code 196 = .ok (.iload 5, 2) := by decide +kernel
theorem d_Fo_isPartAt_198 : decode prog_2_method_10_code 198 = .ok (.ifCond .eq 7, 3) := by decide +kernel
theorem d_Fo_isPartAt_201 : decode prog_2_method_10_code 201 = .ok (.iconst 1, 1) := by decide +kernel
theorem d_Fo_isPartAt_202 : decode prog_2_method_10_code 202 = .ok (.goto 4, 3) := by decide +kernel
theorem d_Fo_isPartAt_205 : decode prog_2_method_10_code 205 = .ok (.iconst 0, 1) := by decide +kernel
theorem d_Fo_isPartAt_206 : decode prog_2_method_10_code 206 = .ok (.ireturn, 1) := by decide +kernel
theorem d_Fo_isPartAt_207 : decode prog_2_method_10_code 207 = .ok (.iload 4, 2) := by decide +kernel
theorem d_Fo_isPartAt_209 : decode prog_2_method_10_code 209 = .ok (.ifCond .ne 8, 3) := by decide +kernel
theorem d_Fo_isPartAt_212 : decode prog_2_method_10_code 212 = .ok (.iload 5, 2) := by decide +kernel
theorem d_Fo_isPartAt_214 : decode prog_2_method_10_code 214 = .ok (.ifCond .eq 7, 3) := by decide +kernel
theorem d_Fo_isPartAt_217 : decode prog_2_method_10_code 217 = .ok (.iconst 1, 1) := by decide +kernel
theorem d_Fo_isPartAt_218 : decode prog_2_method_10_code 218 = .ok (.goto 4, 3) := by decide +kernel
theorem d_Fo_isPartAt_221 : decode prog_2_method_10_code 221 = .ok (.iconst 0, 1) := by decide +kernel
theorem d_Fo_isPartAt_222 : decode prog_2_method_10_code 222 = .ok (.ireturn, 1) := by decide +kernel
theorem d_Fo_isPartAt_223 : decode prog_2_method_10_code 223 = .ok (.iload 4, 2) := by decide +kernel
theorem d_Fo_isPartAt_225 : decode prog_2_method_10_code 225 = .ok (.ifCond .eq 8, 3) := by decide +kernel
theorem d_Fo_isPartAt_228 : decode prog_2_method_10_code 228 = .ok (.iload 5, 2) := by decide +kernel
theorem d_Fo_isPartAt_230 : decode prog_2_method_10_code 230 = .ok (.ifCond .eq 7, 3) := by decide +kernel
theorem d_Fo_isPartAt_233 : decode prog_2_method_10_code 233 = .ok (.iconst 1, 1) := by decide +kernel
theorem d_Fo_isPartAt_234 : decode prog_2_method_10_code 234 = .ok (.goto 4, 3) := by decide +kernel
theorem d_Fo_isPartAt_237 : decode prog_2_method_10_code 237 = .ok (.iconst 0, 1) := by decide +kernel
theorem d_Fo_isPartAt_238 : decode prog_2_method_10_code 238 = .ok (.ireturn, 1) := by decide +kernel
theorem d_Fo_isPartAt_239 : decode prog_2_method_10_code 239 = .ok (.iload 6, 2) := by decide +kernel
theorem d_Fo_isPartAt_241 : decode prog_2_method_10_code 241 = .ok (.ireturn, 1) := by decide +kernel
theorem d_Fo_isPartAt_242 : decode prog_2_method_10_code 242 = .ok (.iload 5, 2) := by decide +kernel
theorem d_Fo_isPartAt_244 : decode prog_2_method_10_code 244 = .ok (.ifCond .ne 8, 3) := by decide +kernel
theorem d_Fo_isPartAt_247 : decode prog_2_method_10_code 247 = .ok (.iload 6, 2) := by decide +kernel
theorem d_Fo_isPartAt_249 : decode prog_2_method_10_code 249 = .ok (.ifCond .eq 7, 3) := by decide +kernel
theorem d_Fo_isPartAt_252 : decode prog_2_method_10_code 252 = .ok (.iconst 1, 1) := by decide +kernel
theorem d_Fo_isPartAt_253 : decode prog_2_method_10_code 253 = .ok (.goto 4, 3) := by decide +kernel
theorem d_Fo_isPartAt_256 : decode prog_2_method_10_code 256 = .ok (.iconst 0, 1) := by decide +kernel
theorem d_Fo_isPartAt_257 : decode prog_2_method_10_code 257 = .ok (.ireturn, 1) := by decide +kernel
theorem d_Fo_isPartAt_258 : decode prog_2_method_10_code 258 = .ok (.iload 5, 2) := by decide +kernel
theorem d_Fo_isPartAt_260 : decode prog_2_method_10_code 260 = .ok (.ifCond .eq 12, 3) := by decide +kernel
theorem d_Fo_isPartAt_263 : decode prog_2_method_10_code 263 = .ok (.iload 6, 2) := by decide +kernel
theorem d_Fo_isPartAt_265 : decode prog_2_method_10_code 265 = .ok (.ifCond .eq 7, 3) := by decide +kernel
theorem d_Fo_isPartAt_268 : decode prog_2_method_10_code 268 = .ok (.iconst 1, 1) := by decide +kernel
theorem d_Fo_isPartAt_269 : decode prog_2_method_10_code 269 = .ok (.goto 4, 3) := by decide +kernel
theorem d_Fo_isPartAt_272 : decode prog_2_method_10_code 272 = .ok (.iconst 0, 1) := by decide +kernel
theorem d_Fo_isPartAt_273 : decode prog_2_method_10_code 273 = .ok (.ireturn, 1) := by decide +kernel
theorem d_Fo_isPartAt_274 : decode prog_2_method_10_code 274 = .ok (.iload 5, 2) := by decide +kernel
theorem d_Fo_isPartAt_276 : decode prog_2_method_10_code 276 = .ok (.ifCond .ne 13, 3) := by decide +kernel
theorem d_Fo_isPartAt_279 : decode prog_2_method_10_code 279 = .ok (.iload 4, 2) := by decide +kernel
theorem d_Fo_isPartAt_281 : decode prog_2_method_10_code 281 = .ok (.ifCond .eq 12, 3) := by decide +kernel
theorem d_Fo_isPartAt_284 : decode prog_2_method_10_code 284 = .ok (.iload 6, 2) := by decide +kernel
theorem d_Fo_isPartAt_286 : decode prog_2_method_10_code 286 = .ok (.ifCond .eq 7, 3) := by decide +kernel
theorem d_Fo_isPartAt_289 : decode prog_2_method_10_code 289 = .ok (.iconst 1, 1) := by decide +kernel
theorem d_Fo_isPartAt_290 : decode prog_2_method_10_code 290 = .ok (.goto 4, 3) := by decide +kernel
theorem d_Fo_isPartAt_293 : decode prog_2_method_10_code 293 = .ok (.iconst 0, 1) := by decide +kernel
theorem d_Fo_isPartAt_294 : decode prog_2_method_10_code 294 = .ok (.ireturn, 1) := by decide +kernel
theorem d_Fo_isPartAt_295 : decode prog_2_method_10_code 295 = .ok (.iload 5, 2) := by decide +kernel
theorem d_Fo_isPartAt_297 : decode prog_2_method_10_code 297 = .ok (.ifCond .eq 17, 3) := by decide +kernel
theorem d_Fo_isPartAt_300 : decode prog_2_method_10_code 300 = .ok (.iload 4, 2) := by decide +kernel
theorem d_Fo_isPartAt_302 : decode prog_2_method_10_code 302 = .ok (.ifCond .ne 8, 3) := by decide +kernel
theorem d_Fo_isPartAt_305 : decode prog_2_method_10_code 305 = .ok (.iload 6, 2) := by decide +kernel
theorem d_Fo_isPartAt_307 : decode prog_2_method_10_code 307 = .ok (.ifCond .eq 7, 3) := by decide +kernel
theorem d_Fo_isPartAt_310 : decode prog_2_method_10_code 310 = .ok (.iconst 1, 1) := by decide +kernel
theorem d_Fo_isPartAt_311 : decode prog_2_method_10_code 311 = .ok (.goto 4, 3) := by decide +kernel
theorem d_Fo_isPartAt_314 : decode prog_2_method_10_code 314 = .ok (.iconst 0, 1) := by decide +kernel
theorem d_Fo_isPartAt_315 : decode prog_2_method_10_code 315 = .ok (.ireturn, 1) := by decide +kernel
theorem d_Fo_isPartAt_316 : decode prog_2_method_10_code 316 = .ok (.iconst 0, 1) := by decide +kernel
theorem d_Fo_isPartAt_317 : decode prog_2_method_10_code 317 = .ok (.ireturn, 1) := by decide +kernel
theorem d_Fo_expectedBefore_0 : decode prog_2_method_11_code 0 = .ok (.iconst 0, 1) := by decide +kernel
theorem d_Fo_expectedBefore_1 : decode prog_2_method_11_code 1 = .ok (.istore_n 2, 1) := by decide +kernel
theorem d_Fo_expectedBefore_2 : decode prog_2_method_11_code 2 = .ok (.iconst 0, 1) := by decide +kernel
theorem d_Fo_expectedBefore_3 : decode prog_2_method_11_code 3 = .ok (.istore_n 3, 1) := by decide +kernel
theorem d_Fo_expectedBefore_4 : decode prog_2_method_11_code 4 = .ok (.iload_n 3, 1) := by decide +kernel
theorem d_Fo_expectedBefore_5 : decode prog_2_method_11_code 5 = .ok (.aload_n 0, 1) := by decide +kernel
theorem d_Fo_expectedBefore_6 : decode prog_2_method_11_code 6 = .ok (.getfield 37, 3) := by decide +kernel
theorem d_Fo_expectedBefore_9 : decode prog_2_method_11_code 9 = .ok (.if_icmp .ge 54, 3) := by decide +kernel
theorem d_Fo_expectedBefore_12 : decode prog_2_method_11_code 12 = .ok (.aload_n 0, 1) := by decide +kernel
theorem d_Fo_expectedBefore_13 : decode prog_2_method_11_code 13 = .ok (.getfield 24, 3) := by decide +kernel
theorem d_Fo_expectedBefore_16 : decode prog_2_method_11_code 16 = .ok (.iload_n 3, 1) := by decide +kernel
theorem d_Fo_expectedBefore_17 : decode prog_2_method_11_code 17 = .ok (.iaload, 1) := by decide +kernel
theorem d_Fo_expectedBefore_18 : decode prog_2_method_11_code 18 = .ok (.istore 4, 2) := by decide +kernel
theorem d_Fo_expectedBefore_20 : decode prog_2_method_11_code 20 = .ok (.iload_n 1, 1) := by decide +kernel
theorem d_Fo_expectedBefore_21 : decode prog_2_method_11_code 21 = .ok (.aload_n 0, 1) := by decide +kernel
theorem d_Fo_expectedBefore_22 : decode prog_2_method_11_code 22 = .ok (.getfield 9, 3) := by decide +kernel
theorem d_Fo_expectedBefore_25 : decode prog_2_method_11_code 25 = .ok (.iload 4, 2) := by decide +kernel
theorem d_Fo_expectedBefore_27 : decode prog_2_method_11_code 27 = .ok (.iaload, 1) := by decide +kernel
theorem d_Fo_expectedBefore_28 : decode prog_2_method_11_code 28 = .ok (.bipush 88, 2) := by decide +kernel
theorem d_Fo_expectedBefore_30 : decode prog_2_method_11_code 30 = .ok (.if_icmp .ne 13, 3) := by decide +kernel
theorem d_Fo_expectedBefore_33 : decode prog_2_method_11_code 33 = .ok (.aload_n 0, 1) := by decide +kernel
theorem d_Fo_expectedBefore_34 : decode prog_2_method_11_code 34 = .ok (.getfield 18, 3) := by decide +kernel
theorem d_Fo_expectedBefore_37 : decode prog_2_method_11_code 37 = .ok (.iload 4, 2) := by decide +kernel
theorem d_Fo_expectedBefore_39 : decode prog_2_method_11_code 39 = .ok (.iaload, 1) := by decide +kernel
theorem d_Fo_expectedBefore_40 : decode prog_2_method_11_code 40 = .ok (.goto 5, 3) := by decide +kernel
theorem d_Fo_expectedBefore_43 : decode prog_2_method_11_code 43 = .ok (.iload 4, 2) := by decide +kernel
theorem d_Fo_expectedBefore_45 : decode prog_2_method_11_code 45 = .ok (.invokestatic 47, 3) := by decide +kernel
theorem d_Fo_expectedBefore_48 : decode prog_2_method_11_code 48 = .ok (.ifCond .eq 9, 3) := by decide +kernel
theorem d_Fo_expectedBefore_51 : decode prog_2_method_11_code 51 = .ok (.iload_n 2, 1) := by decide +kernel
theorem d_Fo_expectedBefore_52 : decode prog_2_method_11_code 52 = .ok (.iconst 1, 1) := by decide +kernel
theorem d_Fo_expectedBefore_53 : decode prog_2_method_11_code 53 = .ok (.iload_n 3, 1) := by decide +kernel
theorem d_Fo_expectedBefore_54 : decode prog_2_method_11_code 54 = .ok (.ishl, 1) := by decide +kernel
theorem d_Fo_expectedBefore_55 : decode prog_2_method_11_code 55 = .ok (.ior, 1) := by decide +kernel
theorem d_Fo_expectedBefore_56 : decode prog_2_method_11_code 56 = .ok (.istore_n 2, 1) := by decide +kernel
theorem d_Fo_expectedBefore_57 : decode prog_2_method_11_code 57 = .ok (.iinc 3 1, 3) := by decide +kernel
theorem d_Fo_expectedBefore_60 : decode prog_2_method_11_code 60 = .ok (.goto (-56), 3) := by decide +kernel
theorem d_Fo_expectedBefore_63 : decode prog_2_method_11_code 63 = .ok (.iload_n 2, 1) := by decide +kernel
theorem d_Fo_expectedBefore_64 : decode prog_2_method_11_code 64 = .ok (.ireturn, 1) := by decide +kernel
theorem d_Fo_openIn_0 : decode prog_2_method_12_code 0 = .ok (.iconst 0, 1) := by decide +kernel
theorem d_Fo_openIn_1 : decode prog_2_method_12_code 1 = .ok (.istore_n 2, 1) := by decide +kernel
theorem d_Fo_openIn_2 : decode prog_2_method_12_code 2 = .ok (.iconst 0, 1) := by decide +kernel
theorem d_Fo_openIn_3 : decode prog_2_method_12_code 3 = .ok (.istore_n 3, 1) := by decide +kernel
theorem d_Fo_openIn_4 : decode prog_2_method_12_code 4 = .ok (.iload_n 3, 1) := by decide +kernel
theorem d_Fo_openIn_5 : decode prog_2_method_12_code 5 = .ok (.aload_n 0, 1) := by decide +kernel
theorem d_Fo_openIn_6 : decode prog_2_method_12_code 6 = .ok (.getfield 40, 3) := by decide +kernel
theorem d_Fo_openIn_9 : decode prog_2_method_12_code 9 = .ok (.if_icmp .ge 38, 3) := by decide +kernel
theorem d_Fo_openIn_12 : decode prog_2_method_12_code 12 = .ok (.aload_n 0, 1) := by decide +kernel
theorem d_Fo_openIn_13 : decode prog_2_method_12_code 13 = .ok (.getfield 27, 3) := by decide +kernel
theorem d_Fo_openIn_16 : decode prog_2_method_12_code 16 = .ok (.iload_n 3, 1) := by decide +kernel
theorem d_Fo_openIn_17 : decode prog_2_method_12_code 17 = .ok (.iaload, 1) := by decide +kernel
theorem d_Fo_openIn_18 : decode prog_2_method_12_code 18 = .ok (.istore 4, 2) := by decide +kernel
theorem d_Fo_openIn_20 : decode prog_2_method_12_code 20 = .ok (.iload_n 1, 1) := by decide +kernel
theorem d_Fo_openIn_21 : decode prog_2_method_12_code 21 = .ok (.iload 4, 2) := by decide +kernel
theorem d_Fo_openIn_23 : decode prog_2_method_12_code 23 = .ok (.invokestatic 47, 3) := by decide +kernel
theorem d_Fo_openIn_26 : decode prog_2_method_12_code 26 = .ok (.aload_n 0, 1) := by decide +kernel
theorem d_Fo_openIn_27 : decode prog_2_method_12_code 27 = .ok (.iload 4, 2) := by decide +kernel
theorem d_Fo_openIn_29 : decode prog_2_method_12_code 29 = .ok (.invokevirtual 55, 3) := by decide +kernel
theorem d_Fo_openIn_32 : decode prog_2_method_12_code 32 = .ok (.if_icmp .ne 9, 3) := by decide +kernel
theorem d_Fo_openIn_35 : decode prog_2_method_12_code 35 = .ok (.iload_n 2, 1) := by decide +kernel
theorem d_Fo_openIn_36 : decode prog_2_method_12_code 36 = .ok (.iconst 1, 1) := by decide +kernel
theorem d_Fo_openIn_37 : decode prog_2_method_12_code 37 = .ok (.iload_n 3, 1) := by decide +kernel
theorem d_Fo_openIn_38 : decode prog_2_method_12_code 38 = .ok (.ishl, 1) := by decide +kernel
theorem d_Fo_openIn_39 : decode prog_2_method_12_code 39 = .ok (.ior, 1) := by decide +kernel
theorem d_Fo_openIn_40 : decode prog_2_method_12_code 40 = .ok (.istore_n 2, 1) := by decide +kernel
theorem d_Fo_openIn_41 : decode prog_2_method_12_code 41 = .ok (.iinc 3 1, 3) := by decide +kernel
theorem d_Fo_openIn_44 : decode prog_2_method_12_code 44 = .ok (.goto (-40), 3) := by decide +kernel
theorem d_Fo_openIn_47 : decode prog_2_method_12_code 47 = .ok (.iload_n 2, 1) := by decide +kernel
theorem d_Fo_openIn_48 : decode prog_2_method_12_code 48 = .ok (.ireturn, 1) := by decide +kernel
theorem d_Fo_keptIn_0 : decode prog_2_method_13_code 0 = .ok (.iconst 0, 1) := by decide +kernel
theorem d_Fo_keptIn_1 : decode prog_2_method_13_code 1 = .ok (.istore_n 2, 1) := by decide +kernel
theorem d_Fo_keptIn_2 : decode prog_2_method_13_code 2 = .ok (.iconst 0, 1) := by decide +kernel
theorem d_Fo_keptIn_3 : decode prog_2_method_13_code 3 = .ok (.istore_n 3, 1) := by decide +kernel
theorem d_Fo_keptIn_4 : decode prog_2_method_13_code 4 = .ok (.iload_n 3, 1) := by decide +kernel
theorem d_Fo_keptIn_5 : decode prog_2_method_13_code 5 = .ok (.aload_n 0, 1) := by decide +kernel
theorem d_Fo_keptIn_6 : decode prog_2_method_13_code 6 = .ok (.getfield 40, 3) := by decide +kernel
theorem d_Fo_keptIn_9 : decode prog_2_method_13_code 9 = .ok (.if_icmp .ge 43, 3) := by decide +kernel
theorem d_Fo_keptIn_12 : decode prog_2_method_13_code 12 = .ok (.aload_n 0, 1) := by decide +kernel
theorem d_Fo_keptIn_13 : decode prog_2_method_13_code 13 = .ok (.getfield 27, 3) := by decide +kernel
theorem d_Fo_keptIn_16 : decode prog_2_method_13_code 16 = .ok (.iload_n 3, 1) := by decide +kernel
theorem d_Fo_keptIn_17 : decode prog_2_method_13_code 17 = .ok (.iaload, 1) := by decide +kernel
theorem d_Fo_keptIn_18 : decode prog_2_method_13_code 18 = .ok (.istore 4, 2) := by decide +kernel
theorem d_Fo_keptIn_20 : decode prog_2_method_13_code 20 = .ok (.iload_n 1, 1) := by decide +kernel
theorem d_Fo_keptIn_21 : decode prog_2_method_13_code 21 = .ok (.aload_n 0, 1) := by decide +kernel
theorem d_Fo_keptIn_22 : decode prog_2_method_13_code 22 = .ok (.getfield 18, 3) := by decide +kernel
theorem d_Fo_keptIn_25 : decode prog_2_method_13_code 25 = .ok (.iload 4, 2) := by decide +kernel
theorem d_Fo_keptIn_27 : decode prog_2_method_13_code 27 = .ok (.iaload, 1) := by decide +kernel
theorem d_Fo_keptIn_28 : decode prog_2_method_13_code 28 = .ok (.invokestatic 47, 3) := by decide +kernel
theorem d_Fo_keptIn_31 : decode prog_2_method_13_code 31 = .ok (.aload_n 0, 1) := by decide +kernel
theorem d_Fo_keptIn_32 : decode prog_2_method_13_code 32 = .ok (.iload 4, 2) := by decide +kernel
theorem d_Fo_keptIn_34 : decode prog_2_method_13_code 34 = .ok (.invokevirtual 55, 3) := by decide +kernel
theorem d_Fo_keptIn_37 : decode prog_2_method_13_code 37 = .ok (.if_icmp .ne 9, 3) := by decide +kernel
theorem d_Fo_keptIn_40 : decode prog_2_method_13_code 40 = .ok (.iload_n 2, 1) := by decide +kernel
theorem d_Fo_keptIn_41 : decode prog_2_method_13_code 41 = .ok (.iconst 1, 1) := by decide +kernel
theorem d_Fo_keptIn_42 : decode prog_2_method_13_code 42 = .ok (.iload_n 3, 1) := by decide +kernel
theorem d_Fo_keptIn_43 : decode prog_2_method_13_code 43 = .ok (.ishl, 1) := by decide +kernel
theorem d_Fo_keptIn_44 : decode prog_2_method_13_code 44 = .ok (.ior, 1) := by decide +kernel
theorem d_Fo_keptIn_45 : decode prog_2_method_13_code 45 = .ok (.istore_n 2, 1) := by decide +kernel
theorem d_Fo_keptIn_46 : decode prog_2_method_13_code 46 = .ok (.iinc 3 1, 3) := by decide +kernel
theorem d_Fo_keptIn_49 : decode prog_2_method_13_code 49 = .ok (.goto (-45), 3) := by decide +kernel
theorem d_Fo_keptIn_52 : decode prog_2_method_13_code 52 = .ok (.iload_n 2, 1) := by decide +kernel
theorem d_Fo_keptIn_53 : decode prog_2_method_13_code 53 = .ok (.ireturn, 1) := by decide +kernel
theorem d_Fo_isForOnce_0 : decode prog_2_method_14_code 0 = .ok (.aload_n 0, 1) := by decide +kernel
theorem d_Fo_isForOnce_1 : decode prog_2_method_14_code 1 = .ok (.getfield 9, 3) := by decide +kernel
theorem d_Fo_isForOnce_4 : decode prog_2_method_14_code 4 = .ok (.iload_n 1, 1) := by decide +kernel
theorem d_Fo_isForOnce_5 : decode prog_2_method_14_code 5 = .ok (.iaload, 1) := by decide +kernel
theorem d_Fo_isForOnce_6 : decode prog_2_method_14_code 6 = .ok (.bipush 70, 2) := by decide +kernel
theorem d_Fo_isForOnce_8 : decode prog_2_method_14_code 8 = .ok (.if_icmp .eq 14, 3) := by decide +kernel
theorem d_Fo_isForOnce_11 : decode prog_2_method_14_code 11 = .ok (.aload_n 0, 1) := by decide +kernel
theorem d_Fo_isForOnce_12 : decode prog_2_method_14_code 12 = .ok (.getfield 9, 3) := by decide +kernel
theorem d_Fo_isForOnce_15 : decode prog_2_method_14_code 15 = .ok (.iload_n 1, 1) := by decide +kernel
theorem d_Fo_isForOnce_16 : decode prog_2_method_14_code 16 = .ok (.iaload, 1) := by decide +kernel
theorem d_Fo_isForOnce_17 : decode prog_2_method_14_code 17 = .ok (.bipush 85, 2) := by decide +kernel
theorem d_Fo_isForOnce_19 : decode prog_2_method_14_code 19 = .ok (.if_icmp .ne 7, 3) := by decide +kernel
theorem d_Fo_isForOnce_22 : decode prog_2_method_14_code 22 = .ok (.iconst 1, 1) := by decide +kernel
theorem d_Fo_isForOnce_23 : decode prog_2_method_14_code 23 = .ok (.goto 4, 3) := by decide +kernel
theorem d_Fo_isForOnce_26 : decode prog_2_method_14_code 26 = .ok (.iconst 0, 1) := by decide +kernel
theorem d_Fo_isForOnce_27 : decode prog_2_method_14_code 27 = .ok (.ireturn, 1) := by decide +kernel
theorem d_Fo_placesOn_0 : decode prog_2_method_15_code 0 = .ok (.iconst 0, 1) := by decide +kernel
theorem d_Fo_placesOn_1 : decode prog_2_method_15_code 1 = .ok (.istore_n 2, 1) := by decide +kernel
theorem d_Fo_placesOn_2 : decode prog_2_method_15_code 2 = .ok (.iload_n 2, 1) := by decide +kernel
theorem d_Fo_placesOn_3 : decode prog_2_method_15_code 3 = .ok (.aload_n 0, 1) := by decide +kernel
theorem d_Fo_placesOn_4 : decode prog_2_method_15_code 4 = .ok (.getfield 33, 3) := by decide +kernel
theorem d_Fo_placesOn_7 : decode prog_2_method_15_code 7 = .ok (.if_icmp .ge 21, 3) := by decide +kernel
theorem d_Fo_placesOn_10 : decode prog_2_method_15_code 10 = .ok (.aload_n 0, 1) := by decide +kernel
theorem d_Fo_placesOn_11 : decode prog_2_method_15_code 11 = .ok (.getfield 30, 3) := by decide +kernel
theorem d_Fo_placesOn_14 : decode prog_2_method_15_code 14 = .ok (.iload_n 2, 1) := by decide +kernel
theorem d_Fo_placesOn_15 : decode prog_2_method_15_code 15 = .ok (.aload_n 0, 1) := by decide +kernel
theorem d_Fo_placesOn_16 : decode prog_2_method_15_code 16 = .ok (.iload_n 2, 1) := by decide +kernel
theorem d_Fo_placesOn_17 : decode prog_2_method_15_code 17 = .ok (.aload_n 1, 1) := by decide +kernel
theorem d_Fo_placesOn_18 : decode prog_2_method_15_code 18 = .ok (.invokevirtual 58, 3) := by decide +kernel
theorem d_Fo_placesOn_21 : decode prog_2_method_15_code 21 = .ok (.iastore, 1) := by decide +kernel
theorem d_Fo_placesOn_22 : decode prog_2_method_15_code 22 = .ok (.iinc 2 1, 3) := by decide +kernel
theorem d_Fo_placesOn_25 : decode prog_2_method_15_code 25 = .ok (.goto (-23), 3) := by decide +kernel
theorem d_Fo_placesOn_28 : decode prog_2_method_15_code 28 = .ok (.aload_n 0, 1) := by decide +kernel
theorem d_Fo_placesOn_29 : decode prog_2_method_15_code 29 = .ok (.getfield 33, 3) := by decide +kernel
theorem d_Fo_placesOn_32 : decode prog_2_method_15_code 32 = .ok (.ifCond .ne 7, 3) := by decide +kernel
theorem d_Fo_placesOn_35 : decode prog_2_method_15_code 35 = .ok (.iconst 0, 1) := by decide +kernel
theorem d_Fo_placesOn_36 : decode prog_2_method_15_code 36 = .ok (.goto 14, 3) := by decide +kernel
theorem d_Fo_placesOn_39 : decode prog_2_method_15_code 39 = .ok (.aload_n 0, 1) := by decide +kernel
theorem d_Fo_placesOn_40 : decode prog_2_method_15_code 40 = .ok (.getfield 30, 3) := by decide +kernel
theorem d_Fo_placesOn_43 : decode prog_2_method_15_code 43 = .ok (.aload_n 0, 1) := by decide +kernel
theorem d_Fo_placesOn_44 : decode prog_2_method_15_code 44 = .ok (.getfield 33, 3) := by decide +kernel
theorem d_Fo_placesOn_47 : decode prog_2_method_15_code 47 = .ok (.iconst 1, 1) := by decide +kernel
theorem d_Fo_placesOn_48 : decode prog_2_method_15_code 48 = .ok (.isub, 1) := by decide +kernel
theorem d_Fo_placesOn_49 : decode prog_2_method_15_code 49 = .ok (.iaload, 1) := by decide +kernel
theorem d_Fo_placesOn_50 : decode prog_2_method_15_code 50 = .ok (.ireturn, 1) := by decide +kernel
theorem d_Fo_partPlaces_0 : decode prog_2_method_16_code 0 = .ok (.aload_n 2, 1) := by decide +kernel
theorem d_Fo_partPlaces_1 : decode prog_2_method_16_code 1 = .ok (.invokevirtual 62, 3) := by decide +kernel
theorem d_Fo_partPlaces_4 : decode prog_2_method_16_code 4 = .ok (.istore_n 3, 1) := by decide +kernel
theorem d_Fo_partPlaces_5 : decode prog_2_method_16_code 5 = .ok (.aload_n 0, 1) := by decide +kernel
theorem d_Fo_partPlaces_6 : decode prog_2_method_16_code 6 = .ok (.getfield 30, 3) := by decide +kernel
theorem d_Fo_partPlaces_9 : decode prog_2_method_16_code 9 = .ok (.aload_n 0, 1) := by decide +kernel
theorem d_Fo_partPlaces_10 : decode prog_2_method_16_code 10 = .ok (.getfield 15, 3) := by decide +kernel
theorem d_Fo_partPlaces_13 : decode prog_2_method_16_code 13 = .ok (.iload_n 1, 1) := by decide +kernel
theorem d_Fo_partPlaces_14 : decode prog_2_method_16_code 14 = .ok (.iaload, 1) := by decide +kernel
theorem d_Fo_partPlaces_15 : decode prog_2_method_16_code 15 = .ok (.iaload, 1) := by decide +kernel
theorem d_Fo_partPlaces_16 : decode prog_2_method_16_code 16 = .ok (.istore 4, 2) := by decide +kernel
theorem d_Fo_partPlaces_18 : decode prog_2_method_16_code 18 = .ok (.aload_n 0, 1) := by decide +kernel
theorem d_Fo_partPlaces_19 : decode prog_2_method_16_code 19 = .ok (.getfield 30, 3) := by decide +kernel
theorem d_Fo_partPlaces_22 : decode prog_2_method_16_code 22 = .ok (.aload_n 0, 1) := by decide +kernel
theorem d_Fo_partPlaces_23 : decode prog_2_method_16_code 23 = .ok (.getfield 18, 3) := by decide +kernel
theorem d_Fo_partPlaces_26 : decode prog_2_method_16_code 26 = .ok (.iload_n 1, 1) := by decide +kernel
theorem d_Fo_partPlaces_27 : decode prog_2_method_16_code 27 = .ok (.iaload, 1) := by decide +kernel
theorem d_Fo_partPlaces_28 : decode prog_2_method_16_code 28 = .ok (.iaload, 1) := by decide +kernel
theorem d_Fo_partPlaces_29 : decode prog_2_method_16_code 29 = .ok (.istore 5, 2) := by decide +kernel
theorem d_Fo_partPlaces_31 : decode prog_2_method_16_code 31 = .ok (.aload_n 0, 1) := by decide +kernel
theorem d_Fo_partPlaces_32 : decode prog_2_method_16_code 32 = .ok (.getfield 9, 3) := by decide +kernel
theorem d_Fo_partPlaces_35 : decode prog_2_method_16_code 35 = .ok (.iload_n 1, 1) := by decide +kernel
theorem d_Fo_partPlaces_36 : decode prog_2_method_16_code 36 = .ok (.iaload, 1) := by decide +kernel
theorem d_Fo_partPlaces_37 : decode prog_2_method_16_code 37 = .ok (.lookupswitch 225 #[(33, 135), (38, 142), (49, 115), (62, 154), (70, 171), (71, 179), (82, 204), (85, 195), (88, 164), (97, 117), (98, 123), (99, 129), (124, 148)], 115) := by decide +kernel
theorem d_Fo_partPlaces_152 : decode prog_2_method_16_code 152 = .ok (.iload_n 3, 1) := by decide +kernel
theorem d_Fo_partPlaces_153 : decode prog_2_method_16_code 153 = .ok (.ireturn, 1) := by decide +kernel
theorem d_Fo_partPlaces_154 : decode prog_2_method_16_code 154 = .ok (.aload_n 2, 1) := by decide +kernel
theorem d_Fo_partPlaces_155 : decode prog_2_method_16_code 155 = .ok (.iconst 0, 1) := by decide +kernel
theorem d_Fo_partPlaces_156 : decode prog_2_method_16_code 156 = .ok (.invokevirtual 68, 3) := by decide +kernel
theorem d_Fo_partPlaces_159 : decode prog_2_method_16_code 159 = .ok (.ireturn, 1) := by decide +kernel
theorem d_Fo_partPlaces_160 : decode prog_2_method_16_code 160 = .ok (.aload_n 2, 1) := by decide +kernel
theorem d_Fo_partPlaces_161 : decode prog_2_method_16_code 161 = .ok (.iconst 1, 1) := by decide +kernel
theorem d_Fo_partPlaces_162 : decode prog_2_method_16_code 162 = .ok (.invokevirtual 68, 3) := by decide +kernel
theorem d_Fo_partPlaces_165 : decode prog_2_method_16_code 165 = .ok (.ireturn, 1) := by decide +kernel
theorem d_Fo_partPlaces_166 : decode prog_2_method_16_code 166 = .ok (.aload_n 2, 1) := by decide +kernel
theorem d_Fo_partPlaces_167 : decode prog_2_method_16_code 167 = .ok (.iconst 2, 1) := by decide +kernel
end
section
theorem d_Fo_partPlaces_168 : decode prog_2_method_16_code 168 = .ok (.invokevirtual 68, 3) := by decide +kernel
theorem d_Fo_partPlaces_171 : decode prog_2_method_16_code 171 = .ok (.ireturn, 1) := by decide +kernel
theorem d_Fo_partPlaces_172 : decode prog_2_method_16_code 172 = .ok (.iload_n 3, 1) := by decide +kernel
theorem d_Fo_partPlaces_173 : decode prog_2_method_16_code 173 = .ok (.iload 5, 2) := by decide +kernel
theorem d_Fo_partPlaces_175 : decode prog_2_method_16_code 175 = .ok (.iconst (-1), 1) := by decide +kernel
theorem d_Fo_partPlaces_176 : decode prog_2_method_16_code 176 = .ok (.ixor, 1) := by decide +kernel
theorem d_Fo_partPlaces_177 : decode prog_2_method_16_code 177 = .ok (.iand, 1) := by decide +kernel
theorem d_Fo_partPlaces_178 : decode prog_2_method_16_code 178 = .ok (.ireturn, 1) := by decide +kernel
theorem d_Fo_partPlaces_179 : decode prog_2_method_16_code 179 = .ok (.iload 4, 2) := by decide +kernel
theorem d_Fo_partPlaces_181 : decode prog_2_method_16_code 181 = .ok (.iload 5, 2) := by decide +kernel
theorem d_Fo_partPlaces_183 : decode prog_2_method_16_code 183 = .ok (.iand, 1) := by decide +kernel
theorem d_Fo_partPlaces_184 : decode prog_2_method_16_code 184 = .ok (.ireturn, 1) := by decide +kernel
theorem d_Fo_partPlaces_185 : decode prog_2_method_16_code 185 = .ok (.iload 4, 2) := by decide +kernel
theorem d_Fo_partPlaces_187 : decode prog_2_method_16_code 187 = .ok (.iload 5, 2) := by decide +kernel
theorem d_Fo_partPlaces_189 : decode prog_2_method_16_code 189 = .ok (.ior, 1) := by decide +kernel
theorem d_Fo_partPlaces_190 : decode prog_2_method_16_code 190 = .ok (.ireturn, 1) := by decide +kernel
theorem d_Fo_partPlaces_191 : decode prog_2_method_16_code 191 = .ok (.iload_n 3, 1) := by decide +kernel
theorem d_Fo_partPlaces_192 : decode prog_2_method_16_code 192 = .ok (.iload 4, 2) := by decide +kernel
theorem d_Fo_partPlaces_194 : decode prog_2_method_16_code 194 = .ok (.iconst (-1), 1) := by decide +kernel
theorem d_Fo_partPlaces_195 : decode prog_2_method_16_code 195 = .ok (.ixor, 1) := by decide +kernel
theorem d_Fo_partPlaces_196 : decode prog_2_method_16_code 196 = .ok (.iand, 1) := by decide +kernel
theorem d_Fo_partPlaces_197 : decode prog_2_method_16_code 197 = .ok (.iload 5, 2) := by decide +kernel
theorem d_Fo_partPlaces_199 : decode prog_2_method_16_code 199 = .ok (.ior, 1) := by decide +kernel
theorem d_Fo_partPlaces_200 : decode prog_2_method_16_code 200 = .ok (.ireturn, 1) := by decide +kernel
theorem d_Fo_partPlaces_201 : decode prog_2_method_16_code 201 = .ok (.aload_n 2, 1) := by decide +kernel
theorem d_Fo_partPlaces_202 : decode prog_2_method_16_code 202 = .ok (.iload 5, 2) := by decide +kernel
theorem d_Fo_partPlaces_204 : decode prog_2_method_16_code 204 = .ok (.invokevirtual 72, 3) := by decide +kernel
theorem d_Fo_partPlaces_207 : decode prog_2_method_16_code 207 = .ok (.ireturn, 1) := by decide +kernel
theorem d_Fo_partPlaces_208 : decode prog_2_method_16_code 208 = .ok (.aload_n 2, 1) := by decide +kernel
theorem d_Fo_partPlaces_209 : decode prog_2_method_16_code 209 = .ok (.iload_n 3, 1) := by decide +kernel
theorem d_Fo_partPlaces_210 : decode prog_2_method_16_code 210 = .ok (.iload 5, 2) := by decide +kernel
theorem d_Fo_partPlaces_212 : decode prog_2_method_16_code 212 = .ok (.invokevirtual 75, 3) := by decide +kernel
theorem d_Fo_partPlaces_215 : decode prog_2_method_16_code 215 = .ok (.ireturn, 1) := by decide +kernel
theorem d_Fo_partPlaces_216 : decode prog_2_method_16_code 216 = .ok (.iload_n 3, 1) := by decide +kernel
theorem d_Fo_partPlaces_217 : decode prog_2_method_16_code 217 = .ok (.aload_n 2, 1) := by decide +kernel
theorem d_Fo_partPlaces_218 : decode prog_2_method_16_code 218 = .ok (.iload_n 3, 1) := by decide +kernel
theorem d_Fo_partPlaces_219 : decode prog_2_method_16_code 219 = .ok (.iload_n 3, 1) := by decide +kernel
theorem d_Fo_partPlaces_220 : decode prog_2_method_16_code 220 = .ok (.iload 5, 2) := by decide +kernel
theorem d_Fo_partPlaces_222 : decode prog_2_method_16_code 222 = .ok (.iconst (-1), 1) := by decide +kernel
theorem d_Fo_partPlaces_223 : decode prog_2_method_16_code 223 = .ok (.ixor, 1) := by decide +kernel
theorem d_Fo_partPlaces_224 : decode prog_2_method_16_code 224 = .ok (.iand, 1) := by decide +kernel
theorem d_Fo_partPlaces_225 : decode prog_2_method_16_code 225 = .ok (.invokevirtual 75, 3) := by decide +kernel
theorem d_Fo_partPlaces_228 : decode prog_2_method_16_code 228 = .ok (.iconst (-1), 1) := by decide +kernel
theorem d_Fo_partPlaces_229 : decode prog_2_method_16_code 229 = .ok (.ixor, 1) := by decide +kernel
theorem d_Fo_partPlaces_230 : decode prog_2_method_16_code 230 = .ok (.iand, 1) := by decide +kernel
theorem d_Fo_partPlaces_231 : decode prog_2_method_16_code 231 = .ok (.ireturn, 1) := by decide +kernel
theorem d_Fo_partPlaces_232 : decode prog_2_method_16_code 232 = .ok (.aload_n 2, 1) := by decide +kernel
theorem d_Fo_partPlaces_233 : decode prog_2_method_16_code 233 = .ok (.iload 4, 2) := by decide +kernel
theorem d_Fo_partPlaces_235 : decode prog_2_method_16_code 235 = .ok (.iload 5, 2) := by decide +kernel
theorem d_Fo_partPlaces_237 : decode prog_2_method_16_code 237 = .ok (.invokevirtual 75, 3) := by decide +kernel
theorem d_Fo_partPlaces_240 : decode prog_2_method_16_code 240 = .ok (.ireturn, 1) := by decide +kernel
theorem d_Fo_partPlaces_241 : decode prog_2_method_16_code 241 = .ok (.iload_n 3, 1) := by decide +kernel
theorem d_Fo_partPlaces_242 : decode prog_2_method_16_code 242 = .ok (.aload_n 2, 1) := by decide +kernel
theorem d_Fo_partPlaces_243 : decode prog_2_method_16_code 243 = .ok (.iload_n 3, 1) := by decide +kernel
theorem d_Fo_partPlaces_244 : decode prog_2_method_16_code 244 = .ok (.iload 4, 2) := by decide +kernel
theorem d_Fo_partPlaces_246 : decode prog_2_method_16_code 246 = .ok (.iconst (-1), 1) := by decide +kernel
theorem d_Fo_partPlaces_247 : decode prog_2_method_16_code 247 = .ok (.ixor, 1) := by decide +kernel
theorem d_Fo_partPlaces_248 : decode prog_2_method_16_code 248 = .ok (.iand, 1) := by decide +kernel
theorem d_Fo_partPlaces_249 : decode prog_2_method_16_code 249 = .ok (.iload_n 3, 1) := by decide +kernel
theorem d_Fo_partPlaces_250 : decode prog_2_method_16_code 250 = .ok (.iload 5, 2) := by decide +kernel
theorem d_Fo_partPlaces_252 : decode prog_2_method_16_code 252 = .ok (.iconst (-1), 1) := by decide +kernel
theorem d_Fo_partPlaces_253 : decode prog_2_method_16_code 253 = .ok (.ixor, 1) := by decide +kernel
theorem d_Fo_partPlaces_254 : decode prog_2_method_16_code 254 = .ok (.iand, 1) := by decide +kernel
theorem d_Fo_partPlaces_255 : decode prog_2_method_16_code 255 = .ok (.invokevirtual 75, 3) := by decide +kernel
theorem d_Fo_partPlaces_258 : decode prog_2_method_16_code 258 = .ok (.iconst (-1), 1) := by decide +kernel
theorem d_Fo_partPlaces_259 : decode prog_2_method_16_code 259 = .ok (.ixor, 1) := by decide +kernel
theorem d_Fo_partPlaces_260 : decode prog_2_method_16_code 260 = .ok (.iand, 1) := by decide +kernel
theorem d_Fo_partPlaces_261 : decode prog_2_method_16_code 261 = .ok (.ireturn, 1) := by decide +kernel
theorem d_Fo_partPlaces_262 : decode prog_2_method_16_code 262 = .ok (.iconst 0, 1) := by decide +kernel
theorem d_Fo_partPlaces_263 : decode prog_2_method_16_code 263 = .ok (.ireturn, 1) := by decide +kernel
theorem d_Gw_fits_0 : decode prog_3_method_2_code 0 = .ok (.iload_n 0, 1) := by decide +kernel
theorem d_Gw_fits_1 : decode prog_3_method_2_code 1 = .ok (.ifCond .lt 24, 3) := by decide +kernel
theorem d_Gw_fits_4 : decode prog_3_method_2_code 4 = .ok (.iload_n 0, 1) := by decide +kernel
theorem d_Gw_fits_5 : decode prog_3_method_2_code 5 = .ok (.bipush 8, 2) := by decide +kernel
theorem d_Gw_fits_7 : decode prog_3_method_2_code 7 = .ok (.if_icmp .gt 18, 3) := by decide +kernel
theorem d_Gw_fits_10 : decode prog_3_method_2_code 10 = .ok (.iload_n 1, 1) := by decide +kernel
theorem d_Gw_fits_11 : decode prog_3_method_2_code 11 = .ok (.iconst 1, 1) := by decide +kernel
theorem d_Gw_fits_12 : decode prog_3_method_2_code 12 = .ok (.if_icmp .lt 13, 3) := by decide +kernel
theorem d_Gw_fits_15 : decode prog_3_method_2_code 15 = .ok (.iload_n 1, 1) := by decide +kernel
theorem d_Gw_fits_16 : decode prog_3_method_2_code 16 = .ok (.bipush 8, 2) := by decide +kernel
theorem d_Gw_fits_18 : decode prog_3_method_2_code 18 = .ok (.if_icmp .gt 7, 3) := by decide +kernel
theorem d_Gw_fits_21 : decode prog_3_method_2_code 21 = .ok (.iconst 1, 1) := by decide +kernel
theorem d_Gw_fits_22 : decode prog_3_method_2_code 22 = .ok (.goto 4, 3) := by decide +kernel
theorem d_Gw_fits_25 : decode prog_3_method_2_code 25 = .ok (.iconst 0, 1) := by decide +kernel
theorem d_Gw_fits_26 : decode prog_3_method_2_code 26 = .ok (.ireturn, 1) := by decide +kernel
theorem d_Gw_size_0 : decode prog_3_method_3_code 0 = .ok (.aload_n 0, 1) := by decide +kernel
theorem d_Gw_size_1 : decode prog_3_method_3_code 1 = .ok (.getfield 15, 3) := by decide +kernel
theorem d_Gw_size_4 : decode prog_3_method_3_code 4 = .ok (.aload_n 0, 1) := by decide +kernel
theorem d_Gw_size_5 : decode prog_3_method_3_code 5 = .ok (.getfield 19, 3) := by decide +kernel
theorem d_Gw_size_8 : decode prog_3_method_3_code 8 = .ok (.iadd, 1) := by decide +kernel
theorem d_Gw_size_9 : decode prog_3_method_3_code 9 = .ok (.ireturn, 1) := by decide +kernel
theorem d_Gw_reshape_0 : decode prog_3_method_4_code 0 = .ok (.aload_n 0, 1) := by decide +kernel
theorem d_Gw_reshape_1 : decode prog_3_method_4_code 1 = .ok (.iload_n 1, 1) := by decide +kernel
theorem d_Gw_reshape_2 : decode prog_3_method_4_code 2 = .ok (.putfield 15, 3) := by decide +kernel
theorem d_Gw_reshape_5 : decode prog_3_method_4_code 5 = .ok (.aload_n 0, 1) := by decide +kernel
theorem d_Gw_reshape_6 : decode prog_3_method_4_code 6 = .ok (.iload_n 2, 1) := by decide +kernel
theorem d_Gw_reshape_7 : decode prog_3_method_4_code 7 = .ok (.putfield 19, 3) := by decide +kernel
theorem d_Gw_reshape_10 : decode prog_3_method_4_code 10 = .ok (.aload_n 0, 1) := by decide +kernel
theorem d_Gw_reshape_11 : decode prog_3_method_4_code 11 = .ok (.invokevirtual 22, 3) := by decide +kernel
theorem d_Gw_reshape_14 : decode prog_3_method_4_code 14 = .ok (.istore_n 3, 1) := by decide +kernel
theorem d_Gw_reshape_15 : decode prog_3_method_4_code 15 = .ok (.iload_n 3, 1) := by decide +kernel
theorem d_Gw_reshape_16 : decode prog_3_method_4_code 16 = .ok (.aload_n 0, 1) := by decide +kernel
theorem d_Gw_reshape_17 : decode prog_3_method_4_code 17 = .ok (.getfield 9, 3) := by decide +kernel
theorem d_Gw_reshape_20 : decode prog_3_method_4_code 20 = .ok (.arraylength, 1) := by decide +kernel
theorem d_Gw_reshape_21 : decode prog_3_method_4_code 21 = .ok (.if_icmp .ge 16, 3) := by decide +kernel
theorem d_Gw_reshape_24 : decode prog_3_method_4_code 24 = .ok (.aload_n 0, 1) := by decide +kernel
theorem d_Gw_reshape_25 : decode prog_3_method_4_code 25 = .ok (.getfield 9, 3) := by decide +kernel
theorem d_Gw_reshape_28 : decode prog_3_method_4_code 28 = .ok (.iload_n 3, 1) := by decide +kernel
theorem d_Gw_reshape_29 : decode prog_3_method_4_code 29 = .ok (.iconst 0, 1) := by decide +kernel
theorem d_Gw_reshape_30 : decode prog_3_method_4_code 30 = .ok (.iastore, 1) := by decide +kernel
theorem d_Gw_reshape_31 : decode prog_3_method_4_code 31 = .ok (.iinc 3 1, 3) := by decide +kernel
theorem d_Gw_reshape_34 : decode prog_3_method_4_code 34 = .ok (.goto (-19), 3) := by decide +kernel
theorem d_Gw_reshape_37 : decode prog_3_method_4_code 37 = .ok (.return_, 1) := by decide +kernel
theorem d_Gw_replace_0 : decode prog_3_method_5_code 0 = .ok (.aload_n 0, 1) := by decide +kernel
theorem d_Gw_replace_1 : decode prog_3_method_5_code 1 = .ok (.getfield 9, 3) := by decide +kernel
theorem d_Gw_replace_4 : decode prog_3_method_5_code 4 = .ok (.iload_n 1, 1) := by decide +kernel
theorem d_Gw_replace_5 : decode prog_3_method_5_code 5 = .ok (.iaload, 1) := by decide +kernel
theorem d_Gw_replace_6 : decode prog_3_method_5_code 6 = .ok (.istore_n 3, 1) := by decide +kernel
theorem d_Gw_replace_7 : decode prog_3_method_5_code 7 = .ok (.aload_n 0, 1) := by decide +kernel
theorem d_Gw_replace_8 : decode prog_3_method_5_code 8 = .ok (.getfield 9, 3) := by decide +kernel
theorem d_Gw_replace_11 : decode prog_3_method_5_code 11 = .ok (.iload_n 1, 1) := by decide +kernel
theorem d_Gw_replace_12 : decode prog_3_method_5_code 12 = .ok (.iload_n 2, 1) := by decide +kernel
theorem d_Gw_replace_13 : decode prog_3_method_5_code 13 = .ok (.bipush 7, 2) := by decide +kernel
theorem d_Gw_replace_15 : decode prog_3_method_5_code 15 = .ok (.iand, 1) := by decide +kernel
theorem d_Gw_replace_16 : decode prog_3_method_5_code 16 = .ok (.iastore, 1) := by decide +kernel
theorem d_Gw_replace_17 : decode prog_3_method_5_code 17 = .ok (.iload_n 3, 1) := by decide +kernel
theorem d_Gw_replace_18 : decode prog_3_method_5_code 18 = .ok (.ireturn, 1) := by decide +kernel
theorem d_Gw_take_0 : decode prog_3_method_6_code 0 = .ok (.aload_n 0, 1) := by decide +kernel
theorem d_Gw_take_1 : decode prog_3_method_6_code 1 = .ok (.aload_n 1, 1) := by decide +kernel
theorem d_Gw_take_2 : decode prog_3_method_6_code 2 = .ok (.invokevirtual 26, 3) := by decide +kernel
theorem d_Gw_take_5 : decode prog_3_method_6_code 5 = .ok (.aload_n 1, 1) := by decide +kernel
theorem d_Gw_take_6 : decode prog_3_method_6_code 6 = .ok (.invokevirtual 30, 3) := by decide +kernel
theorem d_Gw_take_9 : decode prog_3_method_6_code 9 = .ok (.invokevirtual 32, 3) := by decide +kernel
theorem d_Gw_take_12 : decode prog_3_method_6_code 12 = .ok (.iconst 0, 1) := by decide +kernel
theorem d_Gw_take_13 : decode prog_3_method_6_code 13 = .ok (.istore_n 2, 1) := by decide +kernel
theorem d_Gw_take_14 : decode prog_3_method_6_code 14 = .ok (.iload_n 2, 1) := by decide +kernel
theorem d_Gw_take_15 : decode prog_3_method_6_code 15 = .ok (.aload_n 0, 1) := by decide +kernel
theorem d_Gw_take_16 : decode prog_3_method_6_code 16 = .ok (.invokevirtual 22, 3) := by decide +kernel
theorem d_Gw_take_19 : decode prog_3_method_6_code 19 = .ok (.if_icmp .ge 23, 3) := by decide +kernel
theorem d_Gw_take_22 : decode prog_3_method_6_code 22 = .ok (.aload_n 0, 1) := by decide +kernel
theorem d_Gw_take_23 : decode prog_3_method_6_code 23 = .ok (.getfield 9, 3) := by decide +kernel
theorem d_Gw_take_26 : decode prog_3_method_6_code 26 = .ok (.iload_n 2, 1) := by decide +kernel
theorem d_Gw_take_27 : decode prog_3_method_6_code 27 = .ok (.aload_n 1, 1) := by decide +kernel
theorem d_Gw_take_28 : decode prog_3_method_6_code 28 = .ok (.iload_n 2, 1) := by decide +kernel
theorem d_Gw_take_29 : decode prog_3_method_6_code 29 = .ok (.invokevirtual 36, 3) := by decide +kernel
theorem d_Gw_take_32 : decode prog_3_method_6_code 32 = .ok (.bipush 7, 2) := by decide +kernel
theorem d_Gw_take_34 : decode prog_3_method_6_code 34 = .ok (.iand, 1) := by decide +kernel
theorem d_Gw_take_35 : decode prog_3_method_6_code 35 = .ok (.iastore, 1) := by decide +kernel
theorem d_Gw_take_36 : decode prog_3_method_6_code 36 = .ok (.iinc 2 1, 3) := by decide +kernel
theorem d_Gw_take_39 : decode prog_3_method_6_code 39 = .ok (.goto (-25), 3) := by decide +kernel
theorem d_Gw_take_42 : decode prog_3_method_6_code 42 = .ok (.return_, 1) := by decide +kernel
theorem d_Gw_indexOf_0 : decode prog_3_method_7_code 0 = .ok (.iload_n 1, 1) := by decide +kernel
theorem d_Gw_indexOf_1 : decode prog_3_method_7_code 1 = .ok (.aload_n 0, 1) := by decide +kernel
theorem d_Gw_indexOf_2 : decode prog_3_method_7_code 2 = .ok (.invokevirtual 22, 3) := by decide +kernel
theorem d_Gw_indexOf_5 : decode prog_3_method_7_code 5 = .ok (.if_icmp .lt 11, 3) := by decide +kernel
theorem d_Gw_indexOf_8 : decode prog_3_method_7_code 8 = .ok (.aload_n 0, 1) := by decide +kernel
theorem d_Gw_indexOf_9 : decode prog_3_method_7_code 9 = .ok (.getfield 19, 3) := by decide +kernel
theorem d_Gw_indexOf_12 : decode prog_3_method_7_code 12 = .ok (.iconst 1, 1) := by decide +kernel
theorem d_Gw_indexOf_13 : decode prog_3_method_7_code 13 = .ok (.if_icmp .ge 7, 3) := by decide +kernel
theorem d_Gw_indexOf_16 : decode prog_3_method_7_code 16 = .ok (.iload_n 1, 1) := by decide +kernel
theorem d_Gw_indexOf_17 : decode prog_3_method_7_code 17 = .ok (.goto 19, 3) := by decide +kernel
theorem d_Gw_indexOf_20 : decode prog_3_method_7_code 20 = .ok (.aload_n 0, 1) := by decide +kernel
theorem d_Gw_indexOf_21 : decode prog_3_method_7_code 21 = .ok (.getfield 15, 3) := by decide +kernel
theorem d_Gw_indexOf_24 : decode prog_3_method_7_code 24 = .ok (.iload_n 1, 1) := by decide +kernel
theorem d_Gw_indexOf_25 : decode prog_3_method_7_code 25 = .ok (.aload_n 0, 1) := by decide +kernel
theorem d_Gw_indexOf_26 : decode prog_3_method_7_code 26 = .ok (.getfield 15, 3) := by decide +kernel
theorem d_Gw_indexOf_29 : decode prog_3_method_7_code 29 = .ok (.isub, 1) := by decide +kernel
theorem d_Gw_indexOf_30 : decode prog_3_method_7_code 30 = .ok (.aload_n 0, 1) := by decide +kernel
theorem d_Gw_indexOf_31 : decode prog_3_method_7_code 31 = .ok (.getfield 19, 3) := by decide +kernel
theorem d_Gw_indexOf_34 : decode prog_3_method_7_code 34 = .ok (.irem, 1) := by decide +kernel
theorem d_Gw_indexOf_35 : decode prog_3_method_7_code 35 = .ok (.iadd, 1) := by decide +kernel
theorem d_Gw_indexOf_36 : decode prog_3_method_7_code 36 = .ok (.ireturn, 1) := by decide +kernel
theorem d_Gw_letterAt_0 : decode prog_3_method_8_code 0 = .ok (.aload_n 0, 1) := by decide +kernel
theorem d_Gw_letterAt_1 : decode prog_3_method_8_code 1 = .ok (.getfield 9, 3) := by decide +kernel
theorem d_Gw_letterAt_4 : decode prog_3_method_8_code 4 = .ok (.aload_n 0, 1) := by decide +kernel
theorem d_Gw_letterAt_5 : decode prog_3_method_8_code 5 = .ok (.iload_n 1, 1) := by decide +kernel
theorem d_Gw_letterAt_6 : decode prog_3_method_8_code 6 = .ok (.invokevirtual 40, 3) := by decide +kernel
theorem d_Gw_letterAt_9 : decode prog_3_method_8_code 9 = .ok (.iaload, 1) := by decide +kernel
theorem d_Gw_letterAt_10 : decode prog_3_method_8_code 10 = .ok (.ireturn, 1) := by decide +kernel
theorem d_Gw_allPlaces_0 : decode prog_3_method_9_code 0 = .ok (.iconst 1, 1) := by decide +kernel
theorem d_Gw_allPlaces_1 : decode prog_3_method_9_code 1 = .ok (.aload_n 0, 1) := by decide +kernel
theorem d_Gw_allPlaces_2 : decode prog_3_method_9_code 2 = .ok (.invokevirtual 22, 3) := by decide +kernel
theorem d_Gw_allPlaces_5 : decode prog_3_method_9_code 5 = .ok (.ishl, 1) := by decide +kernel
theorem d_Gw_allPlaces_6 : decode prog_3_method_9_code 6 = .ok (.iconst 1, 1) := by decide +kernel
theorem d_Gw_allPlaces_7 : decode prog_3_method_9_code 7 = .ok (.isub, 1) := by decide +kernel
theorem d_Gw_allPlaces_8 : decode prog_3_method_9_code 8 = .ok (.ireturn, 1) := by decide +kernel
theorem d_Gw_placesWith_0 : decode prog_3_method_10_code 0 = .ok (.iconst 0, 1) := by decide +kernel
theorem d_Gw_placesWith_1 : decode prog_3_method_10_code 1 = .ok (.istore_n 2, 1) := by decide +kernel
theorem d_Gw_placesWith_2 : decode prog_3_method_10_code 2 = .ok (.iconst 0, 1) := by decide +kernel
theorem d_Gw_placesWith_3 : decode prog_3_method_10_code 3 = .ok (.istore_n 3, 1) := by decide +kernel
theorem d_Gw_placesWith_4 : decode prog_3_method_10_code 4 = .ok (.iload_n 3, 1) := by decide +kernel
theorem d_Gw_placesWith_5 : decode prog_3_method_10_code 5 = .ok (.aload_n 0, 1) := by decide +kernel
theorem d_Gw_placesWith_6 : decode prog_3_method_10_code 6 = .ok (.invokevirtual 22, 3) := by decide +kernel
theorem d_Gw_placesWith_9 : decode prog_3_method_10_code 9 = .ok (.if_icmp .ge 28, 3) := by decide +kernel
theorem d_Gw_placesWith_12 : decode prog_3_method_10_code 12 = .ok (.aload_n 0, 1) := by decide +kernel
theorem d_Gw_placesWith_13 : decode prog_3_method_10_code 13 = .ok (.getfield 9, 3) := by decide +kernel
theorem d_Gw_placesWith_16 : decode prog_3_method_10_code 16 = .ok (.iload_n 3, 1) := by decide +kernel
theorem d_Gw_placesWith_17 : decode prog_3_method_10_code 17 = .ok (.iaload, 1) := by decide +kernel
theorem d_Gw_placesWith_18 : decode prog_3_method_10_code 18 = .ok (.iload_n 1, 1) := by decide +kernel
theorem d_Gw_placesWith_19 : decode prog_3_method_10_code 19 = .ok (.invokestatic 43, 3) := by decide +kernel
theorem d_Gw_placesWith_22 : decode prog_3_method_10_code 22 = .ok (.ifCond .eq 9, 3) := by decide +kernel
theorem d_Gw_placesWith_25 : decode prog_3_method_10_code 25 = .ok (.iload_n 2, 1) := by decide +kernel
theorem d_Gw_placesWith_26 : decode prog_3_method_10_code 26 = .ok (.iconst 1, 1) := by decide +kernel
theorem d_Gw_placesWith_27 : decode prog_3_method_10_code 27 = .ok (.iload_n 3, 1) := by decide +kernel
theorem d_Gw_placesWith_28 : decode prog_3_method_10_code 28 = .ok (.ishl, 1) := by decide +kernel
theorem d_Gw_placesWith_29 : decode prog_3_method_10_code 29 = .ok (.ior, 1) := by decide +kernel
theorem d_Gw_placesWith_30 : decode prog_3_method_10_code 30 = .ok (.istore_n 2, 1) := by decide +kernel
theorem d_Gw_placesWith_31 : decode prog_3_method_10_code 31 = .ok (.iinc 3 1, 3) := by decide +kernel
theorem d_Gw_placesWith_34 : decode prog_3_method_10_code 34 = .ok (.goto (-30), 3) := by decide +kernel
theorem d_Gw_placesWith_37 : decode prog_3_method_10_code 37 = .ok (.iload_n 2, 1) := by decide +kernel
theorem d_Gw_placesWith_38 : decode prog_3_method_10_code 38 = .ok (.ireturn, 1) := by decide +kernel
theorem d_Gw_placesBefore_0 : decode prog_3_method_11_code 0 = .ok (.iload_n 1, 1) := by decide +kernel
theorem d_Gw_placesBefore_1 : decode prog_3_method_11_code 1 = .ok (.aload_n 0, 1) := by decide +kernel
theorem d_Gw_placesBefore_2 : decode prog_3_method_11_code 2 = .ok (.getfield 15, 3) := by decide +kernel
theorem d_Gw_placesBefore_5 : decode prog_3_method_11_code 5 = .ok (.invokestatic 43, 3) := by decide +kernel
theorem d_Gw_placesBefore_8 : decode prog_3_method_11_code 8 = .ok (.ifCond .eq 14, 3) := by decide +kernel
theorem d_Gw_placesBefore_11 : decode prog_3_method_11_code 11 = .ok (.iconst 1, 1) := by decide +kernel
theorem d_Gw_placesBefore_12 : decode prog_3_method_11_code 12 = .ok (.aload_n 0, 1) := by decide +kernel
theorem d_Gw_placesBefore_13 : decode prog_3_method_11_code 13 = .ok (.invokevirtual 22, 3) := by decide +kernel
theorem d_Gw_placesBefore_16 : decode prog_3_method_11_code 16 = .ok (.iconst 1, 1) := by decide +kernel
theorem d_Gw_placesBefore_17 : decode prog_3_method_11_code 17 = .ok (.isub, 1) := by decide +kernel
theorem d_Gw_placesBefore_18 : decode prog_3_method_11_code 18 = .ok (.ishl, 1) := by decide +kernel
theorem d_Gw_placesBefore_19 : decode prog_3_method_11_code 19 = .ok (.goto 4, 3) := by decide +kernel
theorem d_Gw_placesBefore_22 : decode prog_3_method_11_code 22 = .ok (.iconst 0, 1) := by decide +kernel
theorem d_Gw_placesBefore_23 : decode prog_3_method_11_code 23 = .ok (.istore_n 2, 1) := by decide +kernel
theorem d_Gw_placesBefore_24 : decode prog_3_method_11_code 24 = .ok (.iload_n 1, 1) := by decide +kernel
theorem d_Gw_placesBefore_25 : decode prog_3_method_11_code 25 = .ok (.iconst 1, 1) := by decide +kernel
theorem d_Gw_placesBefore_26 : decode prog_3_method_11_code 26 = .ok (.ishr, 1) := by decide +kernel
theorem d_Gw_placesBefore_27 : decode prog_3_method_11_code 27 = .ok (.iload_n 2, 1) := by decide +kernel
theorem d_Gw_placesBefore_28 : decode prog_3_method_11_code 28 = .ok (.ior, 1) := by decide +kernel
theorem d_Gw_placesBefore_29 : decode prog_3_method_11_code 29 = .ok (.ireturn, 1) := by decide +kernel
theorem d_Gw_placesUntil_0 : decode prog_3_method_12_code 0 = .ok (.iload_n 2, 1) := by decide +kernel
theorem d_Gw_placesUntil_1 : decode prog_3_method_12_code 1 = .ok (.istore_n 3, 1) := by decide +kernel
theorem d_Gw_placesUntil_2 : decode prog_3_method_12_code 2 = .ok (.iconst 0, 1) := by decide +kernel
theorem d_Gw_placesUntil_3 : decode prog_3_method_12_code 3 = .ok (.istore 4, 2) := by decide +kernel
theorem d_Gw_placesUntil_5 : decode prog_3_method_12_code 5 = .ok (.iload 4, 2) := by decide +kernel
theorem d_Gw_placesUntil_7 : decode prog_3_method_12_code 7 = .ok (.aload_n 0, 1) := by decide +kernel
theorem d_Gw_placesUntil_8 : decode prog_3_method_12_code 8 = .ok (.invokevirtual 22, 3) := by decide +kernel
theorem d_Gw_placesUntil_11 : decode prog_3_method_12_code 11 = .ok (.if_icmp .ge 19, 3) := by decide +kernel
theorem d_Gw_placesUntil_14 : decode prog_3_method_12_code 14 = .ok (.iload_n 2, 1) := by decide +kernel
theorem d_Gw_placesUntil_15 : decode prog_3_method_12_code 15 = .ok (.iload_n 1, 1) := by decide +kernel
theorem d_Gw_placesUntil_16 : decode prog_3_method_12_code 16 = .ok (.aload_n 0, 1) := by decide +kernel
theorem d_Gw_placesUntil_17 : decode prog_3_method_12_code 17 = .ok (.iload_n 3, 1) := by decide +kernel
theorem d_Gw_placesUntil_18 : decode prog_3_method_12_code 18 = .ok (.invokevirtual 47, 3) := by decide +kernel
theorem d_Gw_placesUntil_21 : decode prog_3_method_12_code 21 = .ok (.iand, 1) := by decide +kernel
theorem d_Gw_placesUntil_22 : decode prog_3_method_12_code 22 = .ok (.ior, 1) := by decide +kernel
theorem d_Gw_placesUntil_23 : decode prog_3_method_12_code 23 = .ok (.istore_n 3, 1) := by decide +kernel
theorem d_Gw_placesUntil_24 : decode prog_3_method_12_code 24 = .ok (.iinc 4 1, 3) := by decide +kernel
theorem d_Gw_placesUntil_27 : decode prog_3_method_12_code 27 = .ok (.goto (-22), 3) := by decide +kernel
theorem d_Gw_placesUntil_30 : decode prog_3_method_12_code 30 = .ok (.iload_n 3, 1) := by decide +kernel
theorem d_Gw_placesUntil_31 : decode prog_3_method_12_code 31 = .ok (.ireturn, 1) := by decide +kernel
theorem d_La_find_0 : decode prog_4_method_2_code 0 = .ok (.aload_n 0, 1) := by decide +kernel
theorem d_La_find_1 : decode prog_4_method_2_code 1 = .ok (.aload_n 1, 1) := by decide +kernel
theorem d_La_find_2 : decode prog_4_method_2_code 2 = .ok (.invokevirtual 44, 3) := by decide +kernel
theorem d_La_find_5 : decode prog_4_method_2_code 5 = .ok (.iconst 1, 1) := by decide +kernel
theorem d_La_find_6 : decode prog_4_method_2_code 6 = .ok (.istore_n 2, 1) := by decide +kernel
theorem d_La_find_7 : decode prog_4_method_2_code 7 = .ok (.iconst 0, 1) := by decide +kernel
theorem d_La_find_8 : decode prog_4_method_2_code 8 = .ok (.istore_n 3, 1) := by decide +kernel
theorem d_La_find_9 : decode prog_4_method_2_code 9 = .ok (.iload_n 2, 1) := by decide +kernel
theorem d_La_find_10 : decode prog_4_method_2_code 10 = .ok (.ifCond .eq 71, 3) := by decide +kernel
theorem d_La_find_13 : decode prog_4_method_2_code 13 = .ok (.iload_n 3, 1) := by decide +kernel
theorem d_La_find_14 : decode prog_4_method_2_code 14 = .ok (.sipush 256, 3) := by decide +kernel
theorem d_La_find_17 : decode prog_4_method_2_code 17 = .ok (.if_icmp .gt 64, 3) := by decide +kernel
theorem d_La_find_20 : decode prog_4_method_2_code 20 = .ok (.aload_n 0, 1) := by decide +kernel
theorem d_La_find_21 : decode prog_4_method_2_code 21 = .ok (.getfield 41, 3) := by decide +kernel
theorem d_La_find_24 : decode prog_4_method_2_code 24 = .ok (.istore 4, 2) := by decide +kernel
theorem d_La_find_26 : decode prog_4_method_2_code 26 = .ok (.aload_n 0, 1) := by decide +kernel
theorem d_La_find_27 : decode prog_4_method_2_code 27 = .ok (.invokevirtual 48, 3) := by decide +kernel
theorem d_La_find_30 : decode prog_4_method_2_code 30 = .ok (.iconst 0, 1) := by decide +kernel
theorem d_La_find_31 : decode prog_4_method_2_code 31 = .ok (.istore 5, 2) := by decide +kernel
theorem d_La_find_33 : decode prog_4_method_2_code 33 = .ok (.iload 5, 2) := by decide +kernel
theorem d_La_find_35 : decode prog_4_method_2_code 35 = .ok (.aload_n 0, 1) := by decide +kernel
theorem d_La_find_36 : decode prog_4_method_2_code 36 = .ok (.getfield 38, 3) := by decide +kernel
theorem d_La_find_39 : decode prog_4_method_2_code 39 = .ok (.if_icmp .ge 21, 3) := by decide +kernel
theorem d_La_find_42 : decode prog_4_method_2_code 42 = .ok (.aload_n 0, 1) := by decide +kernel
theorem d_La_find_43 : decode prog_4_method_2_code 43 = .ok (.iload 5, 2) := by decide +kernel
theorem d_La_find_45 : decode prog_4_method_2_code 45 = .ok (.invokevirtual 51, 3) := by decide +kernel
theorem d_La_find_48 : decode prog_4_method_2_code 48 = .ok (.aload_n 0, 1) := by decide +kernel
theorem d_La_find_49 : decode prog_4_method_2_code 49 = .ok (.iload 5, 2) := by decide +kernel
theorem d_La_find_51 : decode prog_4_method_2_code 51 = .ok (.invokevirtual 55, 3) := by decide +kernel
theorem d_La_find_54 : decode prog_4_method_2_code 54 = .ok (.iinc 5 1, 3) := by decide +kernel
theorem d_La_find_57 : decode prog_4_method_2_code 57 = .ok (.goto (-24), 3) := by decide +kernel
theorem d_La_find_60 : decode prog_4_method_2_code 60 = .ok (.aload_n 0, 1) := by decide +kernel
theorem d_La_find_61 : decode prog_4_method_2_code 61 = .ok (.getfield 41, 3) := by decide +kernel
theorem d_La_find_64 : decode prog_4_method_2_code 64 = .ok (.iload 4, 2) := by decide +kernel
theorem d_La_find_66 : decode prog_4_method_2_code 66 = .ok (.if_icmp .ge 7, 3) := by decide +kernel
theorem d_La_find_69 : decode prog_4_method_2_code 69 = .ok (.iconst 1, 1) := by decide +kernel
theorem d_La_find_70 : decode prog_4_method_2_code 70 = .ok (.goto 4, 3) := by decide +kernel
theorem d_La_find_73 : decode prog_4_method_2_code 73 = .ok (.iconst 0, 1) := by decide +kernel
theorem d_La_find_74 : decode prog_4_method_2_code 74 = .ok (.istore_n 2, 1) := by decide +kernel
theorem d_La_find_75 : decode prog_4_method_2_code 75 = .ok (.iinc 3 1, 3) := by decide +kernel
theorem d_La_find_78 : decode prog_4_method_2_code 78 = .ok (.goto (-69), 3) := by decide +kernel
theorem d_La_find_81 : decode prog_4_method_2_code 81 = .ok (.return_, 1) := by decide +kernel
theorem d_La_lookAtStates_0 : decode prog_4_method_3_code 0 = .ok (.aload_n 0, 1) := by decide +kernel
theorem d_La_lookAtStates_1 : decode prog_4_method_3_code 1 = .ok (.aload_n 1, 1) := by decide +kernel
theorem d_La_lookAtStates_2 : decode prog_4_method_3_code 2 = .ok (.invokevirtual 58, 3) := by decide +kernel
theorem d_La_lookAtStates_5 : decode prog_4_method_3_code 5 = .ok (.putfield 34, 3) := by decide +kernel
theorem d_La_lookAtStates_8 : decode prog_4_method_3_code 8 = .ok (.aload_n 0, 1) := by decide +kernel
theorem d_La_lookAtStates_9 : decode prog_4_method_3_code 9 = .ok (.aload_n 1, 1) := by decide +kernel
theorem d_La_lookAtStates_10 : decode prog_4_method_3_code 10 = .ok (.invokevirtual 64, 3) := by decide +kernel
theorem d_La_lookAtStates_13 : decode prog_4_method_3_code 13 = .ok (.putfield 38, 3) := by decide +kernel
theorem d_La_lookAtStates_16 : decode prog_4_method_3_code 16 = .ok (.aload_n 0, 1) := by decide +kernel
theorem d_La_lookAtStates_17 : decode prog_4_method_3_code 17 = .ok (.aload_n 0, 1) := by decide +kernel
theorem d_La_lookAtStates_18 : decode prog_4_method_3_code 18 = .ok (.getfield 34, 3) := by decide +kernel
theorem d_La_lookAtStates_21 : decode prog_4_method_3_code 21 = .ok (.putfield 41, 3) := by decide +kernel
theorem d_La_lookAtStates_24 : decode prog_4_method_3_code 24 = .ok (.iconst 0, 1) := by decide +kernel
theorem d_La_lookAtStates_25 : decode prog_4_method_3_code 25 = .ok (.istore_n 2, 1) := by decide +kernel
theorem d_La_lookAtStates_26 : decode prog_4_method_3_code 26 = .ok (.iload_n 2, 1) := by decide +kernel
theorem d_La_lookAtStates_27 : decode prog_4_method_3_code 27 = .ok (.aload_n 0, 1) := by decide +kernel
theorem d_La_lookAtStates_28 : decode prog_4_method_3_code 28 = .ok (.getfield 34, 3) := by decide +kernel
theorem d_La_lookAtStates_31 : decode prog_4_method_3_code 31 = .ok (.if_icmp .ge 75, 3) := by decide +kernel
theorem d_La_lookAtStates_34 : decode prog_4_method_3_code 34 = .ok (.aload_n 1, 1) := by decide +kernel
theorem d_La_lookAtStates_35 : decode prog_4_method_3_code 35 = .ok (.iload_n 2, 1) := by decide +kernel
theorem d_La_lookAtStates_36 : decode prog_4_method_3_code 36 = .ok (.invokevirtual 67, 3) := by decide +kernel
theorem d_La_lookAtStates_39 : decode prog_4_method_3_code 39 = .ok (.istore_n 3, 1) := by decide +kernel
theorem d_La_lookAtStates_40 : decode prog_4_method_3_code 40 = .ok (.aload_n 0, 1) := by decide +kernel
theorem d_La_lookAtStates_41 : decode prog_4_method_3_code 41 = .ok (.getfield 9, 3) := by decide +kernel
theorem d_La_lookAtStates_44 : decode prog_4_method_3_code 44 = .ok (.iload_n 2, 1) := by decide +kernel
theorem d_La_lookAtStates_45 : decode prog_4_method_3_code 45 = .ok (.aload_n 1, 1) := by decide +kernel
theorem d_La_lookAtStates_46 : decode prog_4_method_3_code 46 = .ok (.iload_n 3, 1) := by decide +kernel
theorem d_La_lookAtStates_47 : decode prog_4_method_3_code 47 = .ok (.invokevirtual 71, 3) := by decide +kernel
theorem d_La_lookAtStates_50 : decode prog_4_method_3_code 50 = .ok (.iastore, 1) := by decide +kernel
theorem d_La_lookAtStates_51 : decode prog_4_method_3_code 51 = .ok (.aload_n 0, 1) := by decide +kernel
theorem d_La_lookAtStates_52 : decode prog_4_method_3_code 52 = .ok (.getfield 15, 3) := by decide +kernel
theorem d_La_lookAtStates_55 : decode prog_4_method_3_code 55 = .ok (.iload_n 2, 1) := by decide +kernel
theorem d_La_lookAtStates_56 : decode prog_4_method_3_code 56 = .ok (.aload_n 1, 1) := by decide +kernel
theorem d_La_lookAtStates_57 : decode prog_4_method_3_code 57 = .ok (.iload_n 3, 1) := by decide +kernel
theorem d_La_lookAtStates_58 : decode prog_4_method_3_code 58 = .ok (.invokevirtual 74, 3) := by decide +kernel
theorem d_La_lookAtStates_61 : decode prog_4_method_3_code 61 = .ok (.iastore, 1) := by decide +kernel
theorem d_La_lookAtStates_62 : decode prog_4_method_3_code 62 = .ok (.aload_n 0, 1) := by decide +kernel
theorem d_La_lookAtStates_63 : decode prog_4_method_3_code 63 = .ok (.getfield 18, 3) := by decide +kernel
theorem d_La_lookAtStates_66 : decode prog_4_method_3_code 66 = .ok (.iload_n 2, 1) := by decide +kernel
theorem d_La_lookAtStates_67 : decode prog_4_method_3_code 67 = .ok (.aload_n 1, 1) := by decide +kernel
theorem d_La_lookAtStates_68 : decode prog_4_method_3_code 68 = .ok (.iload_n 3, 1) := by decide +kernel
theorem d_La_lookAtStates_69 : decode prog_4_method_3_code 69 = .ok (.invokevirtual 77, 3) := by decide +kernel
theorem d_La_lookAtStates_72 : decode prog_4_method_3_code 72 = .ok (.aload_n 0, 1) := by decide +kernel
theorem d_La_lookAtStates_73 : decode prog_4_method_3_code 73 = .ok (.getfield 15, 3) := by decide +kernel
theorem d_La_lookAtStates_76 : decode prog_4_method_3_code 76 = .ok (.iload_n 2, 1) := by decide +kernel
theorem d_La_lookAtStates_77 : decode prog_4_method_3_code 77 = .ok (.iaload, 1) := by decide +kernel
theorem d_La_lookAtStates_78 : decode prog_4_method_3_code 78 = .ok (.iconst (-1), 1) := by decide +kernel
theorem d_La_lookAtStates_79 : decode prog_4_method_3_code 79 = .ok (.ixor, 1) := by decide +kernel
theorem d_La_lookAtStates_80 : decode prog_4_method_3_code 80 = .ok (.iand, 1) := by decide +kernel
theorem d_La_lookAtStates_81 : decode prog_4_method_3_code 81 = .ok (.iastore, 1) := by decide +kernel
theorem d_La_lookAtStates_82 : decode prog_4_method_3_code 82 = .ok (.aload_n 0, 1) := by decide +kernel
theorem d_La_lookAtStates_83 : decode prog_4_method_3_code 83 = .ok (.getfield 21, 3) := by decide +kernel
theorem d_La_lookAtStates_86 : decode prog_4_method_3_code 86 = .ok (.iload_n 2, 1) := by decide +kernel
theorem d_La_lookAtStates_87 : decode prog_4_method_3_code 87 = .ok (.aload_n 1, 1) := by decide +kernel
theorem d_La_lookAtStates_88 : decode prog_4_method_3_code 88 = .ok (.iload_n 3, 1) := by decide +kernel
theorem d_La_lookAtStates_89 : decode prog_4_method_3_code 89 = .ok (.invokevirtual 80, 3) := by decide +kernel
theorem d_La_lookAtStates_92 : decode prog_4_method_3_code 92 = .ok (.bastore, 1) := by decide +kernel
theorem d_La_lookAtStates_93 : decode prog_4_method_3_code 93 = .ok (.aload_n 0, 1) := by decide +kernel
theorem d_La_lookAtStates_94 : decode prog_4_method_3_code 94 = .ok (.getfield 25, 3) := by decide +kernel
theorem d_La_lookAtStates_97 : decode prog_4_method_3_code 97 = .ok (.iload_n 2, 1) := by decide +kernel
theorem d_La_lookAtStates_98 : decode prog_4_method_3_code 98 = .ok (.iconst 1, 1) := by decide +kernel
theorem d_La_lookAtStates_99 : decode prog_4_method_3_code 99 = .ok (.bastore, 1) := by decide +kernel
theorem d_La_lookAtStates_100 : decode prog_4_method_3_code 100 = .ok (.iinc 2 1, 3) := by decide +kernel
theorem d_La_lookAtStates_103 : decode prog_4_method_3_code 103 = .ok (.goto (-77), 3) := by decide +kernel
theorem d_La_lookAtStates_106 : decode prog_4_method_3_code 106 = .ok (.return_, 1) := by decide +kernel
theorem d_La_sweepDeadEnds_0 : decode prog_4_method_4_code 0 = .ok (.iconst 0, 1) := by decide +kernel
theorem d_La_sweepDeadEnds_1 : decode prog_4_method_4_code 1 = .ok (.istore_n 1, 1) := by decide +kernel
theorem d_La_sweepDeadEnds_2 : decode prog_4_method_4_code 2 = .ok (.iconst 0, 1) := by decide +kernel
theorem d_La_sweepDeadEnds_3 : decode prog_4_method_4_code 3 = .ok (.istore_n 2, 1) := by decide +kernel
theorem d_La_sweepDeadEnds_4 : decode prog_4_method_4_code 4 = .ok (.iload_n 2, 1) := by decide +kernel
theorem d_La_sweepDeadEnds_5 : decode prog_4_method_4_code 5 = .ok (.aload_n 0, 1) := by decide +kernel
theorem d_La_sweepDeadEnds_6 : decode prog_4_method_4_code 6 = .ok (.getfield 34, 3) := by decide +kernel
theorem d_La_sweepDeadEnds_9 : decode prog_4_method_4_code 9 = .ok (.if_icmp .ge 29, 3) := by decide +kernel
theorem d_La_sweepDeadEnds_12 : decode prog_4_method_4_code 12 = .ok (.aload_n 0, 1) := by decide +kernel
theorem d_La_sweepDeadEnds_13 : decode prog_4_method_4_code 13 = .ok (.getfield 25, 3) := by decide +kernel
theorem d_La_sweepDeadEnds_16 : decode prog_4_method_4_code 16 = .ok (.iload_n 2, 1) := by decide +kernel
theorem d_La_sweepDeadEnds_17 : decode prog_4_method_4_code 17 = .ok (.baload, 1) := by decide +kernel
theorem d_La_sweepDeadEnds_18 : decode prog_4_method_4_code 18 = .ok (.ifCond .eq 14, 3) := by decide +kernel
theorem d_La_sweepDeadEnds_21 : decode prog_4_method_4_code 21 = .ok (.iload_n 1, 1) := by decide +kernel
theorem d_La_sweepDeadEnds_22 : decode prog_4_method_4_code 22 = .ok (.iconst 1, 1) := by decide +kernel
theorem d_La_sweepDeadEnds_23 : decode prog_4_method_4_code 23 = .ok (.aload_n 0, 1) := by decide +kernel
theorem d_La_sweepDeadEnds_24 : decode prog_4_method_4_code 24 = .ok (.getfield 9, 3) := by decide +kernel
theorem d_La_sweepDeadEnds_27 : decode prog_4_method_4_code 27 = .ok (.iload_n 2, 1) := by decide +kernel
theorem d_La_sweepDeadEnds_28 : decode prog_4_method_4_code 28 = .ok (.iaload, 1) := by decide +kernel
theorem d_La_sweepDeadEnds_29 : decode prog_4_method_4_code 29 = .ok (.ishl, 1) := by decide +kernel
theorem d_La_sweepDeadEnds_30 : decode prog_4_method_4_code 30 = .ok (.ior, 1) := by decide +kernel
theorem d_La_sweepDeadEnds_31 : decode prog_4_method_4_code 31 = .ok (.istore_n 1, 1) := by decide +kernel
theorem d_La_sweepDeadEnds_32 : decode prog_4_method_4_code 32 = .ok (.iinc 2 1, 3) := by decide +kernel
theorem d_La_sweepDeadEnds_35 : decode prog_4_method_4_code 35 = .ok (.goto (-31), 3) := by decide +kernel
theorem d_La_sweepDeadEnds_38 : decode prog_4_method_4_code 38 = .ok (.iconst 0, 1) := by decide +kernel
theorem d_La_sweepDeadEnds_39 : decode prog_4_method_4_code 39 = .ok (.istore_n 2, 1) := by decide +kernel
theorem d_La_sweepDeadEnds_40 : decode prog_4_method_4_code 40 = .ok (.iload_n 2, 1) := by decide +kernel
theorem d_La_sweepDeadEnds_41 : decode prog_4_method_4_code 41 = .ok (.aload_n 0, 1) := by decide +kernel
theorem d_La_sweepDeadEnds_42 : decode prog_4_method_4_code 42 = .ok (.getfield 34, 3) := by decide +kernel
theorem d_La_sweepDeadEnds_45 : decode prog_4_method_4_code 45 = .ok (.if_icmp .ge 33, 3) := by decide +kernel
theorem d_La_sweepDeadEnds_48 : decode prog_4_method_4_code 48 = .ok (.aload_n 0, 1) := by decide +kernel
theorem d_La_sweepDeadEnds_49 : decode prog_4_method_4_code 49 = .ok (.getfield 25, 3) := by decide +kernel
theorem d_La_sweepDeadEnds_52 : decode prog_4_method_4_code 52 = .ok (.iload_n 2, 1) := by decide +kernel
theorem d_La_sweepDeadEnds_53 : decode prog_4_method_4_code 53 = .ok (.baload, 1) := by decide +kernel
theorem d_La_sweepDeadEnds_54 : decode prog_4_method_4_code 54 = .ok (.ifCond .eq 18, 3) := by decide +kernel
theorem d_La_sweepDeadEnds_57 : decode prog_4_method_4_code 57 = .ok (.iload_n 1, 1) := by decide +kernel
theorem d_La_sweepDeadEnds_58 : decode prog_4_method_4_code 58 = .ok (.iload_n 2, 1) := by decide +kernel
theorem d_La_sweepDeadEnds_59 : decode prog_4_method_4_code 59 = .ok (.iconst 3, 1) := by decide +kernel
theorem d_La_sweepDeadEnds_60 : decode prog_4_method_4_code 60 = .ok (.ishr, 1) := by decide +kernel
theorem d_La_sweepDeadEnds_61 : decode prog_4_method_4_code 61 = .ok (.invokestatic 84, 3) := by decide +kernel
theorem d_La_sweepDeadEnds_64 : decode prog_4_method_4_code 64 = .ok (.ifCond .ne 8, 3) := by decide +kernel
theorem d_La_sweepDeadEnds_67 : decode prog_4_method_4_code 67 = .ok (.aload_n 0, 1) := by decide +kernel
end
section
theorem d_La_sweepDeadEnds_68 : decode prog_4_method_4_code 68 = .ok (.iload_n 2, 1) := by decide +kernel
theorem d_La_sweepDeadEnds_69 : decode prog_4_method_4_code 69 = .ok (.invokevirtual 88, 3) := by decide +kernel
theorem d_La_sweepDeadEnds_72 : decode prog_4_method_4_code 72 = .ok (.iinc 2 1, 3) := by decide +kernel
theorem d_La_sweepDeadEnds_75 : decode prog_4_method_4_code 75 = .ok (.goto (-35), 3) := by decide +kernel
theorem d_La_sweepDeadEnds_78 : decode prog_4_method_4_code 78 = .ok (.return_, 1) := by decide +kernel
theorem d_La_sweepUnkept_0 : decode prog_4_method_5_code 0 = .ok (.iconst 0, 1) := by decide +kernel
theorem d_La_sweepUnkept_1 : decode prog_4_method_5_code 1 = .ok (.istore_n 2, 1) := by decide +kernel
theorem d_La_sweepUnkept_2 : decode prog_4_method_5_code 2 = .ok (.iload_n 2, 1) := by decide +kernel
theorem d_La_sweepUnkept_3 : decode prog_4_method_5_code 3 = .ok (.aload_n 0, 1) := by decide +kernel
theorem d_La_sweepUnkept_4 : decode prog_4_method_5_code 4 = .ok (.getfield 34, 3) := by decide +kernel
theorem d_La_sweepUnkept_7 : decode prog_4_method_5_code 7 = .ok (.if_icmp .ge 46, 3) := by decide +kernel
theorem d_La_sweepUnkept_10 : decode prog_4_method_5_code 10 = .ok (.aload_n 0, 1) := by decide +kernel
theorem d_La_sweepUnkept_11 : decode prog_4_method_5_code 11 = .ok (.getfield 25, 3) := by decide +kernel
theorem d_La_sweepUnkept_14 : decode prog_4_method_5_code 14 = .ok (.iload_n 2, 1) := by decide +kernel
theorem d_La_sweepUnkept_15 : decode prog_4_method_5_code 15 = .ok (.baload, 1) := by decide +kernel
theorem d_La_sweepUnkept_16 : decode prog_4_method_5_code 16 = .ok (.ifCond .eq 31, 3) := by decide +kernel
theorem d_La_sweepUnkept_19 : decode prog_4_method_5_code 19 = .ok (.aload_n 0, 1) := by decide +kernel
theorem d_La_sweepUnkept_20 : decode prog_4_method_5_code 20 = .ok (.getfield 18, 3) := by decide +kernel
theorem d_La_sweepUnkept_23 : decode prog_4_method_5_code 23 = .ok (.iload_n 2, 1) := by decide +kernel
theorem d_La_sweepUnkept_24 : decode prog_4_method_5_code 24 = .ok (.iaload, 1) := by decide +kernel
theorem d_La_sweepUnkept_25 : decode prog_4_method_5_code 25 = .ok (.iload_n 1, 1) := by decide +kernel
theorem d_La_sweepUnkept_26 : decode prog_4_method_5_code 26 = .ok (.invokestatic 84, 3) := by decide +kernel
theorem d_La_sweepUnkept_29 : decode prog_4_method_5_code 29 = .ok (.ifCond .eq 18, 3) := by decide +kernel
theorem d_La_sweepUnkept_32 : decode prog_4_method_5_code 32 = .ok (.aload_n 0, 1) := by decide +kernel
theorem d_La_sweepUnkept_33 : decode prog_4_method_5_code 33 = .ok (.iload_n 2, 1) := by decide +kernel
theorem d_La_sweepUnkept_34 : decode prog_4_method_5_code 34 = .ok (.iload_n 1, 1) := by decide +kernel
theorem d_La_sweepUnkept_35 : decode prog_4_method_5_code 35 = .ok (.invokevirtual 91, 3) := by decide +kernel
theorem d_La_sweepUnkept_38 : decode prog_4_method_5_code 38 = .ok (.iconst (-1), 1) := by decide +kernel
theorem d_La_sweepUnkept_39 : decode prog_4_method_5_code 39 = .ok (.if_icmp .ne 8, 3) := by decide +kernel
theorem d_La_sweepUnkept_42 : decode prog_4_method_5_code 42 = .ok (.aload_n 0, 1) := by decide +kernel
theorem d_La_sweepUnkept_43 : decode prog_4_method_5_code 43 = .ok (.iload_n 2, 1) := by decide +kernel
theorem d_La_sweepUnkept_44 : decode prog_4_method_5_code 44 = .ok (.invokevirtual 88, 3) := by decide +kernel
theorem d_La_sweepUnkept_47 : decode prog_4_method_5_code 47 = .ok (.iinc 2 1, 3) := by decide +kernel
theorem d_La_sweepUnkept_50 : decode prog_4_method_5_code 50 = .ok (.goto (-48), 3) := by decide +kernel
theorem d_La_sweepUnkept_53 : decode prog_4_method_5_code 53 = .ok (.return_, 1) := by decide +kernel
theorem d_La_takeAway_0 : decode prog_4_method_6_code 0 = .ok (.aload_n 0, 1) := by decide +kernel
theorem d_La_takeAway_1 : decode prog_4_method_6_code 1 = .ok (.getfield 25, 3) := by decide +kernel
theorem d_La_takeAway_4 : decode prog_4_method_6_code 4 = .ok (.iload_n 1, 1) := by decide +kernel
theorem d_La_takeAway_5 : decode prog_4_method_6_code 5 = .ok (.iconst 0, 1) := by decide +kernel
theorem d_La_takeAway_6 : decode prog_4_method_6_code 6 = .ok (.bastore, 1) := by decide +kernel
theorem d_La_takeAway_7 : decode prog_4_method_6_code 7 = .ok (.aload_n 0, 1) := by decide +kernel
theorem d_La_takeAway_8 : decode prog_4_method_6_code 8 = .ok (.dup, 1) := by decide +kernel
theorem d_La_takeAway_9 : decode prog_4_method_6_code 9 = .ok (.getfield 41, 3) := by decide +kernel
theorem d_La_takeAway_12 : decode prog_4_method_6_code 12 = .ok (.iconst 1, 1) := by decide +kernel
theorem d_La_takeAway_13 : decode prog_4_method_6_code 13 = .ok (.isub, 1) := by decide +kernel
theorem d_La_takeAway_14 : decode prog_4_method_6_code 14 = .ok (.putfield 41, 3) := by decide +kernel
theorem d_La_takeAway_17 : decode prog_4_method_6_code 17 = .ok (.return_, 1) := by decide +kernel
theorem d_La_countSteps_0 : decode prog_4_method_7_code 0 = .ok (.iload_n 1, 1) := by decide +kernel
theorem d_La_countSteps_1 : decode prog_4_method_7_code 1 = .ok (.sipush 256, 3) := by decide +kernel
theorem d_La_countSteps_4 : decode prog_4_method_7_code 4 = .ok (.imul, 1) := by decide +kernel
theorem d_La_countSteps_5 : decode prog_4_method_7_code 5 = .ok (.istore_n 2, 1) := by decide +kernel
theorem d_La_countSteps_6 : decode prog_4_method_7_code 6 = .ok (.iconst 0, 1) := by decide +kernel
theorem d_La_countSteps_7 : decode prog_4_method_7_code 7 = .ok (.istore_n 3, 1) := by decide +kernel
theorem d_La_countSteps_8 : decode prog_4_method_7_code 8 = .ok (.iconst 0, 1) := by decide +kernel
theorem d_La_countSteps_9 : decode prog_4_method_7_code 9 = .ok (.istore 4, 2) := by decide +kernel
theorem d_La_countSteps_11 : decode prog_4_method_7_code 11 = .ok (.iload 4, 2) := by decide +kernel
theorem d_La_countSteps_13 : decode prog_4_method_7_code 13 = .ok (.aload_n 0, 1) := by decide +kernel
theorem d_La_countSteps_14 : decode prog_4_method_7_code 14 = .ok (.getfield 34, 3) := by decide +kernel
theorem d_La_countSteps_17 : decode prog_4_method_7_code 17 = .ok (.if_icmp .ge 75, 3) := by decide +kernel
theorem d_La_countSteps_20 : decode prog_4_method_7_code 20 = .ok (.aload_n 0, 1) := by decide +kernel
theorem d_La_countSteps_21 : decode prog_4_method_7_code 21 = .ok (.getfield 25, 3) := by decide +kernel
theorem d_La_countSteps_24 : decode prog_4_method_7_code 24 = .ok (.iload 4, 2) := by decide +kernel
theorem d_La_countSteps_26 : decode prog_4_method_7_code 26 = .ok (.baload, 1) := by decide +kernel
theorem d_La_countSteps_27 : decode prog_4_method_7_code 27 = .ok (.ifCond .eq 21, 3) := by decide +kernel
theorem d_La_countSteps_30 : decode prog_4_method_7_code 30 = .ok (.aload_n 0, 1) := by decide +kernel
theorem d_La_countSteps_31 : decode prog_4_method_7_code 31 = .ok (.getfield 15, 3) := by decide +kernel
theorem d_La_countSteps_34 : decode prog_4_method_7_code 34 = .ok (.iload 4, 2) := by decide +kernel
theorem d_La_countSteps_36 : decode prog_4_method_7_code 36 = .ok (.iaload, 1) := by decide +kernel
theorem d_La_countSteps_37 : decode prog_4_method_7_code 37 = .ok (.iload_n 1, 1) := by decide +kernel
theorem d_La_countSteps_38 : decode prog_4_method_7_code 38 = .ok (.invokestatic 84, 3) := by decide +kernel
theorem d_La_countSteps_41 : decode prog_4_method_7_code 41 = .ok (.ifCond .eq 7, 3) := by decide +kernel
theorem d_La_countSteps_44 : decode prog_4_method_7_code 44 = .ok (.iconst 1, 1) := by decide +kernel
theorem d_La_countSteps_45 : decode prog_4_method_7_code 45 = .ok (.goto 4, 3) := by decide +kernel
theorem d_La_countSteps_48 : decode prog_4_method_7_code 48 = .ok (.iconst 0, 1) := by decide +kernel
theorem d_La_countSteps_49 : decode prog_4_method_7_code 49 = .ok (.istore 5, 2) := by decide +kernel
theorem d_La_countSteps_51 : decode prog_4_method_7_code 51 = .ok (.aload_n 0, 1) := by decide +kernel
theorem d_La_countSteps_52 : decode prog_4_method_7_code 52 = .ok (.getfield 28, 3) := by decide +kernel
theorem d_La_countSteps_55 : decode prog_4_method_7_code 55 = .ok (.iload_n 2, 1) := by decide +kernel
theorem d_La_countSteps_56 : decode prog_4_method_7_code 56 = .ok (.iload 4, 2) := by decide +kernel
theorem d_La_countSteps_58 : decode prog_4_method_7_code 58 = .ok (.iadd, 1) := by decide +kernel
theorem d_La_countSteps_59 : decode prog_4_method_7_code 59 = .ok (.iload 5, 2) := by decide +kernel
theorem d_La_countSteps_61 : decode prog_4_method_7_code 61 = .ok (.ifCond .eq 7, 3) := by decide +kernel
theorem d_La_countSteps_64 : decode prog_4_method_7_code 64 = .ok (.iconst 0, 1) := by decide +kernel
theorem d_La_countSteps_65 : decode prog_4_method_7_code 65 = .ok (.goto 4, 3) := by decide +kernel
theorem d_La_countSteps_68 : decode prog_4_method_7_code 68 = .ok (.iconst (-1), 1) := by decide +kernel
theorem d_La_countSteps_69 : decode prog_4_method_7_code 69 = .ok (.iastore, 1) := by decide +kernel
theorem d_La_countSteps_70 : decode prog_4_method_7_code 70 = .ok (.iload 5, 2) := by decide +kernel
theorem d_La_countSteps_72 : decode prog_4_method_7_code 72 = .ok (.ifCond .eq 14, 3) := by decide +kernel
theorem d_La_countSteps_75 : decode prog_4_method_7_code 75 = .ok (.aload_n 0, 1) := by decide +kernel
theorem d_La_countSteps_76 : decode prog_4_method_7_code 76 = .ok (.getfield 31, 3) := by decide +kernel
theorem d_La_countSteps_79 : decode prog_4_method_7_code 79 = .ok (.iload_n 3, 1) := by decide +kernel
theorem d_La_countSteps_80 : decode prog_4_method_7_code 80 = .ok (.iload 4, 2) := by decide +kernel
theorem d_La_countSteps_82 : decode prog_4_method_7_code 82 = .ok (.iastore, 1) := by decide +kernel
theorem d_La_countSteps_83 : decode prog_4_method_7_code 83 = .ok (.iinc 3 1, 3) := by decide +kernel
theorem d_La_countSteps_86 : decode prog_4_method_7_code 86 = .ok (.iinc 4 1, 3) := by decide +kernel
theorem d_La_countSteps_89 : decode prog_4_method_7_code 89 = .ok (.goto (-78), 3) := by decide +kernel
theorem d_La_countSteps_92 : decode prog_4_method_7_code 92 = .ok (.iconst 0, 1) := by decide +kernel
theorem d_La_countSteps_93 : decode prog_4_method_7_code 93 = .ok (.istore 4, 2) := by decide +kernel
theorem d_La_countSteps_95 : decode prog_4_method_7_code 95 = .ok (.iload 4, 2) := by decide +kernel
theorem d_La_countSteps_97 : decode prog_4_method_7_code 97 = .ok (.iload_n 3, 1) := by decide +kernel
theorem d_La_countSteps_98 : decode prog_4_method_7_code 98 = .ok (.if_icmp .ge 32, 3) := by decide +kernel
theorem d_La_countSteps_101 : decode prog_4_method_7_code 101 = .ok (.iload 4, 2) := by decide +kernel
theorem d_La_countSteps_103 : decode prog_4_method_7_code 103 = .ok (.aload_n 0, 1) := by decide +kernel
theorem d_La_countSteps_104 : decode prog_4_method_7_code 104 = .ok (.getfield 34, 3) := by decide +kernel
theorem d_La_countSteps_107 : decode prog_4_method_7_code 107 = .ok (.if_icmp .ge 23, 3) := by decide +kernel
theorem d_La_countSteps_110 : decode prog_4_method_7_code 110 = .ok (.aload_n 0, 1) := by decide +kernel
theorem d_La_countSteps_111 : decode prog_4_method_7_code 111 = .ok (.aload_n 0, 1) := by decide +kernel
theorem d_La_countSteps_112 : decode prog_4_method_7_code 112 = .ok (.getfield 31, 3) := by decide +kernel
theorem d_La_countSteps_115 : decode prog_4_method_7_code 115 = .ok (.iload 4, 2) := by decide +kernel
theorem d_La_countSteps_117 : decode prog_4_method_7_code 117 = .ok (.iaload, 1) := by decide +kernel
theorem d_La_countSteps_118 : decode prog_4_method_7_code 118 = .ok (.iload_n 2, 1) := by decide +kernel
theorem d_La_countSteps_119 : decode prog_4_method_7_code 119 = .ok (.iload_n 3, 1) := by decide +kernel
theorem d_La_countSteps_120 : decode prog_4_method_7_code 120 = .ok (.invokevirtual 95, 3) := by decide +kernel
theorem d_La_countSteps_123 : decode prog_4_method_7_code 123 = .ok (.istore_n 3, 1) := by decide +kernel
theorem d_La_countSteps_124 : decode prog_4_method_7_code 124 = .ok (.iinc 4 1, 3) := by decide +kernel
theorem d_La_countSteps_127 : decode prog_4_method_7_code 127 = .ok (.goto (-32), 3) := by decide +kernel
theorem d_La_countSteps_130 : decode prog_4_method_7_code 130 = .ok (.return_, 1) := by decide +kernel
theorem d_La_reachBefore_0 : decode prog_4_method_8_code 0 = .ok (.iload_n 3, 1) := by decide +kernel
theorem d_La_reachBefore_1 : decode prog_4_method_8_code 1 = .ok (.istore 4, 2) := by decide +kernel
theorem d_La_reachBefore_3 : decode prog_4_method_8_code 3 = .ok (.aload_n 0, 1) := by decide +kernel
theorem d_La_reachBefore_4 : decode prog_4_method_8_code 4 = .ok (.getfield 9, 3) := by decide +kernel
theorem d_La_reachBefore_7 : decode prog_4_method_8_code 7 = .ok (.iload_n 1, 1) := by decide +kernel
theorem d_La_reachBefore_8 : decode prog_4_method_8_code 8 = .ok (.iaload, 1) := by decide +kernel
theorem d_La_reachBefore_9 : decode prog_4_method_8_code 9 = .ok (.iconst 3, 1) := by decide +kernel
theorem d_La_reachBefore_10 : decode prog_4_method_8_code 10 = .ok (.ishl, 1) := by decide +kernel
theorem d_La_reachBefore_11 : decode prog_4_method_8_code 11 = .ok (.istore 5, 2) := by decide +kernel
theorem d_La_reachBefore_13 : decode prog_4_method_8_code 13 = .ok (.iload 5, 2) := by decide +kernel
theorem d_La_reachBefore_15 : decode prog_4_method_8_code 15 = .ok (.istore 6, 2) := by decide +kernel
theorem d_La_reachBefore_17 : decode prog_4_method_8_code 17 = .ok (.iload 6, 2) := by decide +kernel
theorem d_La_reachBefore_19 : decode prog_4_method_8_code 19 = .ok (.iload 5, 2) := by decide +kernel
theorem d_La_reachBefore_21 : decode prog_4_method_8_code 21 = .ok (.bipush 8, 2) := by decide +kernel
theorem d_La_reachBefore_23 : decode prog_4_method_8_code 23 = .ok (.iadd, 1) := by decide +kernel
theorem d_La_reachBefore_24 : decode prog_4_method_8_code 24 = .ok (.if_icmp .ge 63, 3) := by decide +kernel
theorem d_La_reachBefore_27 : decode prog_4_method_8_code 27 = .ok (.aload_n 0, 1) := by decide +kernel
theorem d_La_reachBefore_28 : decode prog_4_method_8_code 28 = .ok (.getfield 25, 3) := by decide +kernel
theorem d_La_reachBefore_31 : decode prog_4_method_8_code 31 = .ok (.iload 6, 2) := by decide +kernel
theorem d_La_reachBefore_33 : decode prog_4_method_8_code 33 = .ok (.baload, 1) := by decide +kernel
theorem d_La_reachBefore_34 : decode prog_4_method_8_code 34 = .ok (.ifCond .eq 47, 3) := by decide +kernel
theorem d_La_reachBefore_37 : decode prog_4_method_8_code 37 = .ok (.aload_n 0, 1) := by decide +kernel
theorem d_La_reachBefore_38 : decode prog_4_method_8_code 38 = .ok (.getfield 28, 3) := by decide +kernel
theorem d_La_reachBefore_41 : decode prog_4_method_8_code 41 = .ok (.iload_n 2, 1) := by decide +kernel
theorem d_La_reachBefore_42 : decode prog_4_method_8_code 42 = .ok (.iload 6, 2) := by decide +kernel
theorem d_La_reachBefore_44 : decode prog_4_method_8_code 44 = .ok (.iadd, 1) := by decide +kernel
theorem d_La_reachBefore_45 : decode prog_4_method_8_code 45 = .ok (.iaload, 1) := by decide +kernel
theorem d_La_reachBefore_46 : decode prog_4_method_8_code 46 = .ok (.iconst (-1), 1) := by decide +kernel
theorem d_La_reachBefore_47 : decode prog_4_method_8_code 47 = .ok (.if_icmp .ne 34, 3) := by decide +kernel
theorem d_La_reachBefore_50 : decode prog_4_method_8_code 50 = .ok (.aload_n 0, 1) := by decide +kernel
theorem d_La_reachBefore_51 : decode prog_4_method_8_code 51 = .ok (.getfield 28, 3) := by decide +kernel
theorem d_La_reachBefore_54 : decode prog_4_method_8_code 54 = .ok (.iload_n 2, 1) := by decide +kernel
theorem d_La_reachBefore_55 : decode prog_4_method_8_code 55 = .ok (.iload 6, 2) := by decide +kernel
theorem d_La_reachBefore_57 : decode prog_4_method_8_code 57 = .ok (.iadd, 1) := by decide +kernel
theorem d_La_reachBefore_58 : decode prog_4_method_8_code 58 = .ok (.aload_n 0, 1) := by decide +kernel
theorem d_La_reachBefore_59 : decode prog_4_method_8_code 59 = .ok (.getfield 28, 3) := by decide +kernel
theorem d_La_reachBefore_62 : decode prog_4_method_8_code 62 = .ok (.iload_n 2, 1) := by decide +kernel
theorem d_La_reachBefore_63 : decode prog_4_method_8_code 63 = .ok (.iload_n 1, 1) := by decide +kernel
theorem d_La_reachBefore_64 : decode prog_4_method_8_code 64 = .ok (.iadd, 1) := by decide +kernel
theorem d_La_reachBefore_65 : decode prog_4_method_8_code 65 = .ok (.iaload, 1) := by decide +kernel
theorem d_La_reachBefore_66 : decode prog_4_method_8_code 66 = .ok (.iconst 1, 1) := by decide +kernel
theorem d_La_reachBefore_67 : decode prog_4_method_8_code 67 = .ok (.iadd, 1) := by decide +kernel
theorem d_La_reachBefore_68 : decode prog_4_method_8_code 68 = .ok (.iastore, 1) := by decide +kernel
theorem d_La_reachBefore_69 : decode prog_4_method_8_code 69 = .ok (.aload_n 0, 1) := by decide +kernel
theorem d_La_reachBefore_70 : decode prog_4_method_8_code 70 = .ok (.getfield 31, 3) := by decide +kernel
theorem d_La_reachBefore_73 : decode prog_4_method_8_code 73 = .ok (.iload 4, 2) := by decide +kernel
theorem d_La_reachBefore_75 : decode prog_4_method_8_code 75 = .ok (.iload 6, 2) := by decide +kernel
theorem d_La_reachBefore_77 : decode prog_4_method_8_code 77 = .ok (.iastore, 1) := by decide +kernel
theorem d_La_reachBefore_78 : decode prog_4_method_8_code 78 = .ok (.iinc 4 1, 3) := by decide +kernel
theorem d_La_reachBefore_81 : decode prog_4_method_8_code 81 = .ok (.iinc 6 1, 3) := by decide +kernel
theorem d_La_reachBefore_84 : decode prog_4_method_8_code 84 = .ok (.goto (-67), 3) := by decide +kernel
theorem d_La_reachBefore_87 : decode prog_4_method_8_code 87 = .ok (.iload 4, 2) := by decide +kernel
theorem d_La_reachBefore_89 : decode prog_4_method_8_code 89 = .ok (.ireturn, 1) := by decide +kernel
theorem d_La_stepsFrom_0 : decode prog_4_method_9_code 0 = .ok (.aload_n 0, 1) := by decide +kernel
theorem d_La_stepsFrom_1 : decode prog_4_method_9_code 1 = .ok (.getfield 28, 3) := by decide +kernel
theorem d_La_stepsFrom_4 : decode prog_4_method_9_code 4 = .ok (.iload_n 2, 1) := by decide +kernel
theorem d_La_stepsFrom_5 : decode prog_4_method_9_code 5 = .ok (.sipush 256, 3) := by decide +kernel
theorem d_La_stepsFrom_8 : decode prog_4_method_9_code 8 = .ok (.imul, 1) := by decide +kernel
theorem d_La_stepsFrom_9 : decode prog_4_method_9_code 9 = .ok (.iload_n 1, 1) := by decide +kernel
theorem d_La_stepsFrom_10 : decode prog_4_method_9_code 10 = .ok (.iadd, 1) := by decide +kernel
theorem d_La_stepsFrom_11 : decode prog_4_method_9_code 11 = .ok (.iaload, 1) := by decide +kernel
theorem d_La_stepsFrom_12 : decode prog_4_method_9_code 12 = .ok (.ireturn, 1) := by decide +kernel
theorem d_La_has_0 : decode prog_4_method_10_code 0 = .ok (.aload_n 0, 1) := by decide +kernel
theorem d_La_has_1 : decode prog_4_method_10_code 1 = .ok (.getfield 25, 3) := by decide +kernel
theorem d_La_has_4 : decode prog_4_method_10_code 4 = .ok (.iload_n 1, 1) := by decide +kernel
theorem d_La_has_5 : decode prog_4_method_10_code 5 = .ok (.baload, 1) := by decide +kernel
theorem d_La_has_6 : decode prog_4_method_10_code 6 = .ok (.ireturn, 1) := by decide +kernel
theorem d_La_size_0 : decode prog_4_method_11_code 0 = .ok (.aload_n 0, 1) := by decide +kernel
theorem d_La_size_1 : decode prog_4_method_11_code 1 = .ok (.getfield 41, 3) := by decide +kernel
theorem d_La_size_4 : decode prog_4_method_11_code 4 = .ok (.ireturn, 1) := by decide +kernel
theorem d_La_leastWhole_0 : decode prog_4_method_12_code 0 = .ok (.iconst 0, 1) := by decide +kernel
theorem d_La_leastWhole_1 : decode prog_4_method_12_code 1 = .ok (.istore_n 1, 1) := by decide +kernel
theorem d_La_leastWhole_2 : decode prog_4_method_12_code 2 = .ok (.iload_n 1, 1) := by decide +kernel
theorem d_La_leastWhole_3 : decode prog_4_method_12_code 3 = .ok (.aload_n 0, 1) := by decide +kernel
theorem d_La_leastWhole_4 : decode prog_4_method_12_code 4 = .ok (.getfield 34, 3) := by decide +kernel
theorem d_La_leastWhole_7 : decode prog_4_method_12_code 7 = .ok (.if_icmp .ge 29, 3) := by decide +kernel
theorem d_La_leastWhole_10 : decode prog_4_method_12_code 10 = .ok (.aload_n 0, 1) := by decide +kernel
theorem d_La_leastWhole_11 : decode prog_4_method_12_code 11 = .ok (.getfield 25, 3) := by decide +kernel
theorem d_La_leastWhole_14 : decode prog_4_method_12_code 14 = .ok (.iload_n 1, 1) := by decide +kernel
theorem d_La_leastWhole_15 : decode prog_4_method_12_code 15 = .ok (.baload, 1) := by decide +kernel
theorem d_La_leastWhole_16 : decode prog_4_method_12_code 16 = .ok (.ifCond .eq 14, 3) := by decide +kernel
theorem d_La_leastWhole_19 : decode prog_4_method_12_code 19 = .ok (.aload_n 0, 1) := by decide +kernel
theorem d_La_leastWhole_20 : decode prog_4_method_12_code 20 = .ok (.getfield 21, 3) := by decide +kernel
theorem d_La_leastWhole_23 : decode prog_4_method_12_code 23 = .ok (.iload_n 1, 1) := by decide +kernel
theorem d_La_leastWhole_24 : decode prog_4_method_12_code 24 = .ok (.baload, 1) := by decide +kernel
theorem d_La_leastWhole_25 : decode prog_4_method_12_code 25 = .ok (.ifCond .eq 5, 3) := by decide +kernel
theorem d_La_leastWhole_28 : decode prog_4_method_12_code 28 = .ok (.iload_n 1, 1) := by decide +kernel
theorem d_La_leastWhole_29 : decode prog_4_method_12_code 29 = .ok (.ireturn, 1) := by decide +kernel
theorem d_La_leastWhole_30 : decode prog_4_method_12_code 30 = .ok (.iinc 1 1, 3) := by decide +kernel
theorem d_La_leastWhole_33 : decode prog_4_method_12_code 33 = .ok (.goto (-31), 3) := by decide +kernel
theorem d_La_leastWhole_36 : decode prog_4_method_12_code 36 = .ok (.iconst (-1), 1) := by decide +kernel
theorem d_La_leastWhole_37 : decode prog_4_method_12_code 37 = .ok (.ireturn, 1) := by decide +kernel
theorem d_La_dutyFrom_0 : decode prog_4_method_13_code 0 = .ok (.iload_n 2, 1) := by decide +kernel
theorem d_La_dutyFrom_1 : decode prog_4_method_13_code 1 = .ok (.istore_n 3, 1) := by decide +kernel
theorem d_La_dutyFrom_2 : decode prog_4_method_13_code 2 = .ok (.iconst 0, 1) := by decide +kernel
theorem d_La_dutyFrom_3 : decode prog_4_method_13_code 3 = .ok (.istore 4, 2) := by decide +kernel
theorem d_La_dutyFrom_5 : decode prog_4_method_13_code 5 = .ok (.iload 4, 2) := by decide +kernel
theorem d_La_dutyFrom_7 : decode prog_4_method_13_code 7 = .ok (.aload_n 0, 1) := by decide +kernel
theorem d_La_dutyFrom_8 : decode prog_4_method_13_code 8 = .ok (.getfield 38, 3) := by decide +kernel
theorem d_La_dutyFrom_11 : decode prog_4_method_13_code 11 = .ok (.if_icmp .ge 42, 3) := by decide +kernel
theorem d_La_dutyFrom_14 : decode prog_4_method_13_code 14 = .ok (.aload_n 0, 1) := by decide +kernel
theorem d_La_dutyFrom_15 : decode prog_4_method_13_code 15 = .ok (.getfield 18, 3) := by decide +kernel
theorem d_La_dutyFrom_18 : decode prog_4_method_13_code 18 = .ok (.iload_n 1, 1) := by decide +kernel
theorem d_La_dutyFrom_19 : decode prog_4_method_13_code 19 = .ok (.iaload, 1) := by decide +kernel
theorem d_La_dutyFrom_20 : decode prog_4_method_13_code 20 = .ok (.iload_n 3, 1) := by decide +kernel
theorem d_La_dutyFrom_21 : decode prog_4_method_13_code 21 = .ok (.invokestatic 84, 3) := by decide +kernel
theorem d_La_dutyFrom_24 : decode prog_4_method_13_code 24 = .ok (.ifCond .eq 5, 3) := by decide +kernel
theorem d_La_dutyFrom_27 : decode prog_4_method_13_code 27 = .ok (.iload_n 3, 1) := by decide +kernel
theorem d_La_dutyFrom_28 : decode prog_4_method_13_code 28 = .ok (.ireturn, 1) := by decide +kernel
theorem d_La_dutyFrom_29 : decode prog_4_method_13_code 29 = .ok (.iload_n 3, 1) := by decide +kernel
theorem d_La_dutyFrom_30 : decode prog_4_method_13_code 30 = .ok (.iconst 1, 1) := by decide +kernel
theorem d_La_dutyFrom_31 : decode prog_4_method_13_code 31 = .ok (.iadd, 1) := by decide +kernel
theorem d_La_dutyFrom_32 : decode prog_4_method_13_code 32 = .ok (.aload_n 0, 1) := by decide +kernel
theorem d_La_dutyFrom_33 : decode prog_4_method_13_code 33 = .ok (.getfield 38, 3) := by decide +kernel
theorem d_La_dutyFrom_36 : decode prog_4_method_13_code 36 = .ok (.if_icmp .ge 9, 3) := by decide +kernel
theorem d_La_dutyFrom_39 : decode prog_4_method_13_code 39 = .ok (.iload_n 3, 1) := by decide +kernel
theorem d_La_dutyFrom_40 : decode prog_4_method_13_code 40 = .ok (.iconst 1, 1) := by decide +kernel
theorem d_La_dutyFrom_41 : decode prog_4_method_13_code 41 = .ok (.iadd, 1) := by decide +kernel
theorem d_La_dutyFrom_42 : decode prog_4_method_13_code 42 = .ok (.goto 4, 3) := by decide +kernel
theorem d_La_dutyFrom_45 : decode prog_4_method_13_code 45 = .ok (.iconst 0, 1) := by decide +kernel
theorem d_La_dutyFrom_46 : decode prog_4_method_13_code 46 = .ok (.istore_n 3, 1) := by decide +kernel
theorem d_La_dutyFrom_47 : decode prog_4_method_13_code 47 = .ok (.iinc 4 1, 3) := by decide +kernel
theorem d_La_dutyFrom_50 : decode prog_4_method_13_code 50 = .ok (.goto (-45), 3) := by decide +kernel
theorem d_La_dutyFrom_53 : decode prog_4_method_13_code 53 = .ok (.iload_n 2, 1) := by decide +kernel
theorem d_La_dutyFrom_54 : decode prog_4_method_13_code 54 = .ok (.ireturn, 1) := by decide +kernel
theorem d_La_nextFrom_0 : decode prog_4_method_14_code 0 = .ok (.aload_n 0, 1) := by decide +kernel
theorem d_La_nextFrom_1 : decode prog_4_method_14_code 1 = .ok (.getfield 18, 3) := by decide +kernel
theorem d_La_nextFrom_4 : decode prog_4_method_14_code 4 = .ok (.iload_n 1, 1) := by decide +kernel
theorem d_La_nextFrom_5 : decode prog_4_method_14_code 5 = .ok (.iaload, 1) := by decide +kernel
theorem d_La_nextFrom_6 : decode prog_4_method_14_code 6 = .ok (.iload_n 2, 1) := by decide +kernel
theorem d_La_nextFrom_7 : decode prog_4_method_14_code 7 = .ok (.invokestatic 84, 3) := by decide +kernel
theorem d_La_nextFrom_10 : decode prog_4_method_14_code 10 = .ok (.istore_n 3, 1) := by decide +kernel
theorem d_La_nextFrom_11 : decode prog_4_method_14_code 11 = .ok (.iconst (-1), 1) := by decide +kernel
theorem d_La_nextFrom_12 : decode prog_4_method_14_code 12 = .ok (.istore 4, 2) := by decide +kernel
theorem d_La_nextFrom_14 : decode prog_4_method_14_code 14 = .ok (.iconst 0, 1) := by decide +kernel
theorem d_La_nextFrom_15 : decode prog_4_method_14_code 15 = .ok (.istore 5, 2) := by decide +kernel
theorem d_La_nextFrom_17 : decode prog_4_method_14_code 17 = .ok (.iload 5, 2) := by decide +kernel
theorem d_La_nextFrom_19 : decode prog_4_method_14_code 19 = .ok (.aload_n 0, 1) := by decide +kernel
theorem d_La_nextFrom_20 : decode prog_4_method_14_code 20 = .ok (.getfield 34, 3) := by decide +kernel
theorem d_La_nextFrom_23 : decode prog_4_method_14_code 23 = .ok (.if_icmp .ge 70, 3) := by decide +kernel
theorem d_La_nextFrom_26 : decode prog_4_method_14_code 26 = .ok (.aload_n 0, 1) := by decide +kernel
theorem d_La_nextFrom_27 : decode prog_4_method_14_code 27 = .ok (.getfield 25, 3) := by decide +kernel
theorem d_La_nextFrom_30 : decode prog_4_method_14_code 30 = .ok (.iload 5, 2) := by decide +kernel
theorem d_La_nextFrom_32 : decode prog_4_method_14_code 32 = .ok (.baload, 1) := by decide +kernel
theorem d_La_nextFrom_33 : decode prog_4_method_14_code 33 = .ok (.ifCond .eq 20, 3) := by decide +kernel
theorem d_La_nextFrom_36 : decode prog_4_method_14_code 36 = .ok (.aload_n 0, 1) := by decide +kernel
theorem d_La_nextFrom_37 : decode prog_4_method_14_code 37 = .ok (.getfield 9, 3) := by decide +kernel
theorem d_La_nextFrom_40 : decode prog_4_method_14_code 40 = .ok (.iload 5, 2) := by decide +kernel
theorem d_La_nextFrom_42 : decode prog_4_method_14_code 42 = .ok (.iaload, 1) := by decide +kernel
theorem d_La_nextFrom_43 : decode prog_4_method_14_code 43 = .ok (.iload_n 1, 1) := by decide +kernel
theorem d_La_nextFrom_44 : decode prog_4_method_14_code 44 = .ok (.iconst 3, 1) := by decide +kernel
theorem d_La_nextFrom_45 : decode prog_4_method_14_code 45 = .ok (.ishr, 1) := by decide +kernel
theorem d_La_nextFrom_46 : decode prog_4_method_14_code 46 = .ok (.if_icmp .ne 7, 3) := by decide +kernel
theorem d_La_nextFrom_49 : decode prog_4_method_14_code 49 = .ok (.iconst 1, 1) := by decide +kernel
theorem d_La_nextFrom_50 : decode prog_4_method_14_code 50 = .ok (.goto 4, 3) := by decide +kernel
theorem d_La_nextFrom_53 : decode prog_4_method_14_code 53 = .ok (.iconst 0, 1) := by decide +kernel
theorem d_La_nextFrom_54 : decode prog_4_method_14_code 54 = .ok (.istore 6, 2) := by decide +kernel
theorem d_La_nextFrom_56 : decode prog_4_method_14_code 56 = .ok (.iload 6, 2) := by decide +kernel
theorem d_La_nextFrom_58 : decode prog_4_method_14_code 58 = .ok (.ifCond .eq 29, 3) := by decide +kernel
theorem d_La_nextFrom_61 : decode prog_4_method_14_code 61 = .ok (.iload 4, 2) := by decide +kernel
theorem d_La_nextFrom_63 : decode prog_4_method_14_code 63 = .ok (.iconst (-1), 1) := by decide +kernel
theorem d_La_nextFrom_64 : decode prog_4_method_14_code 64 = .ok (.if_icmp .eq 19, 3) := by decide +kernel
theorem d_La_nextFrom_67 : decode prog_4_method_14_code 67 = .ok (.iload_n 3, 1) := by decide +kernel
theorem d_La_nextFrom_68 : decode prog_4_method_14_code 68 = .ok (.ifCond .eq 19, 3) := by decide +kernel
theorem d_La_nextFrom_71 : decode prog_4_method_14_code 71 = .ok (.aload_n 0, 1) := by decide +kernel
theorem d_La_nextFrom_72 : decode prog_4_method_14_code 72 = .ok (.iload 5, 2) := by decide +kernel
theorem d_La_nextFrom_74 : decode prog_4_method_14_code 74 = .ok (.iload 4, 2) := by decide +kernel
theorem d_La_nextFrom_76 : decode prog_4_method_14_code 76 = .ok (.iload_n 2, 1) := by decide +kernel
theorem d_La_nextFrom_77 : decode prog_4_method_14_code 77 = .ok (.invokevirtual 99, 3) := by decide +kernel
theorem d_La_nextFrom_80 : decode prog_4_method_14_code 80 = .ok (.ifCond .eq 7, 3) := by decide +kernel
theorem d_La_nextFrom_83 : decode prog_4_method_14_code 83 = .ok (.iload 5, 2) := by decide +kernel
theorem d_La_nextFrom_85 : decode prog_4_method_14_code 85 = .ok (.istore 4, 2) := by decide +kernel
theorem d_La_nextFrom_87 : decode prog_4_method_14_code 87 = .ok (.iinc 5 1, 3) := by decide +kernel
theorem d_La_nextFrom_90 : decode prog_4_method_14_code 90 = .ok (.goto (-73), 3) := by decide +kernel
theorem d_La_nextFrom_93 : decode prog_4_method_14_code 93 = .ok (.iload 4, 2) := by decide +kernel
theorem d_La_nextFrom_95 : decode prog_4_method_14_code 95 = .ok (.ireturn, 1) := by decide +kernel
theorem d_La_isNearer_0 : decode prog_4_method_15_code 0 = .ok (.aload_n 0, 1) := by decide +kernel
theorem d_La_isNearer_1 : decode prog_4_method_15_code 1 = .ok (.iload_n 2, 1) := by decide +kernel
theorem d_La_isNearer_2 : decode prog_4_method_15_code 2 = .ok (.iload_n 3, 1) := by decide +kernel
theorem d_La_isNearer_3 : decode prog_4_method_15_code 3 = .ok (.invokevirtual 91, 3) := by decide +kernel
theorem d_La_isNearer_6 : decode prog_4_method_15_code 6 = .ok (.istore 4, 2) := by decide +kernel
theorem d_La_isNearer_8 : decode prog_4_method_15_code 8 = .ok (.aload_n 0, 1) := by decide +kernel
theorem d_La_isNearer_9 : decode prog_4_method_15_code 9 = .ok (.iload_n 1, 1) := by decide +kernel
theorem d_La_isNearer_10 : decode prog_4_method_15_code 10 = .ok (.iload_n 3, 1) := by decide +kernel
theorem d_La_isNearer_11 : decode prog_4_method_15_code 11 = .ok (.invokevirtual 91, 3) := by decide +kernel
theorem d_La_isNearer_14 : decode prog_4_method_15_code 14 = .ok (.istore 5, 2) := by decide +kernel
theorem d_La_isNearer_16 : decode prog_4_method_15_code 16 = .ok (.iload 5, 2) := by decide +kernel
theorem d_La_isNearer_18 : decode prog_4_method_15_code 18 = .ok (.iconst (-1), 1) := by decide +kernel
theorem d_La_isNearer_19 : decode prog_4_method_15_code 19 = .ok (.if_icmp .eq 20, 3) := by decide +kernel
theorem d_La_isNearer_22 : decode prog_4_method_15_code 22 = .ok (.iload 4, 2) := by decide +kernel
theorem d_La_isNearer_24 : decode prog_4_method_15_code 24 = .ok (.iconst (-1), 1) := by decide +kernel
theorem d_La_isNearer_25 : decode prog_4_method_15_code 25 = .ok (.if_icmp .eq 10, 3) := by decide +kernel
theorem d_La_isNearer_28 : decode prog_4_method_15_code 28 = .ok (.iload 5, 2) := by decide +kernel
theorem d_La_isNearer_30 : decode prog_4_method_15_code 30 = .ok (.iload 4, 2) := by decide +kernel
theorem d_La_isNearer_32 : decode prog_4_method_15_code 32 = .ok (.if_icmp .ge 7, 3) := by decide +kernel
theorem d_La_isNearer_35 : decode prog_4_method_15_code 35 = .ok (.iconst 1, 1) := by decide +kernel
theorem d_La_isNearer_36 : decode prog_4_method_15_code 36 = .ok (.goto 4, 3) := by decide +kernel
theorem d_La_isNearer_39 : decode prog_4_method_15_code 39 = .ok (.iconst 0, 1) := by decide +kernel
theorem d_La_isNearer_40 : decode prog_4_method_15_code 40 = .ok (.ireturn, 1) := by decide +kernel
theorem d_Li_countTyped_0 : decode prog_5_method_2_code 0 = .ok (.iconst 0, 1) := by decide +kernel
theorem d_Li_countTyped_1 : decode prog_5_method_2_code 1 = .ok (.istore_n 1, 1) := by decide +kernel
theorem d_Li_countTyped_2 : decode prog_5_method_2_code 2 = .ok (.iload_n 1, 1) := by decide +kernel
theorem d_Li_countTyped_3 : decode prog_5_method_2_code 3 = .ok (.iconst 4, 1) := by decide +kernel
theorem d_Li_countTyped_4 : decode prog_5_method_2_code 4 = .ok (.if_icmp .ge 17, 3) := by decide +kernel
theorem d_Li_countTyped_7 : decode prog_5_method_2_code 7 = .ok (.iload_n 0, 1) := by decide +kernel
theorem d_Li_countTyped_8 : decode prog_5_method_2_code 8 = .ok (.iload_n 1, 1) := by decide +kernel
theorem d_Li_countTyped_9 : decode prog_5_method_2_code 9 = .ok (.invokestatic 22, 3) := by decide +kernel
theorem d_Li_countTyped_12 : decode prog_5_method_2_code 12 = .ok (.ifCond .eq 9, 3) := by decide +kernel
theorem d_Li_countTyped_15 : decode prog_5_method_2_code 15 = .ok (.iinc 1 1, 3) := by decide +kernel
theorem d_Li_countTyped_18 : decode prog_5_method_2_code 18 = .ok (.goto (-16), 3) := by decide +kernel
theorem d_Li_countTyped_21 : decode prog_5_method_2_code 21 = .ok (.iload_n 1, 1) := by decide +kernel
theorem d_Li_countTyped_22 : decode prog_5_method_2_code 22 = .ok (.ireturn, 1) := by decide +kernel
theorem d_Li_areVisible_0 : decode prog_5_method_3_code 0 = .ok (.iconst 0, 1) := by decide +kernel
theorem d_Li_areVisible_1 : decode prog_5_method_3_code 1 = .ok (.istore_n 2, 1) := by decide +kernel
theorem d_Li_areVisible_2 : decode prog_5_method_3_code 2 = .ok (.iload_n 2, 1) := by decide +kernel
theorem d_Li_areVisible_3 : decode prog_5_method_3_code 3 = .ok (.iload_n 1, 1) := by decide +kernel
theorem d_Li_areVisible_4 : decode prog_5_method_3_code 4 = .ok (.if_icmp .ge 29, 3) := by decide +kernel
theorem d_Li_areVisible_7 : decode prog_5_method_3_code 7 = .ok (.iload_n 0, 1) := by decide +kernel
theorem d_Li_areVisible_8 : decode prog_5_method_3_code 8 = .ok (.iload_n 2, 1) := by decide +kernel
theorem d_Li_areVisible_9 : decode prog_5_method_3_code 9 = .ok (.invokestatic 22, 3) := by decide +kernel
theorem d_Li_areVisible_12 : decode prog_5_method_3_code 12 = .ok (.istore_n 3, 1) := by decide +kernel
theorem d_Li_areVisible_13 : decode prog_5_method_3_code 13 = .ok (.iload_n 3, 1) := by decide +kernel
theorem d_Li_areVisible_14 : decode prog_5_method_3_code 14 = .ok (.bipush 33, 2) := by decide +kernel
theorem d_Li_areVisible_16 : decode prog_5_method_3_code 16 = .ok (.if_icmp .lt 9, 3) := by decide +kernel
theorem d_Li_areVisible_19 : decode prog_5_method_3_code 19 = .ok (.iload_n 3, 1) := by decide +kernel
theorem d_Li_areVisible_20 : decode prog_5_method_3_code 20 = .ok (.bipush 126, 2) := by decide +kernel
theorem d_Li_areVisible_22 : decode prog_5_method_3_code 22 = .ok (.if_icmp .le 5, 3) := by decide +kernel
theorem d_Li_areVisible_25 : decode prog_5_method_3_code 25 = .ok (.iconst 0, 1) := by decide +kernel
theorem d_Li_areVisible_26 : decode prog_5_method_3_code 26 = .ok (.ireturn, 1) := by decide +kernel
theorem d_Li_areVisible_27 : decode prog_5_method_3_code 27 = .ok (.iinc 2 1, 3) := by decide +kernel
theorem d_Li_areVisible_30 : decode prog_5_method_3_code 30 = .ok (.goto (-28), 3) := by decide +kernel
theorem d_Li_areVisible_33 : decode prog_5_method_3_code 33 = .ok (.iconst 1, 1) := by decide +kernel
theorem d_Li_areVisible_34 : decode prog_5_method_3_code 34 = .ok (.ireturn, 1) := by decide +kernel
theorem d_Li_byteOf_0 : decode prog_5_method_4_code 0 = .ok (.iload_n 0, 1) := by decide +kernel
theorem d_Li_byteOf_1 : decode prog_5_method_4_code 1 = .ok (.bipush 8, 2) := by decide +kernel
theorem d_Li_byteOf_3 : decode prog_5_method_4_code 3 = .ok (.iload_n 1, 1) := by decide +kernel
theorem d_Li_byteOf_4 : decode prog_5_method_4_code 4 = .ok (.imul, 1) := by decide +kernel
theorem d_Li_byteOf_5 : decode prog_5_method_4_code 5 = .ok (.iushr, 1) := by decide +kernel
theorem d_Li_byteOf_6 : decode prog_5_method_4_code 6 = .ok (.sipush 255, 3) := by decide +kernel
theorem d_Li_byteOf_9 : decode prog_5_method_4_code 9 = .ok (.iand, 1) := by decide +kernel
theorem d_Li_byteOf_10 : decode prog_5_method_4_code 10 = .ok (.ireturn, 1) := by decide +kernel
theorem d_Li_append_0 : decode prog_5_method_5_code 0 = .ok (.aload_n 0, 1) := by decide +kernel
theorem d_Li_append_1 : decode prog_5_method_5_code 1 = .ok (.getfield 15, 3) := by decide +kernel
theorem d_Li_append_4 : decode prog_5_method_5_code 4 = .ok (.iload_n 2, 1) := by decide +kernel
theorem d_Li_append_5 : decode prog_5_method_5_code 5 = .ok (.iadd, 1) := by decide +kernel
theorem d_Li_append_6 : decode prog_5_method_5_code 6 = .ok (.bipush 18, 2) := by decide +kernel
theorem d_Li_append_8 : decode prog_5_method_5_code 8 = .ok (.if_icmp .le 5, 3) := by decide +kernel
theorem d_Li_append_11 : decode prog_5_method_5_code 11 = .ok (.iconst 0, 1) := by decide +kernel
theorem d_Li_append_12 : decode prog_5_method_5_code 12 = .ok (.ireturn, 1) := by decide +kernel
theorem d_Li_append_13 : decode prog_5_method_5_code 13 = .ok (.iconst 0, 1) := by decide +kernel
theorem d_Li_append_14 : decode prog_5_method_5_code 14 = .ok (.istore_n 3, 1) := by decide +kernel
theorem d_Li_append_15 : decode prog_5_method_5_code 15 = .ok (.iload_n 3, 1) := by decide +kernel
theorem d_Li_append_16 : decode prog_5_method_5_code 16 = .ok (.iload_n 2, 1) := by decide +kernel
theorem d_Li_append_17 : decode prog_5_method_5_code 17 = .ok (.if_icmp .ge 26, 3) := by decide +kernel
theorem d_Li_append_20 : decode prog_5_method_5_code 20 = .ok (.aload_n 0, 1) := by decide +kernel
theorem d_Li_append_21 : decode prog_5_method_5_code 21 = .ok (.getfield 9, 3) := by decide +kernel
theorem d_Li_append_24 : decode prog_5_method_5_code 24 = .ok (.aload_n 0, 1) := by decide +kernel
theorem d_Li_append_25 : decode prog_5_method_5_code 25 = .ok (.getfield 15, 3) := by decide +kernel
theorem d_Li_append_28 : decode prog_5_method_5_code 28 = .ok (.iload_n 3, 1) := by decide +kernel
theorem d_Li_append_29 : decode prog_5_method_5_code 29 = .ok (.iadd, 1) := by decide +kernel
theorem d_Li_append_30 : decode prog_5_method_5_code 30 = .ok (.iload_n 1, 1) := by decide +kernel
theorem d_Li_append_31 : decode prog_5_method_5_code 31 = .ok (.iload_n 3, 1) := by decide +kernel
theorem d_Li_append_32 : decode prog_5_method_5_code 32 = .ok (.invokestatic 22, 3) := by decide +kernel
theorem d_Li_append_35 : decode prog_5_method_5_code 35 = .ok (.i2c, 1) := by decide +kernel
theorem d_Li_append_36 : decode prog_5_method_5_code 36 = .ok (.castore, 1) := by decide +kernel
theorem d_Li_append_37 : decode prog_5_method_5_code 37 = .ok (.iinc 3 1, 3) := by decide +kernel
theorem d_Li_append_40 : decode prog_5_method_5_code 40 = .ok (.goto (-25), 3) := by decide +kernel
theorem d_Li_append_43 : decode prog_5_method_5_code 43 = .ok (.aload_n 0, 1) := by decide +kernel
theorem d_Li_append_44 : decode prog_5_method_5_code 44 = .ok (.dup, 1) := by decide +kernel
theorem d_Li_append_45 : decode prog_5_method_5_code 45 = .ok (.getfield 15, 3) := by decide +kernel
theorem d_Li_append_48 : decode prog_5_method_5_code 48 = .ok (.iload_n 2, 1) := by decide +kernel
theorem d_Li_append_49 : decode prog_5_method_5_code 49 = .ok (.iadd, 1) := by decide +kernel
theorem d_Li_append_50 : decode prog_5_method_5_code 50 = .ok (.putfield 15, 3) := by decide +kernel
theorem d_Li_append_53 : decode prog_5_method_5_code 53 = .ok (.iconst 1, 1) := by decide +kernel
theorem d_Li_append_54 : decode prog_5_method_5_code 54 = .ok (.ireturn, 1) := by decide +kernel
theorem d_Li_clear_0 : decode prog_5_method_6_code 0 = .ok (.aload_n 0, 1) := by decide +kernel
theorem d_Li_clear_1 : decode prog_5_method_6_code 1 = .ok (.iconst 0, 1) := by decide +kernel
theorem d_Li_clear_2 : decode prog_5_method_6_code 2 = .ok (.putfield 15, 3) := by decide +kernel
theorem d_Li_clear_5 : decode prog_5_method_6_code 5 = .ok (.return_, 1) := by decide +kernel
theorem d_Li_signAt_0 : decode prog_5_method_7_code 0 = .ok (.iload_n 1, 1) := by decide +kernel
theorem d_Li_signAt_1 : decode prog_5_method_7_code 1 = .ok (.ifCond .lt 20, 3) := by decide +kernel
theorem d_Li_signAt_4 : decode prog_5_method_7_code 4 = .ok (.iload_n 1, 1) := by decide +kernel
theorem d_Li_signAt_5 : decode prog_5_method_7_code 5 = .ok (.aload_n 0, 1) := by decide +kernel
end
section
theorem d_Li_signAt_6 : decode prog_5_method_7_code 6 = .ok (.getfield 15, 3) := by decide +kernel
theorem d_Li_signAt_9 : decode prog_5_method_7_code 9 = .ok (.if_icmp .ge 12, 3) := by decide +kernel
theorem d_Li_signAt_12 : decode prog_5_method_7_code 12 = .ok (.aload_n 0, 1) := by decide +kernel
theorem d_Li_signAt_13 : decode prog_5_method_7_code 13 = .ok (.getfield 9, 3) := by decide +kernel
theorem d_Li_signAt_16 : decode prog_5_method_7_code 16 = .ok (.iload_n 1, 1) := by decide +kernel
theorem d_Li_signAt_17 : decode prog_5_method_7_code 17 = .ok (.caload, 1) := by decide +kernel
theorem d_Li_signAt_18 : decode prog_5_method_7_code 18 = .ok (.goto 4, 3) := by decide +kernel
theorem d_Li_signAt_21 : decode prog_5_method_7_code 21 = .ok (.iconst 0, 1) := by decide +kernel
theorem d_Li_signAt_22 : decode prog_5_method_7_code 22 = .ok (.ireturn, 1) := by decide +kernel
theorem d_Li_temporalsBefore_0 : decode prog_5_method_8_code 0 = .ok (.iconst 0, 1) := by decide +kernel
theorem d_Li_temporalsBefore_1 : decode prog_5_method_8_code 1 = .ok (.istore_n 2, 1) := by decide +kernel
theorem d_Li_temporalsBefore_2 : decode prog_5_method_8_code 2 = .ok (.iconst 0, 1) := by decide +kernel
theorem d_Li_temporalsBefore_3 : decode prog_5_method_8_code 3 = .ok (.istore_n 3, 1) := by decide +kernel
theorem d_Li_temporalsBefore_4 : decode prog_5_method_8_code 4 = .ok (.iload_n 3, 1) := by decide +kernel
theorem d_Li_temporalsBefore_5 : decode prog_5_method_8_code 5 = .ok (.iload_n 1, 1) := by decide +kernel
theorem d_Li_temporalsBefore_6 : decode prog_5_method_8_code 6 = .ok (.if_icmp .ge 23, 3) := by decide +kernel
theorem d_Li_temporalsBefore_9 : decode prog_5_method_8_code 9 = .ok (.aload_n 0, 1) := by decide +kernel
theorem d_Li_temporalsBefore_10 : decode prog_5_method_8_code 10 = .ok (.iload_n 3, 1) := by decide +kernel
theorem d_Li_temporalsBefore_11 : decode prog_5_method_8_code 11 = .ok (.invokevirtual 26, 3) := by decide +kernel
theorem d_Li_temporalsBefore_14 : decode prog_5_method_8_code 14 = .ok (.invokestatic 30, 3) := by decide +kernel
theorem d_Li_temporalsBefore_17 : decode prog_5_method_8_code 17 = .ok (.ifCond .eq 6, 3) := by decide +kernel
theorem d_Li_temporalsBefore_20 : decode prog_5_method_8_code 20 = .ok (.iinc 2 1, 3) := by decide +kernel
theorem d_Li_temporalsBefore_23 : decode prog_5_method_8_code 23 = .ok (.iinc 3 1, 3) := by decide +kernel
theorem d_Li_temporalsBefore_26 : decode prog_5_method_8_code 26 = .ok (.goto (-22), 3) := by decide +kernel
theorem d_Li_temporalsBefore_29 : decode prog_5_method_8_code 29 = .ok (.iload_n 2, 1) := by decide +kernel
theorem d_Li_temporalsBefore_30 : decode prog_5_method_8_code 30 = .ok (.ireturn, 1) := by decide +kernel
theorem d_Li_readInto_0 : decode prog_5_method_9_code 0 = .ok (.aload_n 1, 1) := by decide +kernel
theorem d_Li_readInto_1 : decode prog_5_method_9_code 1 = .ok (.invokevirtual 34, 3) := by decide +kernel
theorem d_Li_readInto_4 : decode prog_5_method_9_code 4 = .ok (.aload_n 0, 1) := by decide +kernel
theorem d_Li_readInto_5 : decode prog_5_method_9_code 5 = .ok (.iconst 0, 1) := by decide +kernel
theorem d_Li_readInto_6 : decode prog_5_method_9_code 6 = .ok (.putfield 19, 3) := by decide +kernel
theorem d_Li_readInto_9 : decode prog_5_method_9_code 9 = .ok (.aload_n 0, 1) := by decide +kernel
theorem d_Li_readInto_10 : decode prog_5_method_9_code 10 = .ok (.aload_n 0, 1) := by decide +kernel
theorem d_Li_readInto_11 : decode prog_5_method_9_code 11 = .ok (.getfield 15, 3) := by decide +kernel
theorem d_Li_readInto_14 : decode prog_5_method_9_code 14 = .ok (.invokevirtual 39, 3) := by decide +kernel
theorem d_Li_readInto_17 : decode prog_5_method_9_code 17 = .ok (.iconst 5, 1) := by decide +kernel
theorem d_Li_readInto_18 : decode prog_5_method_9_code 18 = .ok (.if_icmp .le 5, 3) := by decide +kernel
theorem d_Li_readInto_21 : decode prog_5_method_9_code 21 = .ok (.iconst 0, 1) := by decide +kernel
theorem d_Li_readInto_22 : decode prog_5_method_9_code 22 = .ok (.ireturn, 1) := by decide +kernel
theorem d_Li_readInto_23 : decode prog_5_method_9_code 23 = .ok (.aload_n 0, 1) := by decide +kernel
theorem d_Li_readInto_24 : decode prog_5_method_9_code 24 = .ok (.aload_n 1, 1) := by decide +kernel
theorem d_Li_readInto_25 : decode prog_5_method_9_code 25 = .ok (.iconst 0, 1) := by decide +kernel
theorem d_Li_readInto_26 : decode prog_5_method_9_code 26 = .ok (.iconst 0, 1) := by decide +kernel
theorem d_Li_readInto_27 : decode prog_5_method_9_code 27 = .ok (.invokevirtual 42, 3) := by decide +kernel
theorem d_Li_readInto_30 : decode prog_5_method_9_code 30 = .ok (.istore_n 2, 1) := by decide +kernel
theorem d_Li_readInto_31 : decode prog_5_method_9_code 31 = .ok (.iload_n 2, 1) := by decide +kernel
theorem d_Li_readInto_32 : decode prog_5_method_9_code 32 = .ok (.iconst (-1), 1) := by decide +kernel
theorem d_Li_readInto_33 : decode prog_5_method_9_code 33 = .ok (.if_icmp .eq 14, 3) := by decide +kernel
theorem d_Li_readInto_36 : decode prog_5_method_9_code 36 = .ok (.aload_n 0, 1) := by decide +kernel
theorem d_Li_readInto_37 : decode prog_5_method_9_code 37 = .ok (.getfield 19, 3) := by decide +kernel
theorem d_Li_readInto_40 : decode prog_5_method_9_code 40 = .ok (.aload_n 0, 1) := by decide +kernel
theorem d_Li_readInto_41 : decode prog_5_method_9_code 41 = .ok (.getfield 15, 3) := by decide +kernel
theorem d_Li_readInto_44 : decode prog_5_method_9_code 44 = .ok (.if_icmp .eq 5, 3) := by decide +kernel
theorem d_Li_readInto_47 : decode prog_5_method_9_code 47 = .ok (.iconst 0, 1) := by decide +kernel
theorem d_Li_readInto_48 : decode prog_5_method_9_code 48 = .ok (.ireturn, 1) := by decide +kernel
theorem d_Li_readInto_49 : decode prog_5_method_9_code 49 = .ok (.aload_n 1, 1) := by decide +kernel
theorem d_Li_readInto_50 : decode prog_5_method_9_code 50 = .ok (.invokevirtual 46, 3) := by decide +kernel
theorem d_Li_readInto_53 : decode prog_5_method_9_code 53 = .ok (.iconst 1, 1) := by decide +kernel
theorem d_Li_readInto_54 : decode prog_5_method_9_code 54 = .ok (.ireturn, 1) := by decide +kernel
theorem d_Li_readLevel_0 : decode prog_5_method_10_code 0 = .ok (.iload_n 2, 1) := by decide +kernel
theorem d_Li_readLevel_1 : decode prog_5_method_10_code 1 = .ok (.iconst 4, 1) := by decide +kernel
theorem d_Li_readLevel_2 : decode prog_5_method_10_code 2 = .ok (.if_icmp .lt 10, 3) := by decide +kernel
theorem d_Li_readLevel_5 : decode prog_5_method_10_code 5 = .ok (.aload_n 0, 1) := by decide +kernel
theorem d_Li_readLevel_6 : decode prog_5_method_10_code 6 = .ok (.aload_n 1, 1) := by decide +kernel
theorem d_Li_readLevel_7 : decode prog_5_method_10_code 7 = .ok (.iload_n 3, 1) := by decide +kernel
theorem d_Li_readLevel_8 : decode prog_5_method_10_code 8 = .ok (.invokevirtual 49, 3) := by decide +kernel
theorem d_Li_readLevel_11 : decode prog_5_method_10_code 11 = .ok (.ireturn, 1) := by decide +kernel
theorem d_Li_readLevel_12 : decode prog_5_method_10_code 12 = .ok (.aload_n 0, 1) := by decide +kernel
theorem d_Li_readLevel_13 : decode prog_5_method_10_code 13 = .ok (.aload_n 1, 1) := by decide +kernel
theorem d_Li_readLevel_14 : decode prog_5_method_10_code 14 = .ok (.iload_n 2, 1) := by decide +kernel
theorem d_Li_readLevel_15 : decode prog_5_method_10_code 15 = .ok (.iconst 1, 1) := by decide +kernel
theorem d_Li_readLevel_16 : decode prog_5_method_10_code 16 = .ok (.iadd, 1) := by decide +kernel
theorem d_Li_readLevel_17 : decode prog_5_method_10_code 17 = .ok (.iload_n 3, 1) := by decide +kernel
theorem d_Li_readLevel_18 : decode prog_5_method_10_code 18 = .ok (.invokevirtual 42, 3) := by decide +kernel
theorem d_Li_readLevel_21 : decode prog_5_method_10_code 21 = .ok (.istore 4, 2) := by decide +kernel
theorem d_Li_readLevel_23 : decode prog_5_method_10_code 23 = .ok (.aload_n 0, 1) := by decide +kernel
theorem d_Li_readLevel_24 : decode prog_5_method_10_code 24 = .ok (.aload_n 0, 1) := by decide +kernel
theorem d_Li_readLevel_25 : decode prog_5_method_10_code 25 = .ok (.getfield 19, 3) := by decide +kernel
theorem d_Li_readLevel_28 : decode prog_5_method_10_code 28 = .ok (.invokevirtual 26, 3) := by decide +kernel
theorem d_Li_readLevel_31 : decode prog_5_method_10_code 31 = .ok (.istore 5, 2) := by decide +kernel
theorem d_Li_readLevel_33 : decode prog_5_method_10_code 33 = .ok (.iload 4, 2) := by decide +kernel
theorem d_Li_readLevel_35 : decode prog_5_method_10_code 35 = .ok (.iconst (-1), 1) := by decide +kernel
theorem d_Li_readLevel_36 : decode prog_5_method_10_code 36 = .ok (.if_icmp .eq 12, 3) := by decide +kernel
theorem d_Li_readLevel_39 : decode prog_5_method_10_code 39 = .ok (.iload 5, 2) := by decide +kernel
theorem d_Li_readLevel_41 : decode prog_5_method_10_code 41 = .ok (.invokestatic 53, 3) := by decide +kernel
theorem d_Li_readLevel_44 : decode prog_5_method_10_code 44 = .ok (.iload_n 2, 1) := by decide +kernel
theorem d_Li_readLevel_45 : decode prog_5_method_10_code 45 = .ok (.if_icmp .eq 6, 3) := by decide +kernel
theorem d_Li_readLevel_48 : decode prog_5_method_10_code 48 = .ok (.iload 4, 2) := by decide +kernel
theorem d_Li_readLevel_50 : decode prog_5_method_10_code 50 = .ok (.ireturn, 1) := by decide +kernel
theorem d_Li_readLevel_51 : decode prog_5_method_10_code 51 = .ok (.aload_n 0, 1) := by decide +kernel
theorem d_Li_readLevel_52 : decode prog_5_method_10_code 52 = .ok (.aload_n 0, 1) := by decide +kernel
theorem d_Li_readLevel_53 : decode prog_5_method_10_code 53 = .ok (.getfield 19, 3) := by decide +kernel
theorem d_Li_readLevel_56 : decode prog_5_method_10_code 56 = .ok (.invokevirtual 39, 3) := by decide +kernel
theorem d_Li_readLevel_59 : decode prog_5_method_10_code 59 = .ok (.istore 6, 2) := by decide +kernel
theorem d_Li_readLevel_61 : decode prog_5_method_10_code 61 = .ok (.aload_n 0, 1) := by decide +kernel
theorem d_Li_readLevel_62 : decode prog_5_method_10_code 62 = .ok (.dup, 1) := by decide +kernel
theorem d_Li_readLevel_63 : decode prog_5_method_10_code 63 = .ok (.getfield 19, 3) := by decide +kernel
theorem d_Li_readLevel_66 : decode prog_5_method_10_code 66 = .ok (.iconst 1, 1) := by decide +kernel
theorem d_Li_readLevel_67 : decode prog_5_method_10_code 67 = .ok (.iadd, 1) := by decide +kernel
theorem d_Li_readLevel_68 : decode prog_5_method_10_code 68 = .ok (.putfield 19, 3) := by decide +kernel
theorem d_Li_readLevel_71 : decode prog_5_method_10_code 71 = .ok (.aload_n 0, 1) := by decide +kernel
theorem d_Li_readLevel_72 : decode prog_5_method_10_code 72 = .ok (.aload_n 1, 1) := by decide +kernel
theorem d_Li_readLevel_73 : decode prog_5_method_10_code 73 = .ok (.iload_n 2, 1) := by decide +kernel
theorem d_Li_readLevel_74 : decode prog_5_method_10_code 74 = .ok (.iload_n 3, 1) := by decide +kernel
theorem d_Li_readLevel_75 : decode prog_5_method_10_code 75 = .ok (.invokevirtual 42, 3) := by decide +kernel
theorem d_Li_readLevel_78 : decode prog_5_method_10_code 78 = .ok (.istore 7, 2) := by decide +kernel
theorem d_Li_readLevel_80 : decode prog_5_method_10_code 80 = .ok (.iload 7, 2) := by decide +kernel
theorem d_Li_readLevel_82 : decode prog_5_method_10_code 82 = .ok (.iconst (-1), 1) := by decide +kernel
theorem d_Li_readLevel_83 : decode prog_5_method_10_code 83 = .ok (.if_icmp .ne 7, 3) := by decide +kernel
theorem d_Li_readLevel_86 : decode prog_5_method_10_code 86 = .ok (.iconst (-1), 1) := by decide +kernel
theorem d_Li_readLevel_87 : decode prog_5_method_10_code 87 = .ok (.goto 15, 3) := by decide +kernel
theorem d_Li_readLevel_90 : decode prog_5_method_10_code 90 = .ok (.aload_n 1, 1) := by decide +kernel
theorem d_Li_readLevel_91 : decode prog_5_method_10_code 91 = .ok (.iload 5, 2) := by decide +kernel
theorem d_Li_readLevel_93 : decode prog_5_method_10_code 93 = .ok (.iload 4, 2) := by decide +kernel
theorem d_Li_readLevel_95 : decode prog_5_method_10_code 95 = .ok (.iload 7, 2) := by decide +kernel
theorem d_Li_readLevel_97 : decode prog_5_method_10_code 97 = .ok (.iload 6, 2) := by decide +kernel
theorem d_Li_readLevel_99 : decode prog_5_method_10_code 99 = .ok (.invokevirtual 56, 3) := by decide +kernel
theorem d_Li_readLevel_102 : decode prog_5_method_10_code 102 = .ok (.ireturn, 1) := by decide +kernel
theorem d_Li_readSimple_0 : decode prog_5_method_11_code 0 = .ok (.aload_n 0, 1) := by decide +kernel
theorem d_Li_readSimple_1 : decode prog_5_method_11_code 1 = .ok (.aload_n 0, 1) := by decide +kernel
theorem d_Li_readSimple_2 : decode prog_5_method_11_code 2 = .ok (.getfield 19, 3) := by decide +kernel
theorem d_Li_readSimple_5 : decode prog_5_method_11_code 5 = .ok (.invokevirtual 26, 3) := by decide +kernel
theorem d_Li_readSimple_8 : decode prog_5_method_11_code 8 = .ok (.istore_n 3, 1) := by decide +kernel
theorem d_Li_readSimple_9 : decode prog_5_method_11_code 9 = .ok (.aload_n 0, 1) := by decide +kernel
theorem d_Li_readSimple_10 : decode prog_5_method_11_code 10 = .ok (.aload_n 0, 1) := by decide +kernel
theorem d_Li_readSimple_11 : decode prog_5_method_11_code 11 = .ok (.getfield 19, 3) := by decide +kernel
theorem d_Li_readSimple_14 : decode prog_5_method_11_code 14 = .ok (.invokevirtual 39, 3) := by decide +kernel
theorem d_Li_readSimple_17 : decode prog_5_method_11_code 17 = .ok (.istore 4, 2) := by decide +kernel
theorem d_Li_readSimple_19 : decode prog_5_method_11_code 19 = .ok (.aload_n 0, 1) := by decide +kernel
theorem d_Li_readSimple_20 : decode prog_5_method_11_code 20 = .ok (.dup, 1) := by decide +kernel
theorem d_Li_readSimple_21 : decode prog_5_method_11_code 21 = .ok (.getfield 19, 3) := by decide +kernel
theorem d_Li_readSimple_24 : decode prog_5_method_11_code 24 = .ok (.iconst 1, 1) := by decide +kernel
theorem d_Li_readSimple_25 : decode prog_5_method_11_code 25 = .ok (.iadd, 1) := by decide +kernel
theorem d_Li_readSimple_26 : decode prog_5_method_11_code 26 = .ok (.putfield 19, 3) := by decide +kernel
theorem d_Li_readSimple_29 : decode prog_5_method_11_code 29 = .ok (.iload_n 3, 1) := by decide +kernel
theorem d_Li_readSimple_30 : decode prog_5_method_11_code 30 = .ok (.lookupswitch 148 #[(33, 100), (40, 130), (48, 90), (49, 90), (70, 100), (71, 100), (88, 100), (97, 90), (98, 90), (99, 90)], 90) := by decide +kernel
theorem d_Li_readSimple_120 : decode prog_5_method_11_code 120 = .ok (.aload_n 1, 1) := by decide +kernel
theorem d_Li_readSimple_121 : decode prog_5_method_11_code 121 = .ok (.iload_n 3, 1) := by decide +kernel
theorem d_Li_readSimple_122 : decode prog_5_method_11_code 122 = .ok (.iconst 0, 1) := by decide +kernel
theorem d_Li_readSimple_123 : decode prog_5_method_11_code 123 = .ok (.iconst 0, 1) := by decide +kernel
theorem d_Li_readSimple_124 : decode prog_5_method_11_code 124 = .ok (.iload 4, 2) := by decide +kernel
theorem d_Li_readSimple_126 : decode prog_5_method_11_code 126 = .ok (.invokevirtual 56, 3) := by decide +kernel
theorem d_Li_readSimple_129 : decode prog_5_method_11_code 129 = .ok (.ireturn, 1) := by decide +kernel
theorem d_Li_readSimple_130 : decode prog_5_method_11_code 130 = .ok (.aload_n 0, 1) := by decide +kernel
theorem d_Li_readSimple_131 : decode prog_5_method_11_code 131 = .ok (.aload_n 1, 1) := by decide +kernel
theorem d_Li_readSimple_132 : decode prog_5_method_11_code 132 = .ok (.iload_n 2, 1) := by decide +kernel
theorem d_Li_readSimple_133 : decode prog_5_method_11_code 133 = .ok (.invokevirtual 49, 3) := by decide +kernel
theorem d_Li_readSimple_136 : decode prog_5_method_11_code 136 = .ok (.istore 5, 2) := by decide +kernel
theorem d_Li_readSimple_138 : decode prog_5_method_11_code 138 = .ok (.iload 5, 2) := by decide +kernel
theorem d_Li_readSimple_140 : decode prog_5_method_11_code 140 = .ok (.iconst (-1), 1) := by decide +kernel
theorem d_Li_readSimple_141 : decode prog_5_method_11_code 141 = .ok (.if_icmp .ne 7, 3) := by decide +kernel
theorem d_Li_readSimple_144 : decode prog_5_method_11_code 144 = .ok (.iconst (-1), 1) := by decide +kernel
theorem d_Li_readSimple_145 : decode prog_5_method_11_code 145 = .ok (.goto 14, 3) := by decide +kernel
theorem d_Li_readSimple_148 : decode prog_5_method_11_code 148 = .ok (.aload_n 1, 1) := by decide +kernel
theorem d_Li_readSimple_149 : decode prog_5_method_11_code 149 = .ok (.iload_n 3, 1) := by decide +kernel
theorem d_Li_readSimple_150 : decode prog_5_method_11_code 150 = .ok (.iload 5, 2) := by decide +kernel
theorem d_Li_readSimple_152 : decode prog_5_method_11_code 152 = .ok (.iload 5, 2) := by decide +kernel
theorem d_Li_readSimple_154 : decode prog_5_method_11_code 154 = .ok (.iload 4, 2) := by decide +kernel
theorem d_Li_readSimple_156 : decode prog_5_method_11_code 156 = .ok (.invokevirtual 56, 3) := by decide +kernel
theorem d_Li_readSimple_159 : decode prog_5_method_11_code 159 = .ok (.ireturn, 1) := by decide +kernel
theorem d_Li_readSimple_160 : decode prog_5_method_11_code 160 = .ok (.iload_n 2, 1) := by decide +kernel
theorem d_Li_readSimple_161 : decode prog_5_method_11_code 161 = .ok (.iconst 4, 1) := by decide +kernel
theorem d_Li_readSimple_162 : decode prog_5_method_11_code 162 = .ok (.if_icmp .lt 7, 3) := by decide +kernel
theorem d_Li_readSimple_165 : decode prog_5_method_11_code 165 = .ok (.iconst (-1), 1) := by decide +kernel
theorem d_Li_readSimple_166 : decode prog_5_method_11_code 166 = .ok (.goto 11, 3) := by decide +kernel
theorem d_Li_readSimple_169 : decode prog_5_method_11_code 169 = .ok (.aload_n 0, 1) := by decide +kernel
theorem d_Li_readSimple_170 : decode prog_5_method_11_code 170 = .ok (.aload_n 1, 1) := by decide +kernel
theorem d_Li_readSimple_171 : decode prog_5_method_11_code 171 = .ok (.iload_n 2, 1) := by decide +kernel
theorem d_Li_readSimple_172 : decode prog_5_method_11_code 172 = .ok (.iconst 1, 1) := by decide +kernel
theorem d_Li_readSimple_173 : decode prog_5_method_11_code 173 = .ok (.iadd, 1) := by decide +kernel
theorem d_Li_readSimple_174 : decode prog_5_method_11_code 174 = .ok (.invokevirtual 60, 3) := by decide +kernel
theorem d_Li_readSimple_177 : decode prog_5_method_11_code 177 = .ok (.ireturn, 1) := by decide +kernel
theorem d_Li_readSimple_178 : decode prog_5_method_11_code 178 = .ok (.iconst (-1), 1) := by decide +kernel
theorem d_Li_readSimple_179 : decode prog_5_method_11_code 179 = .ok (.ireturn, 1) := by decide +kernel
theorem d_Li_readBracket_0 : decode prog_5_method_12_code 0 = .ok (.aload_n 0, 1) := by decide +kernel
theorem d_Li_readBracket_1 : decode prog_5_method_12_code 1 = .ok (.aload_n 1, 1) := by decide +kernel
theorem d_Li_readBracket_2 : decode prog_5_method_12_code 2 = .ok (.iconst 0, 1) := by decide +kernel
theorem d_Li_readBracket_3 : decode prog_5_method_12_code 3 = .ok (.iload_n 2, 1) := by decide +kernel
theorem d_Li_readBracket_4 : decode prog_5_method_12_code 4 = .ok (.invokevirtual 42, 3) := by decide +kernel
theorem d_Li_readBracket_7 : decode prog_5_method_12_code 7 = .ok (.istore_n 3, 1) := by decide +kernel
theorem d_Li_readBracket_8 : decode prog_5_method_12_code 8 = .ok (.aload_n 0, 1) := by decide +kernel
theorem d_Li_readBracket_9 : decode prog_5_method_12_code 9 = .ok (.aload_n 0, 1) := by decide +kernel
theorem d_Li_readBracket_10 : decode prog_5_method_12_code 10 = .ok (.getfield 19, 3) := by decide +kernel
theorem d_Li_readBracket_13 : decode prog_5_method_12_code 13 = .ok (.invokevirtual 26, 3) := by decide +kernel
theorem d_Li_readBracket_16 : decode prog_5_method_12_code 16 = .ok (.bipush 41, 2) := by decide +kernel
theorem d_Li_readBracket_18 : decode prog_5_method_12_code 18 = .ok (.if_icmp .eq 5, 3) := by decide +kernel
theorem d_Li_readBracket_21 : decode prog_5_method_12_code 21 = .ok (.iconst (-1), 1) := by decide +kernel
theorem d_Li_readBracket_22 : decode prog_5_method_12_code 22 = .ok (.ireturn, 1) := by decide +kernel
theorem d_Li_readBracket_23 : decode prog_5_method_12_code 23 = .ok (.aload_n 0, 1) := by decide +kernel
theorem d_Li_readBracket_24 : decode prog_5_method_12_code 24 = .ok (.dup, 1) := by decide +kernel
theorem d_Li_readBracket_25 : decode prog_5_method_12_code 25 = .ok (.getfield 19, 3) := by decide +kernel
theorem d_Li_readBracket_28 : decode prog_5_method_12_code 28 = .ok (.iconst 1, 1) := by decide +kernel
theorem d_Li_readBracket_29 : decode prog_5_method_12_code 29 = .ok (.iadd, 1) := by decide +kernel
theorem d_Li_readBracket_30 : decode prog_5_method_12_code 30 = .ok (.putfield 19, 3) := by decide +kernel
theorem d_Li_readBracket_33 : decode prog_5_method_12_code 33 = .ok (.iload_n 3, 1) := by decide +kernel
theorem d_Li_readBracket_34 : decode prog_5_method_12_code 34 = .ok (.ireturn, 1) := by decide +kernel
theorem d_Li_levelJoinedBy_0 : decode prog_5_method_13_code 0 = .ok (.iload_n 0, 1) := by decide +kernel
theorem d_Li_levelJoinedBy_1 : decode prog_5_method_13_code 1 = .ok (.lookupswitch 59 #[(38, 55), (62, 51), (82, 57), (85, 57), (124, 53)], 51) := by decide +kernel
theorem d_Li_levelJoinedBy_52 : decode prog_5_method_13_code 52 = .ok (.iconst 0, 1) := by decide +kernel
theorem d_Li_levelJoinedBy_53 : decode prog_5_method_13_code 53 = .ok (.ireturn, 1) := by decide +kernel
theorem d_Li_levelJoinedBy_54 : decode prog_5_method_13_code 54 = .ok (.iconst 1, 1) := by decide +kernel
theorem d_Li_levelJoinedBy_55 : decode prog_5_method_13_code 55 = .ok (.ireturn, 1) := by decide +kernel
theorem d_Li_levelJoinedBy_56 : decode prog_5_method_13_code 56 = .ok (.iconst 2, 1) := by decide +kernel
theorem d_Li_levelJoinedBy_57 : decode prog_5_method_13_code 57 = .ok (.ireturn, 1) := by decide +kernel
theorem d_Li_levelJoinedBy_58 : decode prog_5_method_13_code 58 = .ok (.iconst 3, 1) := by decide +kernel
theorem d_Li_levelJoinedBy_59 : decode prog_5_method_13_code 59 = .ok (.ireturn, 1) := by decide +kernel
theorem d_Li_levelJoinedBy_60 : decode prog_5_method_13_code 60 = .ok (.iconst (-1), 1) := by decide +kernel
theorem d_Li_levelJoinedBy_61 : decode prog_5_method_13_code 61 = .ok (.ireturn, 1) := by decide +kernel
theorem d_Wa_go_0 : decode prog_6_method_2_code 0 = .ok (.aload_n 0, 1) := by decide +kernel
theorem d_Wa_go_1 : decode prog_6_method_2_code 1 = .ok (.iconst (-1), 1) := by decide +kernel
theorem d_Wa_go_2 : decode prog_6_method_2_code 2 = .ok (.putfield 18, 3) := by decide +kernel
theorem d_Wa_go_5 : decode prog_6_method_2_code 5 = .ok (.aload_n 0, 1) := by decide +kernel
theorem d_Wa_go_6 : decode prog_6_method_2_code 6 = .ok (.iconst (-1), 1) := by decide +kernel
theorem d_Wa_go_7 : decode prog_6_method_2_code 7 = .ok (.putfield 22, 3) := by decide +kernel
theorem d_Wa_go_10 : decode prog_6_method_2_code 10 = .ok (.aload_n 0, 1) := by decide +kernel
theorem d_Wa_go_11 : decode prog_6_method_2_code 11 = .ok (.getfield 15, 3) := by decide +kernel
theorem d_Wa_go_14 : decode prog_6_method_2_code 14 = .ok (.iconst (-1), 1) := by decide +kernel
theorem d_Wa_go_15 : decode prog_6_method_2_code 15 = .ok (.invokestatic 25, 3) := by decide +kernel
theorem d_Wa_go_18 : decode prog_6_method_2_code 18 = .ok (.aload_n 1, 1) := by decide +kernel
theorem d_Wa_go_19 : decode prog_6_method_2_code 19 = .ok (.invokevirtual 31, 3) := by decide +kernel
theorem d_Wa_go_22 : decode prog_6_method_2_code 22 = .ok (.istore_n 2, 1) := by decide +kernel
theorem d_Wa_go_23 : decode prog_6_method_2_code 23 = .ok (.iconst 0, 1) := by decide +kernel
theorem d_Wa_go_24 : decode prog_6_method_2_code 24 = .ok (.istore_n 3, 1) := by decide +kernel
theorem d_Wa_go_25 : decode prog_6_method_2_code 25 = .ok (.iconst 0, 1) := by decide +kernel
theorem d_Wa_go_26 : decode prog_6_method_2_code 26 = .ok (.istore 4, 2) := by decide +kernel
theorem d_Wa_go_28 : decode prog_6_method_2_code 28 = .ok (.iload 4, 2) := by decide +kernel
theorem d_Wa_go_30 : decode prog_6_method_2_code 30 = .ok (.sipush 1280, 3) := by decide +kernel
theorem d_Wa_go_33 : decode prog_6_method_2_code 33 = .ok (.if_icmp .gt 86, 3) := by decide +kernel
theorem d_Wa_go_36 : decode prog_6_method_2_code 36 = .ok (.iload_n 2, 1) := by decide +kernel
theorem d_Wa_go_37 : decode prog_6_method_2_code 37 = .ok (.iconst (-1), 1) := by decide +kernel
theorem d_Wa_go_38 : decode prog_6_method_2_code 38 = .ok (.if_icmp .eq 81, 3) := by decide +kernel
theorem d_Wa_go_41 : decode prog_6_method_2_code 41 = .ok (.aload_n 1, 1) := by decide +kernel
theorem d_Wa_go_42 : decode prog_6_method_2_code 42 = .ok (.iload_n 2, 1) := by decide +kernel
theorem d_Wa_go_43 : decode prog_6_method_2_code 43 = .ok (.iload_n 3, 1) := by decide +kernel
theorem d_Wa_go_44 : decode prog_6_method_2_code 44 = .ok (.invokevirtual 37, 3) := by decide +kernel
theorem d_Wa_go_47 : decode prog_6_method_2_code 47 = .ok (.istore_n 3, 1) := by decide +kernel
theorem d_Wa_go_48 : decode prog_6_method_2_code 48 = .ok (.iload_n 2, 1) := by decide +kernel
theorem d_Wa_go_49 : decode prog_6_method_2_code 49 = .ok (.iconst 5, 1) := by decide +kernel
theorem d_Wa_go_50 : decode prog_6_method_2_code 50 = .ok (.imul, 1) := by decide +kernel
theorem d_Wa_go_51 : decode prog_6_method_2_code 51 = .ok (.iload_n 3, 1) := by decide +kernel
theorem d_Wa_go_52 : decode prog_6_method_2_code 52 = .ok (.iadd, 1) := by decide +kernel
theorem d_Wa_go_53 : decode prog_6_method_2_code 53 = .ok (.istore 5, 2) := by decide +kernel
theorem d_Wa_go_55 : decode prog_6_method_2_code 55 = .ok (.aload_n 0, 1) := by decide +kernel
theorem d_Wa_go_56 : decode prog_6_method_2_code 56 = .ok (.getfield 15, 3) := by decide +kernel
theorem d_Wa_go_59 : decode prog_6_method_2_code 59 = .ok (.iload 5, 2) := by decide +kernel
theorem d_Wa_go_61 : decode prog_6_method_2_code 61 = .ok (.iaload, 1) := by decide +kernel
theorem d_Wa_go_62 : decode prog_6_method_2_code 62 = .ok (.iconst (-1), 1) := by decide +kernel
theorem d_Wa_go_63 : decode prog_6_method_2_code 63 = .ok (.if_icmp .eq 26, 3) := by decide +kernel
theorem d_Wa_go_66 : decode prog_6_method_2_code 66 = .ok (.aload_n 0, 1) := by decide +kernel
theorem d_Wa_go_67 : decode prog_6_method_2_code 67 = .ok (.aload_n 0, 1) := by decide +kernel
theorem d_Wa_go_68 : decode prog_6_method_2_code 68 = .ok (.getfield 15, 3) := by decide +kernel
theorem d_Wa_go_71 : decode prog_6_method_2_code 71 = .ok (.iload 5, 2) := by decide +kernel
theorem d_Wa_go_73 : decode prog_6_method_2_code 73 = .ok (.iaload, 1) := by decide +kernel
theorem d_Wa_go_74 : decode prog_6_method_2_code 74 = .ok (.putfield 18, 3) := by decide +kernel
theorem d_Wa_go_77 : decode prog_6_method_2_code 77 = .ok (.aload_n 0, 1) := by decide +kernel
theorem d_Wa_go_78 : decode prog_6_method_2_code 78 = .ok (.iload 4, 2) := by decide +kernel
theorem d_Wa_go_80 : decode prog_6_method_2_code 80 = .ok (.aload_n 0, 1) := by decide +kernel
theorem d_Wa_go_81 : decode prog_6_method_2_code 81 = .ok (.getfield 18, 3) := by decide +kernel
theorem d_Wa_go_84 : decode prog_6_method_2_code 84 = .ok (.isub, 1) := by decide +kernel
theorem d_Wa_go_85 : decode prog_6_method_2_code 85 = .ok (.putfield 22, 3) := by decide +kernel
theorem d_Wa_go_88 : decode prog_6_method_2_code 88 = .ok (.return_, 1) := by decide +kernel
theorem d_Wa_go_89 : decode prog_6_method_2_code 89 = .ok (.aload_n 0, 1) := by decide +kernel
theorem d_Wa_go_90 : decode prog_6_method_2_code 90 = .ok (.getfield 15, 3) := by decide +kernel
theorem d_Wa_go_93 : decode prog_6_method_2_code 93 = .ok (.iload 5, 2) := by decide +kernel
theorem d_Wa_go_95 : decode prog_6_method_2_code 95 = .ok (.iload 4, 2) := by decide +kernel
theorem d_Wa_go_97 : decode prog_6_method_2_code 97 = .ok (.iastore, 1) := by decide +kernel
theorem d_Wa_go_98 : decode prog_6_method_2_code 98 = .ok (.aload_n 0, 1) := by decide +kernel
theorem d_Wa_go_99 : decode prog_6_method_2_code 99 = .ok (.getfield 11, 3) := by decide +kernel
theorem d_Wa_go_102 : decode prog_6_method_2_code 102 = .ok (.iload 4, 2) := by decide +kernel
theorem d_Wa_go_104 : decode prog_6_method_2_code 104 = .ok (.iload_n 2, 1) := by decide +kernel
theorem d_Wa_go_105 : decode prog_6_method_2_code 105 = .ok (.iastore, 1) := by decide +kernel
theorem d_Wa_go_106 : decode prog_6_method_2_code 106 = .ok (.aload_n 1, 1) := by decide +kernel
theorem d_Wa_go_107 : decode prog_6_method_2_code 107 = .ok (.iload_n 2, 1) := by decide +kernel
theorem d_Wa_go_108 : decode prog_6_method_2_code 108 = .ok (.iload_n 3, 1) := by decide +kernel
theorem d_Wa_go_109 : decode prog_6_method_2_code 109 = .ok (.invokevirtual 41, 3) := by decide +kernel
theorem d_Wa_go_112 : decode prog_6_method_2_code 112 = .ok (.istore_n 2, 1) := by decide +kernel
theorem d_Wa_go_113 : decode prog_6_method_2_code 113 = .ok (.iinc 4 1, 3) := by decide +kernel
theorem d_Wa_go_116 : decode prog_6_method_2_code 116 = .ok (.goto (-88), 3) := by decide +kernel
theorem d_Wa_go_119 : decode prog_6_method_2_code 119 = .ok (.return_, 1) := by decide +kernel
theorem d_Wa_exists_0 : decode prog_6_method_3_code 0 = .ok (.aload_n 0, 1) := by decide +kernel
theorem d_Wa_exists_1 : decode prog_6_method_3_code 1 = .ok (.getfield 18, 3) := by decide +kernel
theorem d_Wa_exists_4 : decode prog_6_method_3_code 4 = .ok (.iconst (-1), 1) := by decide +kernel
theorem d_Wa_exists_5 : decode prog_6_method_3_code 5 = .ok (.if_icmp .eq 7, 3) := by decide +kernel
theorem d_Wa_exists_8 : decode prog_6_method_3_code 8 = .ok (.iconst 1, 1) := by decide +kernel
theorem d_Wa_exists_9 : decode prog_6_method_3_code 9 = .ok (.goto 4, 3) := by decide +kernel
theorem d_Wa_exists_12 : decode prog_6_method_3_code 12 = .ok (.iconst 0, 1) := by decide +kernel
theorem d_Wa_exists_13 : decode prog_6_method_3_code 13 = .ok (.ireturn, 1) := by decide +kernel
theorem d_Wa_stemLength_0 : decode prog_6_method_4_code 0 = .ok (.aload_n 0, 1) := by decide +kernel
theorem d_Wa_stemLength_1 : decode prog_6_method_4_code 1 = .ok (.getfield 18, 3) := by decide +kernel
theorem d_Wa_stemLength_4 : decode prog_6_method_4_code 4 = .ok (.ireturn, 1) := by decide +kernel
theorem d_Wa_loopLength_0 : decode prog_6_method_5_code 0 = .ok (.aload_n 0, 1) := by decide +kernel
theorem d_Wa_loopLength_1 : decode prog_6_method_5_code 1 = .ok (.getfield 22, 3) := by decide +kernel
theorem d_Wa_loopLength_4 : decode prog_6_method_5_code 4 = .ok (.ireturn, 1) := by decide +kernel
theorem d_Wa_size_0 : decode prog_6_method_6_code 0 = .ok (.aload_n 0, 1) := by decide +kernel
theorem d_Wa_size_1 : decode prog_6_method_6_code 1 = .ok (.invokevirtual 44, 3) := by decide +kernel
theorem d_Wa_size_4 : decode prog_6_method_6_code 4 = .ok (.ifCond .eq 15, 3) := by decide +kernel
theorem d_Wa_size_7 : decode prog_6_method_6_code 7 = .ok (.aload_n 0, 1) := by decide +kernel
theorem d_Wa_size_8 : decode prog_6_method_6_code 8 = .ok (.getfield 18, 3) := by decide +kernel
theorem d_Wa_size_11 : decode prog_6_method_6_code 11 = .ok (.aload_n 0, 1) := by decide +kernel
theorem d_Wa_size_12 : decode prog_6_method_6_code 12 = .ok (.getfield 22, 3) := by decide +kernel
theorem d_Wa_size_15 : decode prog_6_method_6_code 15 = .ok (.iadd, 1) := by decide +kernel
theorem d_Wa_size_16 : decode prog_6_method_6_code 16 = .ok (.goto 4, 3) := by decide +kernel
theorem d_Wa_size_19 : decode prog_6_method_6_code 19 = .ok (.iconst 0, 1) := by decide +kernel
theorem d_Wa_size_20 : decode prog_6_method_6_code 20 = .ok (.ireturn, 1) := by decide +kernel
theorem d_Wa_stateAt_0 : decode prog_6_method_7_code 0 = .ok (.aload_n 0, 1) := by decide +kernel
theorem d_Wa_stateAt_1 : decode prog_6_method_7_code 1 = .ok (.getfield 11, 3) := by decide +kernel
theorem d_Wa_stateAt_4 : decode prog_6_method_7_code 4 = .ok (.iload_n 1, 1) := by decide +kernel
theorem d_Wa_stateAt_5 : decode prog_6_method_7_code 5 = .ok (.iaload, 1) := by decide +kernel
theorem d_Wa_stateAt_6 : decode prog_6_method_7_code 6 = .ok (.ireturn, 1) := by decide +kernel
theorem d_Lw_type_0 : decode method_3_code 0 = .ok (.aload_n 2, 1) := by decide +kernel
theorem d_Lw_type_1 : decode method_3_code 1 = .ok (.iconst 0, 1) := by decide +kernel
theorem d_Lw_type_2 : decode method_3_code 2 = .ok (.aload_n 0, 1) := by decide +kernel
theorem d_Lw_type_3 : decode method_3_code 3 = .ok (.iload_n 1, 1) := by decide +kernel
theorem d_Lw_type_4 : decode method_3_code 4 = .ok (.invokevirtual 7, 3) := by decide +kernel
theorem d_Lw_type_7 : decode method_3_code 7 = .ok (.ifCond .eq 7, 3) := by decide +kernel
theorem d_Lw_type_10 : decode method_3_code 10 = .ok (.lconst 1, 1) := by decide +kernel
theorem d_Lw_type_11 : decode method_3_code 11 = .ok (.goto 4, 3) := by decide +kernel
theorem d_Lw_type_14 : decode method_3_code 14 = .ok (.lconst 0, 1) := by decide +kernel
theorem d_Lw_type_15 : decode method_3_code 15 = .ok (.lastore, 1) := by decide +kernel
theorem d_Lw_type_16 : decode method_3_code 16 = .ok (.goto 6, 3) := by decide +kernel
theorem d_Lw_type_19 : decode method_3_code 19 = .ok (.astore_n 3, 1) := by decide +kernel
theorem d_Lw_type_20 : decode method_3_code 20 = .ok (.iconst 1, 1) := by decide +kernel
theorem d_Lw_type_21 : decode method_3_code 21 = .ok (.ireturn, 1) := by decide +kernel
theorem d_Lw_type_22 : decode method_3_code 22 = .ok (.iconst 0, 1) := by decide +kernel
theorem d_Lw_type_23 : decode method_3_code 23 = .ok (.ireturn, 1) := by decide +kernel
theorem d_Lw_formula_0 : decode method_4_code 0 = .ok (.aload_n 1, 1) := by decide +kernel
theorem d_Lw_formula_1 : decode method_4_code 1 = .ok (.iconst 0, 1) := by decide +kernel
theorem d_Lw_formula_2 : decode method_4_code 2 = .ok (.aload_n 0, 1) := by decide +kernel
theorem d_Lw_formula_3 : decode method_4_code 3 = .ok (.invokevirtual 15, 3) := by decide +kernel
theorem d_Lw_formula_6 : decode method_4_code 6 = .ok (.i2l, 1) := by decide +kernel
theorem d_Lw_formula_7 : decode method_4_code 7 = .ok (.lastore, 1) := by decide +kernel
theorem d_Lw_formula_8 : decode method_4_code 8 = .ok (.goto 6, 3) := by decide +kernel
theorem d_Lw_formula_11 : decode method_4_code 11 = .ok (.astore_n 2, 1) := by decide +kernel
theorem d_Lw_formula_12 : decode method_4_code 12 = .ok (.iconst 1, 1) := by decide +kernel
theorem d_Lw_formula_13 : decode method_4_code 13 = .ok (.ireturn, 1) := by decide +kernel
theorem d_Lw_formula_14 : decode method_4_code 14 = .ok (.iconst 0, 1) := by decide +kernel
theorem d_Lw_formula_15 : decode method_4_code 15 = .ok (.ireturn, 1) := by decide +kernel
theorem d_Lw_states_0 : decode method_5_code 0 = .ok (.aload_n 1, 1) := by decide +kernel
theorem d_Lw_states_1 : decode method_5_code 1 = .ok (.iconst 0, 1) := by decide +kernel
theorem d_Lw_states_2 : decode method_5_code 2 = .ok (.aload_n 0, 1) := by decide +kernel
theorem d_Lw_states_3 : decode method_5_code 3 = .ok (.invokevirtual 19, 3) := by decide +kernel
theorem d_Lw_states_6 : decode method_5_code 6 = .ok (.i2l, 1) := by decide +kernel
theorem d_Lw_states_7 : decode method_5_code 7 = .ok (.lastore, 1) := by decide +kernel
theorem d_Lw_states_8 : decode method_5_code 8 = .ok (.goto 6, 3) := by decide +kernel
theorem d_Lw_states_11 : decode method_5_code 11 = .ok (.astore_n 2, 1) := by decide +kernel
theorem d_Lw_states_12 : decode method_5_code 12 = .ok (.iconst 1, 1) := by decide +kernel
theorem d_Lw_states_13 : decode method_5_code 13 = .ok (.ireturn, 1) := by decide +kernel
theorem d_Lw_states_14 : decode method_5_code 14 = .ok (.iconst 0, 1) := by decide +kernel
theorem d_Lw_states_15 : decode method_5_code 15 = .ok (.ireturn, 1) := by decide +kernel
theorem d_Lw_isAt_0 : decode method_6_code 0 = .ok (.aload_n 2, 1) := by decide +kernel
theorem d_Lw_isAt_1 : decode method_6_code 1 = .ok (.iconst 0, 1) := by decide +kernel
theorem d_Lw_isAt_2 : decode method_6_code 2 = .ok (.aload_n 0, 1) := by decide +kernel
theorem d_Lw_isAt_3 : decode method_6_code 3 = .ok (.iload_n 1, 1) := by decide +kernel
theorem d_Lw_isAt_4 : decode method_6_code 4 = .ok (.invokevirtual 24, 3) := by decide +kernel
theorem d_Lw_isAt_7 : decode method_6_code 7 = .ok (.ifCond .eq 7, 3) := by decide +kernel
theorem d_Lw_isAt_10 : decode method_6_code 10 = .ok (.lconst 1, 1) := by decide +kernel
theorem d_Lw_isAt_11 : decode method_6_code 11 = .ok (.goto 4, 3) := by decide +kernel
theorem d_Lw_isAt_14 : decode method_6_code 14 = .ok (.lconst 0, 1) := by decide +kernel
theorem d_Lw_isAt_15 : decode method_6_code 15 = .ok (.lastore, 1) := by decide +kernel
theorem d_Lw_isAt_16 : decode method_6_code 16 = .ok (.goto 9, 3) := by decide +kernel
theorem d_Lw_isAt_19 : decode method_6_code 19 = .ok (.astore_n 3, 1) := by decide +kernel
theorem d_Lw_isAt_20 : decode method_6_code 20 = .ok (.iconst 1, 1) := by decide +kernel
theorem d_Lw_isAt_21 : decode method_6_code 21 = .ok (.ireturn, 1) := by decide +kernel
theorem d_Lw_isAt_22 : decode method_6_code 22 = .ok (.astore_n 3, 1) := by decide +kernel
theorem d_Lw_isAt_23 : decode method_6_code 23 = .ok (.iconst 2, 1) := by decide +kernel
theorem d_Lw_isAt_24 : decode method_6_code 24 = .ok (.ireturn, 1) := by decide +kernel
theorem d_Lw_isAt_25 : decode method_6_code 25 = .ok (.iconst 0, 1) := by decide +kernel
theorem d_Lw_isAt_26 : decode method_6_code 26 = .ok (.ireturn, 1) := by decide +kernel
theorem d_Lw_leads_0 : decode method_7_code 0 = .ok (.aload_n 3, 1) := by decide +kernel
theorem d_Lw_leads_1 : decode method_7_code 1 = .ok (.iconst 0, 1) := by decide +kernel
theorem d_Lw_leads_2 : decode method_7_code 2 = .ok (.aload_n 0, 1) := by decide +kernel
theorem d_Lw_leads_3 : decode method_7_code 3 = .ok (.iload_n 1, 1) := by decide +kernel
theorem d_Lw_leads_4 : decode method_7_code 4 = .ok (.iload_n 2, 1) := by decide +kernel
theorem d_Lw_leads_5 : decode method_7_code 5 = .ok (.invokevirtual 29, 3) := by decide +kernel
theorem d_Lw_leads_8 : decode method_7_code 8 = .ok (.ifCond .eq 7, 3) := by decide +kernel
theorem d_Lw_leads_11 : decode method_7_code 11 = .ok (.lconst 1, 1) := by decide +kernel
theorem d_Lw_leads_12 : decode method_7_code 12 = .ok (.goto 4, 3) := by decide +kernel
theorem d_Lw_leads_15 : decode method_7_code 15 = .ok (.lconst 0, 1) := by decide +kernel
theorem d_Lw_leads_16 : decode method_7_code 16 = .ok (.lastore, 1) := by decide +kernel
theorem d_Lw_leads_17 : decode method_7_code 17 = .ok (.goto 11, 3) := by decide +kernel
theorem d_Lw_leads_20 : decode method_7_code 20 = .ok (.astore 4, 2) := by decide +kernel
theorem d_Lw_leads_22 : decode method_7_code 22 = .ok (.iconst 1, 1) := by decide +kernel
theorem d_Lw_leads_23 : decode method_7_code 23 = .ok (.ireturn, 1) := by decide +kernel
theorem d_Lw_leads_24 : decode method_7_code 24 = .ok (.astore 4, 2) := by decide +kernel
theorem d_Lw_leads_26 : decode method_7_code 26 = .ok (.iconst 2, 1) := by decide +kernel
theorem d_Lw_leads_27 : decode method_7_code 27 = .ok (.ireturn, 1) := by decide +kernel
theorem d_Lw_leads_28 : decode method_7_code 28 = .ok (.iconst 0, 1) := by decide +kernel
theorem d_Lw_leads_29 : decode method_7_code 29 = .ok (.ireturn, 1) := by decide +kernel
theorem d_Lw_lasts_0 : decode method_8_code 0 = .ok (.aload_n 2, 1) := by decide +kernel
theorem d_Lw_lasts_1 : decode method_8_code 1 = .ok (.iconst 0, 1) := by decide +kernel
theorem d_Lw_lasts_2 : decode method_8_code 2 = .ok (.aload_n 0, 1) := by decide +kernel
theorem d_Lw_lasts_3 : decode method_8_code 3 = .ok (.iload_n 1, 1) := by decide +kernel
theorem d_Lw_lasts_4 : decode method_8_code 4 = .ok (.invokevirtual 33, 3) := by decide +kernel
theorem d_Lw_lasts_7 : decode method_8_code 7 = .ok (.ifCond .eq 7, 3) := by decide +kernel
theorem d_Lw_lasts_10 : decode method_8_code 10 = .ok (.lconst 1, 1) := by decide +kernel
theorem d_Lw_lasts_11 : decode method_8_code 11 = .ok (.goto 4, 3) := by decide +kernel
theorem d_Lw_lasts_14 : decode method_8_code 14 = .ok (.lconst 0, 1) := by decide +kernel
theorem d_Lw_lasts_15 : decode method_8_code 15 = .ok (.lastore, 1) := by decide +kernel
theorem d_Lw_lasts_16 : decode method_8_code 16 = .ok (.goto 9, 3) := by decide +kernel
theorem d_Lw_lasts_19 : decode method_8_code 19 = .ok (.astore_n 3, 1) := by decide +kernel
end
section
theorem d_Lw_lasts_20 : decode method_8_code 20 = .ok (.iconst 1, 1) := by decide +kernel
theorem d_Lw_lasts_21 : decode method_8_code 21 = .ok (.ireturn, 1) := by decide +kernel
theorem d_Lw_lasts_22 : decode method_8_code 22 = .ok (.astore_n 3, 1) := by decide +kernel
theorem d_Lw_lasts_23 : decode method_8_code 23 = .ok (.iconst 2, 1) := by decide +kernel
theorem d_Lw_lasts_24 : decode method_8_code 24 = .ok (.ireturn, 1) := by decide +kernel
theorem d_Lw_lasts_25 : decode method_8_code 25 = .ok (.iconst 0, 1) := by decide +kernel
theorem d_Lw_lasts_26 : decode method_8_code 26 = .ok (.ireturn, 1) := by decide +kernel
theorem d_Lw_lasting_0 : decode method_9_code 0 = .ok (.aload_n 1, 1) := by decide +kernel
theorem d_Lw_lasting_1 : decode method_9_code 1 = .ok (.iconst 0, 1) := by decide +kernel
theorem d_Lw_lasting_2 : decode method_9_code 2 = .ok (.aload_n 0, 1) := by decide +kernel
theorem d_Lw_lasting_3 : decode method_9_code 3 = .ok (.invokevirtual 36, 3) := by decide +kernel
theorem d_Lw_lasting_6 : decode method_9_code 6 = .ok (.i2l, 1) := by decide +kernel
theorem d_Lw_lasting_7 : decode method_9_code 7 = .ok (.lastore, 1) := by decide +kernel
theorem d_Lw_lasting_8 : decode method_9_code 8 = .ok (.goto 6, 3) := by decide +kernel
theorem d_Lw_lasting_11 : decode method_9_code 11 = .ok (.astore_n 2, 1) := by decide +kernel
theorem d_Lw_lasting_12 : decode method_9_code 12 = .ok (.iconst 1, 1) := by decide +kernel
theorem d_Lw_lasting_13 : decode method_9_code 13 = .ok (.ireturn, 1) := by decide +kernel
theorem d_Lw_lasting_14 : decode method_9_code 14 = .ok (.iconst 0, 1) := by decide +kernel
theorem d_Lw_lasting_15 : decode method_9_code 15 = .ok (.ireturn, 1) := by decide +kernel
theorem d_Lw_promises_0 : decode method_10_code 0 = .ok (.aload_n 1, 1) := by decide +kernel
theorem d_Lw_promises_1 : decode method_10_code 1 = .ok (.iconst 0, 1) := by decide +kernel
theorem d_Lw_promises_2 : decode method_10_code 2 = .ok (.aload_n 0, 1) := by decide +kernel
theorem d_Lw_promises_3 : decode method_10_code 3 = .ok (.invokevirtual 39, 3) := by decide +kernel
theorem d_Lw_promises_6 : decode method_10_code 6 = .ok (.i2l, 1) := by decide +kernel
theorem d_Lw_promises_7 : decode method_10_code 7 = .ok (.lastore, 1) := by decide +kernel
theorem d_Lw_promises_8 : decode method_10_code 8 = .ok (.goto 6, 3) := by decide +kernel
theorem d_Lw_promises_11 : decode method_10_code 11 = .ok (.astore_n 2, 1) := by decide +kernel
theorem d_Lw_promises_12 : decode method_10_code 12 = .ok (.iconst 1, 1) := by decide +kernel
theorem d_Lw_promises_13 : decode method_10_code 13 = .ok (.ireturn, 1) := by decide +kernel
theorem d_Lw_promises_14 : decode method_10_code 14 = .ok (.iconst 0, 1) := by decide +kernel
theorem d_Lw_promises_15 : decode method_10_code 15 = .ok (.ireturn, 1) := by decide +kernel
theorem d_Lw_can_0 : decode method_11_code 0 = .ok (.aload_n 1, 1) := by decide +kernel
theorem d_Lw_can_1 : decode method_11_code 1 = .ok (.iconst 0, 1) := by decide +kernel
theorem d_Lw_can_2 : decode method_11_code 2 = .ok (.aload_n 0, 1) := by decide +kernel
theorem d_Lw_can_3 : decode method_11_code 3 = .ok (.invokevirtual 42, 3) := by decide +kernel
theorem d_Lw_can_6 : decode method_11_code 6 = .ok (.ifCond .eq 7, 3) := by decide +kernel
theorem d_Lw_can_9 : decode method_11_code 9 = .ok (.lconst 1, 1) := by decide +kernel
theorem d_Lw_can_10 : decode method_11_code 10 = .ok (.goto 4, 3) := by decide +kernel
theorem d_Lw_can_13 : decode method_11_code 13 = .ok (.lconst 0, 1) := by decide +kernel
theorem d_Lw_can_14 : decode method_11_code 14 = .ok (.lastore, 1) := by decide +kernel
theorem d_Lw_can_15 : decode method_11_code 15 = .ok (.goto 6, 3) := by decide +kernel
theorem d_Lw_can_18 : decode method_11_code 18 = .ok (.astore_n 2, 1) := by decide +kernel
theorem d_Lw_can_19 : decode method_11_code 19 = .ok (.iconst 1, 1) := by decide +kernel
theorem d_Lw_can_20 : decode method_11_code 20 = .ok (.ireturn, 1) := by decide +kernel
theorem d_Lw_can_21 : decode method_11_code 21 = .ok (.iconst 0, 1) := by decide +kernel
theorem d_Lw_can_22 : decode method_11_code 22 = .ok (.ireturn, 1) := by decide +kernel
theorem d_Lw_stem_0 : decode method_12_code 0 = .ok (.aload_n 1, 1) := by decide +kernel
theorem d_Lw_stem_1 : decode method_12_code 1 = .ok (.iconst 0, 1) := by decide +kernel
theorem d_Lw_stem_2 : decode method_12_code 2 = .ok (.aload_n 0, 1) := by decide +kernel
theorem d_Lw_stem_3 : decode method_12_code 3 = .ok (.invokevirtual 46, 3) := by decide +kernel
theorem d_Lw_stem_6 : decode method_12_code 6 = .ok (.i2l, 1) := by decide +kernel
theorem d_Lw_stem_7 : decode method_12_code 7 = .ok (.lastore, 1) := by decide +kernel
theorem d_Lw_stem_8 : decode method_12_code 8 = .ok (.goto 6, 3) := by decide +kernel
theorem d_Lw_stem_11 : decode method_12_code 11 = .ok (.astore_n 2, 1) := by decide +kernel
theorem d_Lw_stem_12 : decode method_12_code 12 = .ok (.iconst 1, 1) := by decide +kernel
theorem d_Lw_stem_13 : decode method_12_code 13 = .ok (.ireturn, 1) := by decide +kernel
theorem d_Lw_stem_14 : decode method_12_code 14 = .ok (.iconst 0, 1) := by decide +kernel
theorem d_Lw_stem_15 : decode method_12_code 15 = .ok (.ireturn, 1) := by decide +kernel
theorem d_Lw_loop_0 : decode method_13_code 0 = .ok (.aload_n 1, 1) := by decide +kernel
theorem d_Lw_loop_1 : decode method_13_code 1 = .ok (.iconst 0, 1) := by decide +kernel
theorem d_Lw_loop_2 : decode method_13_code 2 = .ok (.aload_n 0, 1) := by decide +kernel
theorem d_Lw_loop_3 : decode method_13_code 3 = .ok (.invokevirtual 49, 3) := by decide +kernel
theorem d_Lw_loop_6 : decode method_13_code 6 = .ok (.i2l, 1) := by decide +kernel
theorem d_Lw_loop_7 : decode method_13_code 7 = .ok (.lastore, 1) := by decide +kernel
theorem d_Lw_loop_8 : decode method_13_code 8 = .ok (.goto 6, 3) := by decide +kernel
theorem d_Lw_loop_11 : decode method_13_code 11 = .ok (.astore_n 2, 1) := by decide +kernel
theorem d_Lw_loop_12 : decode method_13_code 12 = .ok (.iconst 1, 1) := by decide +kernel
theorem d_Lw_loop_13 : decode method_13_code 13 = .ok (.ireturn, 1) := by decide +kernel
theorem d_Lw_loop_14 : decode method_13_code 14 = .ok (.iconst 0, 1) := by decide +kernel
theorem d_Lw_loop_15 : decode method_13_code 15 = .ok (.ireturn, 1) := by decide +kernel
theorem d_Lw_step_0 : decode method_14_code 0 = .ok (.aload_n 2, 1) := by decide +kernel
theorem d_Lw_step_1 : decode method_14_code 1 = .ok (.iconst 0, 1) := by decide +kernel
theorem d_Lw_step_2 : decode method_14_code 2 = .ok (.aload_n 0, 1) := by decide +kernel
theorem d_Lw_step_3 : decode method_14_code 3 = .ok (.iload_n 1, 1) := by decide +kernel
theorem d_Lw_step_4 : decode method_14_code 4 = .ok (.invokevirtual 52, 3) := by decide +kernel
theorem d_Lw_step_7 : decode method_14_code 7 = .ok (.i2l, 1) := by decide +kernel
theorem d_Lw_step_8 : decode method_14_code 8 = .ok (.lastore, 1) := by decide +kernel
theorem d_Lw_step_9 : decode method_14_code 9 = .ok (.goto 9, 3) := by decide +kernel
theorem d_Lw_step_12 : decode method_14_code 12 = .ok (.astore_n 3, 1) := by decide +kernel
theorem d_Lw_step_13 : decode method_14_code 13 = .ok (.iconst 1, 1) := by decide +kernel
theorem d_Lw_step_14 : decode method_14_code 14 = .ok (.ireturn, 1) := by decide +kernel
theorem d_Lw_step_15 : decode method_14_code 15 = .ok (.astore_n 3, 1) := by decide +kernel
theorem d_Lw_step_16 : decode method_14_code 16 = .ok (.iconst 2, 1) := by decide +kernel
theorem d_Lw_step_17 : decode method_14_code 17 = .ok (.ireturn, 1) := by decide +kernel
theorem d_Lw_step_18 : decode method_14_code 18 = .ok (.iconst 0, 1) := by decide +kernel
theorem d_Lw_step_19 : decode method_14_code 19 = .ok (.ireturn, 1) := by decide +kernel
theorem d_Lw_shape_0 : decode method_15_code 0 = .ok (.aload_n 0, 1) := by decide +kernel
theorem d_Lw_shape_1 : decode method_15_code 1 = .ok (.iload_n 1, 1) := by decide +kernel
theorem d_Lw_shape_2 : decode method_15_code 2 = .ok (.iload_n 2, 1) := by decide +kernel
theorem d_Lw_shape_3 : decode method_15_code 3 = .ok (.invokevirtual 56, 3) := by decide +kernel
theorem d_Lw_shape_6 : decode method_15_code 6 = .ok (.goto 6, 3) := by decide +kernel
theorem d_Lw_shape_9 : decode method_15_code 9 = .ok (.astore_n 3, 1) := by decide +kernel
theorem d_Lw_shape_10 : decode method_15_code 10 = .ok (.iconst 1, 1) := by decide +kernel
theorem d_Lw_shape_11 : decode method_15_code 11 = .ok (.ireturn, 1) := by decide +kernel
theorem d_Lw_shape_12 : decode method_15_code 12 = .ok (.iconst 0, 1) := by decide +kernel
theorem d_Lw_shape_13 : decode method_15_code 13 = .ok (.ireturn, 1) := by decide +kernel
theorem d_Lw_set_0 : decode method_16_code 0 = .ok (.aload_n 3, 1) := by decide +kernel
theorem d_Lw_set_1 : decode method_16_code 1 = .ok (.iconst 0, 1) := by decide +kernel
theorem d_Lw_set_2 : decode method_16_code 2 = .ok (.aload_n 0, 1) := by decide +kernel
theorem d_Lw_set_3 : decode method_16_code 3 = .ok (.iload_n 1, 1) := by decide +kernel
theorem d_Lw_set_4 : decode method_16_code 4 = .ok (.iload_n 2, 1) := by decide +kernel
theorem d_Lw_set_5 : decode method_16_code 5 = .ok (.invokevirtual 60, 3) := by decide +kernel
theorem d_Lw_set_8 : decode method_16_code 8 = .ok (.i2l, 1) := by decide +kernel
theorem d_Lw_set_9 : decode method_16_code 9 = .ok (.lastore, 1) := by decide +kernel
theorem d_Lw_set_10 : decode method_16_code 10 = .ok (.goto 7, 3) := by decide +kernel
theorem d_Lw_set_13 : decode method_16_code 13 = .ok (.astore 4, 2) := by decide +kernel
theorem d_Lw_set_15 : decode method_16_code 15 = .ok (.iconst 1, 1) := by decide +kernel
theorem d_Lw_set_16 : decode method_16_code 16 = .ok (.ireturn, 1) := by decide +kernel
theorem d_Lw_set_17 : decode method_16_code 17 = .ok (.iconst 0, 1) := by decide +kernel
theorem d_Lw_set_18 : decode method_16_code 18 = .ok (.ireturn, 1) := by decide +kernel
theorem d_Lw_adopt_0 : decode method_17_code 0 = .ok (.aload_n 1, 1) := by decide +kernel
theorem d_Lw_adopt_1 : decode method_17_code 1 = .ok (.iconst 0, 1) := by decide +kernel
theorem d_Lw_adopt_2 : decode method_17_code 2 = .ok (.aload_n 0, 1) := by decide +kernel
theorem d_Lw_adopt_3 : decode method_17_code 3 = .ok (.invokevirtual 64, 3) := by decide +kernel
theorem d_Lw_adopt_6 : decode method_17_code 6 = .ok (.ifCond .eq 7, 3) := by decide +kernel
theorem d_Lw_adopt_9 : decode method_17_code 9 = .ok (.lconst 1, 1) := by decide +kernel
theorem d_Lw_adopt_10 : decode method_17_code 10 = .ok (.goto 4, 3) := by decide +kernel
theorem d_Lw_adopt_13 : decode method_17_code 13 = .ok (.lconst 0, 1) := by decide +kernel
theorem d_Lw_adopt_14 : decode method_17_code 14 = .ok (.lastore, 1) := by decide +kernel
theorem d_Lw_adopt_15 : decode method_17_code 15 = .ok (.goto 6, 3) := by decide +kernel
theorem d_Lw_adopt_18 : decode method_17_code 18 = .ok (.astore_n 2, 1) := by decide +kernel
theorem d_Lw_adopt_19 : decode method_17_code 19 = .ok (.iconst 1, 1) := by decide +kernel
theorem d_Lw_adopt_20 : decode method_17_code 20 = .ok (.ireturn, 1) := by decide +kernel
theorem d_Lw_adopt_21 : decode method_17_code 21 = .ok (.iconst 0, 1) := by decide +kernel
theorem d_Lw_adopt_22 : decode method_17_code 22 = .ok (.ireturn, 1) := by decide +kernel
theorem d_Lw_letter_0 : decode method_18_code 0 = .ok (.aload_n 2, 1) := by decide +kernel
theorem d_Lw_letter_1 : decode method_18_code 1 = .ok (.iconst 0, 1) := by decide +kernel
theorem d_Lw_letter_2 : decode method_18_code 2 = .ok (.aload_n 0, 1) := by decide +kernel
theorem d_Lw_letter_3 : decode method_18_code 3 = .ok (.iload_n 1, 1) := by decide +kernel
theorem d_Lw_letter_4 : decode method_18_code 4 = .ok (.invokevirtual 67, 3) := by decide +kernel
theorem d_Lw_letter_7 : decode method_18_code 7 = .ok (.i2l, 1) := by decide +kernel
theorem d_Lw_letter_8 : decode method_18_code 8 = .ok (.lastore, 1) := by decide +kernel
theorem d_Lw_letter_9 : decode method_18_code 9 = .ok (.goto 6, 3) := by decide +kernel
theorem d_Lw_letter_12 : decode method_18_code 12 = .ok (.astore_n 3, 1) := by decide +kernel
theorem d_Lw_letter_13 : decode method_18_code 13 = .ok (.iconst 1, 1) := by decide +kernel
theorem d_Lw_letter_14 : decode method_18_code 14 = .ok (.ireturn, 1) := by decide +kernel
theorem d_Lw_letter_15 : decode method_18_code 15 = .ok (.iconst 0, 1) := by decide +kernel
theorem d_Lw_letter_16 : decode method_18_code 16 = .ok (.ireturn, 1) := by decide +kernel
theorem d_Lw_holds_0 : decode method_19_code 0 = .ok (.aload_n 2, 1) := by decide +kernel
theorem d_Lw_holds_1 : decode method_19_code 1 = .ok (.iconst 0, 1) := by decide +kernel
theorem d_Lw_holds_2 : decode method_19_code 2 = .ok (.aload_n 0, 1) := by decide +kernel
theorem d_Lw_holds_3 : decode method_19_code 3 = .ok (.iload_n 1, 1) := by decide +kernel
theorem d_Lw_holds_4 : decode method_19_code 4 = .ok (.invokevirtual 70, 3) := by decide +kernel
theorem d_Lw_holds_7 : decode method_19_code 7 = .ok (.ifCond .eq 7, 3) := by decide +kernel
theorem d_Lw_holds_10 : decode method_19_code 10 = .ok (.lconst 1, 1) := by decide +kernel
theorem d_Lw_holds_11 : decode method_19_code 11 = .ok (.goto 4, 3) := by decide +kernel
theorem d_Lw_holds_14 : decode method_19_code 14 = .ok (.lconst 0, 1) := by decide +kernel
theorem d_Lw_holds_15 : decode method_19_code 15 = .ok (.lastore, 1) := by decide +kernel
theorem d_Lw_holds_16 : decode method_19_code 16 = .ok (.goto 9, 3) := by decide +kernel
theorem d_Lw_holds_19 : decode method_19_code 19 = .ok (.astore_n 3, 1) := by decide +kernel
theorem d_Lw_holds_20 : decode method_19_code 20 = .ok (.iconst 1, 1) := by decide +kernel
theorem d_Lw_holds_21 : decode method_19_code 21 = .ok (.ireturn, 1) := by decide +kernel
theorem d_Lw_holds_22 : decode method_19_code 22 = .ok (.astore_n 3, 1) := by decide +kernel
theorem d_Lw_holds_23 : decode method_19_code 23 = .ok (.iconst 2, 1) := by decide +kernel
theorem d_Lw_holds_24 : decode method_19_code 24 = .ok (.ireturn, 1) := by decide +kernel
theorem d_Lw_holds_25 : decode method_19_code 25 = .ok (.iconst 0, 1) := by decide +kernel
theorem d_Lw_holds_26 : decode method_19_code 26 = .ok (.ireturn, 1) := by decide +kernel
theorem d_Lw_law_0 : decode code 0 = .ok (.new 8, 3) := by decide +kernel
theorem d_Lw_law_3 : decode code 3 = .ok (.dup, 1) := by decide +kernel
theorem d_Lw_law_4 : decode code 4 = .ok (.invokespecial 73, 3) := by decide +kernel
theorem d_Lw_law_7 : decode code 7 = .ok (.astore_n 1, 1) := by decide +kernel
theorem d_Lw_law_8 : decode code 8 = .ok (.new 74, 3) := by decide +kernel
theorem d_Lw_law_11 : decode code 11 = .ok (.dup, 1) := by decide +kernel
theorem d_Lw_law_12 : decode code 12 = .ok (.invokespecial 76, 3) := by decide +kernel
theorem d_Lw_law_15 : decode code 15 = .ok (.astore_n 2, 1) := by decide +kernel
theorem d_Lw_law_16 : decode code 16 = .ok (.iconst 1, 1) := by decide +kernel
theorem d_Lw_law_17 : decode code 17 = .ok (.newarray .long, 2) := by decide +kernel
theorem d_Lw_law_19 : decode code 19 = .ok (.astore_n 3, 1) := by decide +kernel
theorem d_Lw_law_20 : decode code 20 = .ok (.iconst 0, 1) := by decide +kernel
theorem d_Lw_law_21 : decode code 21 = .ok (.istore 4, 2) := by decide +kernel
theorem d_Lw_law_23 : decode code 23 = .ok (.iload 4, 2) := by decide +kernel
theorem d_Lw_law_25 : decode code 25 = .ok (.aload_n 0, 1) := by decide +kernel
theorem d_Lw_law_26 : decode code 26 = .ok (.arraylength, 1) := by decide +kernel
theorem d_Lw_law_27 : decode code 27 = .ok (.iconst 3, 1) := by decide +kernel
theorem d_Lw_law_28 : decode code 28 = .ok (.isub, 1) := by decide +kernel
theorem d_Lw_law_29 : decode code 29 = .ok (.if_icmp .gt 1018, 3) := by decide +kernel
theorem d_Lw_law_32 : decode code 32 = .ok (.aload_n 0, 1) := by decide +kernel
theorem d_Lw_law_33 : decode code 33 = .ok (.iload 4, 2) := by decide +kernel
theorem d_Lw_law_35 : decode code 35 = .ok (.iaload, 1) := by decide +kernel
theorem d_Lw_law_36 : decode code 36 = .ok (.bipush 31, 2) := by decide +kernel
theorem d_Lw_law_38 : decode code 38 = .ok (.iand, 1) := by decide +kernel
theorem d_Lw_law_39 : decode code 39 = .ok (.tableswitch 1002 0 16 #[81, 144, 188, 232, 295, 370, 433, 477, 521, 572, 616, 660, 716, 764, 832, 883, 939], 81) := by decide +kernel
theorem d_Lw_law_120 : decode code 120 = .ok (.aload_n 1, 1) := by decide +kernel
theorem d_Lw_law_121 : decode code 121 = .ok (.aload_n 0, 1) := by decide +kernel
theorem d_Lw_law_122 : decode code 122 = .ok (.iload 4, 2) := by decide +kernel
theorem d_Lw_law_124 : decode code 124 = .ok (.iconst 1, 1) := by decide +kernel
theorem d_Lw_law_125 : decode code 125 = .ok (.iadd, 1) := by decide +kernel
theorem d_Lw_law_126 : decode code 126 = .ok (.iaload, 1) := by decide +kernel
theorem d_Lw_law_127 : decode code 127 = .ok (.aload_n 3, 1) := by decide +kernel
theorem d_Lw_law_128 : decode code 128 = .ok (.invokestatic 77, 3) := by decide +kernel
theorem d_Lw_law_131 : decode code 131 = .ok (.istore 5, 2) := by decide +kernel
theorem d_Lw_law_133 : decode code 133 = .ok (.aload_n 2, 1) := by decide +kernel
theorem d_Lw_law_134 : decode code 134 = .ok (.aload_n 0, 1) := by decide +kernel
theorem d_Lw_law_135 : decode code 135 = .ok (.iload 4, 2) := by decide +kernel
theorem d_Lw_law_137 : decode code 137 = .ok (.iconst 1, 1) := by decide +kernel
theorem d_Lw_law_138 : decode code 138 = .ok (.iadd, 1) := by decide +kernel
theorem d_Lw_law_139 : decode code 139 = .ok (.iaload, 1) := by decide +kernel
theorem d_Lw_law_140 : decode code 140 = .ok (.invokevirtual 82, 3) := by decide +kernel
theorem d_Lw_law_143 : decode code 143 = .ok (.istore 6, 2) := by decide +kernel
theorem d_Lw_law_145 : decode code 145 = .ok (.aload_n 2, 1) := by decide +kernel
theorem d_Lw_law_146 : decode code 146 = .ok (.invokevirtual 83, 3) := by decide +kernel
theorem d_Lw_law_149 : decode code 149 = .ok (.iload 5, 2) := by decide +kernel
theorem d_Lw_law_151 : decode code 151 = .ok (.if_icmp .eq 5, 3) := by decide +kernel
theorem d_Lw_law_154 : decode code 154 = .ok (.iconst 0, 1) := by decide +kernel
theorem d_Lw_law_155 : decode code 155 = .ok (.ireturn, 1) := by decide +kernel
theorem d_Lw_law_156 : decode code 156 = .ok (.iload 5, 2) := by decide +kernel
theorem d_Lw_law_158 : decode code 158 = .ok (.ifCond .ne 22, 3) := by decide +kernel
theorem d_Lw_law_161 : decode code 161 = .ok (.aload_n 3, 1) := by decide +kernel
theorem d_Lw_law_162 : decode code 162 = .ok (.iconst 0, 1) := by decide +kernel
theorem d_Lw_law_163 : decode code 163 = .ok (.laload, 1) := by decide +kernel
theorem d_Lw_law_164 : decode code 164 = .ok (.iload 6, 2) := by decide +kernel
theorem d_Lw_law_166 : decode code 166 = .ok (.ifCond .eq 7, 3) := by decide +kernel
theorem d_Lw_law_169 : decode code 169 = .ok (.lconst 1, 1) := by decide +kernel
theorem d_Lw_law_170 : decode code 170 = .ok (.goto 4, 3) := by decide +kernel
theorem d_Lw_law_173 : decode code 173 = .ok (.lconst 0, 1) := by decide +kernel
theorem d_Lw_law_174 : decode code 174 = .ok (.lcmp, 1) := by decide +kernel
theorem d_Lw_law_175 : decode code 175 = .ok (.ifCond .eq 5, 3) := by decide +kernel
theorem d_Lw_law_178 : decode code 178 = .ok (.iconst 0, 1) := by decide +kernel
theorem d_Lw_law_179 : decode code 179 = .ok (.ireturn, 1) := by decide +kernel
theorem d_Lw_law_180 : decode code 180 = .ok (.goto 861, 3) := by decide +kernel
theorem d_Lw_law_183 : decode code 183 = .ok (.aload_n 1, 1) := by decide +kernel
theorem d_Lw_law_184 : decode code 184 = .ok (.aload_n 3, 1) := by decide +kernel
theorem d_Lw_law_185 : decode code 185 = .ok (.invokestatic 86, 3) := by decide +kernel
theorem d_Lw_law_188 : decode code 188 = .ok (.istore 5, 2) := by decide +kernel
theorem d_Lw_law_190 : decode code 190 = .ok (.aload_n 2, 1) := by decide +kernel
theorem d_Lw_law_191 : decode code 191 = .ok (.invokevirtual 89, 3) := by decide +kernel
theorem d_Lw_law_194 : decode code 194 = .ok (.istore 6, 2) := by decide +kernel
theorem d_Lw_law_196 : decode code 196 = .ok (.aload_n 2, 1) := by decide +kernel
theorem d_Lw_law_197 : decode code 197 = .ok (.invokevirtual 83, 3) := by decide +kernel
theorem d_Lw_law_200 : decode code 200 = .ok (.iload 5, 2) := by decide +kernel
theorem d_Lw_law_202 : decode code 202 = .ok (.if_icmp .eq 5, 3) := by decide +kernel
theorem d_Lw_law_205 : decode code 205 = .ok (.iconst 0, 1) := by decide +kernel
theorem d_Lw_law_206 : decode code 206 = .ok (.ireturn, 1) := by decide +kernel
theorem d_Lw_law_207 : decode code 207 = .ok (.iload 5, 2) := by decide +kernel
theorem d_Lw_law_209 : decode code 209 = .ok (.ifCond .ne 15, 3) := by decide +kernel
theorem d_Lw_law_212 : decode code 212 = .ok (.aload_n 3, 1) := by decide +kernel
theorem d_Lw_law_213 : decode code 213 = .ok (.iconst 0, 1) := by decide +kernel
theorem d_Lw_law_214 : decode code 214 = .ok (.laload, 1) := by decide +kernel
theorem d_Lw_law_215 : decode code 215 = .ok (.iload 6, 2) := by decide +kernel
theorem d_Lw_law_217 : decode code 217 = .ok (.i2l, 1) := by decide +kernel
theorem d_Lw_law_218 : decode code 218 = .ok (.lcmp, 1) := by decide +kernel
theorem d_Lw_law_219 : decode code 219 = .ok (.ifCond .eq 5, 3) := by decide +kernel
theorem d_Lw_law_222 : decode code 222 = .ok (.iconst 0, 1) := by decide +kernel
theorem d_Lw_law_223 : decode code 223 = .ok (.ireturn, 1) := by decide +kernel
theorem d_Lw_law_224 : decode code 224 = .ok (.goto 817, 3) := by decide +kernel
theorem d_Lw_law_227 : decode code 227 = .ok (.aload_n 1, 1) := by decide +kernel
theorem d_Lw_law_228 : decode code 228 = .ok (.aload_n 3, 1) := by decide +kernel
theorem d_Lw_law_229 : decode code 229 = .ok (.invokestatic 90, 3) := by decide +kernel
theorem d_Lw_law_232 : decode code 232 = .ok (.istore 5, 2) := by decide +kernel
theorem d_Lw_law_234 : decode code 234 = .ok (.aload_n 2, 1) := by decide +kernel
theorem d_Lw_law_235 : decode code 235 = .ok (.invokevirtual 92, 3) := by decide +kernel
theorem d_Lw_law_238 : decode code 238 = .ok (.istore 6, 2) := by decide +kernel
theorem d_Lw_law_240 : decode code 240 = .ok (.aload_n 2, 1) := by decide +kernel
theorem d_Lw_law_241 : decode code 241 = .ok (.invokevirtual 83, 3) := by decide +kernel
theorem d_Lw_law_244 : decode code 244 = .ok (.iload 5, 2) := by decide +kernel
theorem d_Lw_law_246 : decode code 246 = .ok (.if_icmp .eq 5, 3) := by decide +kernel
theorem d_Lw_law_249 : decode code 249 = .ok (.iconst 0, 1) := by decide +kernel
theorem d_Lw_law_250 : decode code 250 = .ok (.ireturn, 1) := by decide +kernel
theorem d_Lw_law_251 : decode code 251 = .ok (.iload 5, 2) := by decide +kernel
theorem d_Lw_law_253 : decode code 253 = .ok (.ifCond .ne 15, 3) := by decide +kernel
theorem d_Lw_law_256 : decode code 256 = .ok (.aload_n 3, 1) := by decide +kernel
theorem d_Lw_law_257 : decode code 257 = .ok (.iconst 0, 1) := by decide +kernel
theorem d_Lw_law_258 : decode code 258 = .ok (.laload, 1) := by decide +kernel
theorem d_Lw_law_259 : decode code 259 = .ok (.iload 6, 2) := by decide +kernel
theorem d_Lw_law_261 : decode code 261 = .ok (.i2l, 1) := by decide +kernel
theorem d_Lw_law_262 : decode code 262 = .ok (.lcmp, 1) := by decide +kernel
theorem d_Lw_law_263 : decode code 263 = .ok (.ifCond .eq 5, 3) := by decide +kernel
theorem d_Lw_law_266 : decode code 266 = .ok (.iconst 0, 1) := by decide +kernel
theorem d_Lw_law_267 : decode code 267 = .ok (.ireturn, 1) := by decide +kernel
theorem d_Lw_law_268 : decode code 268 = .ok (.goto 773, 3) := by decide +kernel
theorem d_Lw_law_271 : decode code 271 = .ok (.aload_n 1, 1) := by decide +kernel
theorem d_Lw_law_272 : decode code 272 = .ok (.aload_n 0, 1) := by decide +kernel
theorem d_Lw_law_273 : decode code 273 = .ok (.iload 4, 2) := by decide +kernel
theorem d_Lw_law_275 : decode code 275 = .ok (.iconst 1, 1) := by decide +kernel
theorem d_Lw_law_276 : decode code 276 = .ok (.iadd, 1) := by decide +kernel
theorem d_Lw_law_277 : decode code 277 = .ok (.iaload, 1) := by decide +kernel
theorem d_Lw_law_278 : decode code 278 = .ok (.aload_n 3, 1) := by decide +kernel
theorem d_Lw_law_279 : decode code 279 = .ok (.invokestatic 93, 3) := by decide +kernel
theorem d_Lw_law_282 : decode code 282 = .ok (.istore 5, 2) := by decide +kernel
theorem d_Lw_law_284 : decode code 284 = .ok (.aload_n 2, 1) := by decide +kernel
theorem d_Lw_law_285 : decode code 285 = .ok (.aload_n 0, 1) := by decide +kernel
theorem d_Lw_law_286 : decode code 286 = .ok (.iload 4, 2) := by decide +kernel
theorem d_Lw_law_288 : decode code 288 = .ok (.iconst 1, 1) := by decide +kernel
theorem d_Lw_law_289 : decode code 289 = .ok (.iadd, 1) := by decide +kernel
theorem d_Lw_law_290 : decode code 290 = .ok (.iaload, 1) := by decide +kernel
theorem d_Lw_law_291 : decode code 291 = .ok (.invokevirtual 95, 3) := by decide +kernel
theorem d_Lw_law_294 : decode code 294 = .ok (.istore 6, 2) := by decide +kernel
theorem d_Lw_law_296 : decode code 296 = .ok (.aload_n 2, 1) := by decide +kernel
theorem d_Lw_law_297 : decode code 297 = .ok (.invokevirtual 83, 3) := by decide +kernel
theorem d_Lw_law_300 : decode code 300 = .ok (.iload 5, 2) := by decide +kernel
theorem d_Lw_law_302 : decode code 302 = .ok (.if_icmp .eq 5, 3) := by decide +kernel
theorem d_Lw_law_305 : decode code 305 = .ok (.iconst 0, 1) := by decide +kernel
theorem d_Lw_law_306 : decode code 306 = .ok (.ireturn, 1) := by decide +kernel
theorem d_Lw_law_307 : decode code 307 = .ok (.iload 5, 2) := by decide +kernel
theorem d_Lw_law_309 : decode code 309 = .ok (.ifCond .ne 22, 3) := by decide +kernel
theorem d_Lw_law_312 : decode code 312 = .ok (.aload_n 3, 1) := by decide +kernel
theorem d_Lw_law_313 : decode code 313 = .ok (.iconst 0, 1) := by decide +kernel
theorem d_Lw_law_314 : decode code 314 = .ok (.laload, 1) := by decide +kernel
theorem d_Lw_law_315 : decode code 315 = .ok (.iload 6, 2) := by decide +kernel
theorem d_Lw_law_317 : decode code 317 = .ok (.ifCond .eq 7, 3) := by decide +kernel
theorem d_Lw_law_320 : decode code 320 = .ok (.lconst 1, 1) := by decide +kernel
theorem d_Lw_law_321 : decode code 321 = .ok (.goto 4, 3) := by decide +kernel
theorem d_Lw_law_324 : decode code 324 = .ok (.lconst 0, 1) := by decide +kernel
theorem d_Lw_law_325 : decode code 325 = .ok (.lcmp, 1) := by decide +kernel
theorem d_Lw_law_326 : decode code 326 = .ok (.ifCond .eq 5, 3) := by decide +kernel
theorem d_Lw_law_329 : decode code 329 = .ok (.iconst 0, 1) := by decide +kernel
theorem d_Lw_law_330 : decode code 330 = .ok (.ireturn, 1) := by decide +kernel
theorem d_Lw_law_331 : decode code 331 = .ok (.goto 710, 3) := by decide +kernel
theorem d_Lw_law_334 : decode code 334 = .ok (.aload_n 1, 1) := by decide +kernel
theorem d_Lw_law_335 : decode code 335 = .ok (.aload_n 0, 1) := by decide +kernel
theorem d_Lw_law_336 : decode code 336 = .ok (.iload 4, 2) := by decide +kernel
theorem d_Lw_law_338 : decode code 338 = .ok (.iconst 1, 1) := by decide +kernel
theorem d_Lw_law_339 : decode code 339 = .ok (.iadd, 1) := by decide +kernel
theorem d_Lw_law_340 : decode code 340 = .ok (.iaload, 1) := by decide +kernel
theorem d_Lw_law_341 : decode code 341 = .ok (.aload_n 0, 1) := by decide +kernel
theorem d_Lw_law_342 : decode code 342 = .ok (.iload 4, 2) := by decide +kernel
theorem d_Lw_law_344 : decode code 344 = .ok (.iconst 2, 1) := by decide +kernel
theorem d_Lw_law_345 : decode code 345 = .ok (.iadd, 1) := by decide +kernel
theorem d_Lw_law_346 : decode code 346 = .ok (.iaload, 1) := by decide +kernel
theorem d_Lw_law_347 : decode code 347 = .ok (.aload_n 3, 1) := by decide +kernel
theorem d_Lw_law_348 : decode code 348 = .ok (.invokestatic 96, 3) := by decide +kernel
theorem d_Lw_law_351 : decode code 351 = .ok (.istore 5, 2) := by decide +kernel
theorem d_Lw_law_353 : decode code 353 = .ok (.aload_n 2, 1) := by decide +kernel
theorem d_Lw_law_354 : decode code 354 = .ok (.aload_n 0, 1) := by decide +kernel
theorem d_Lw_law_355 : decode code 355 = .ok (.iload 4, 2) := by decide +kernel
theorem d_Lw_law_357 : decode code 357 = .ok (.iconst 1, 1) := by decide +kernel
theorem d_Lw_law_358 : decode code 358 = .ok (.iadd, 1) := by decide +kernel
theorem d_Lw_law_359 : decode code 359 = .ok (.iaload, 1) := by decide +kernel
theorem d_Lw_law_360 : decode code 360 = .ok (.aload_n 0, 1) := by decide +kernel
theorem d_Lw_law_361 : decode code 361 = .ok (.iload 4, 2) := by decide +kernel
theorem d_Lw_law_363 : decode code 363 = .ok (.iconst 2, 1) := by decide +kernel
theorem d_Lw_law_364 : decode code 364 = .ok (.iadd, 1) := by decide +kernel
theorem d_Lw_law_365 : decode code 365 = .ok (.iaload, 1) := by decide +kernel
theorem d_Lw_law_366 : decode code 366 = .ok (.invokevirtual 99, 3) := by decide +kernel
theorem d_Lw_law_369 : decode code 369 = .ok (.istore 6, 2) := by decide +kernel
theorem d_Lw_law_371 : decode code 371 = .ok (.aload_n 2, 1) := by decide +kernel
theorem d_Lw_law_372 : decode code 372 = .ok (.invokevirtual 83, 3) := by decide +kernel
theorem d_Lw_law_375 : decode code 375 = .ok (.iload 5, 2) := by decide +kernel
theorem d_Lw_law_377 : decode code 377 = .ok (.if_icmp .eq 5, 3) := by decide +kernel
theorem d_Lw_law_380 : decode code 380 = .ok (.iconst 0, 1) := by decide +kernel
theorem d_Lw_law_381 : decode code 381 = .ok (.ireturn, 1) := by decide +kernel
theorem d_Lw_law_382 : decode code 382 = .ok (.iload 5, 2) := by decide +kernel
theorem d_Lw_law_384 : decode code 384 = .ok (.ifCond .ne 22, 3) := by decide +kernel
theorem d_Lw_law_387 : decode code 387 = .ok (.aload_n 3, 1) := by decide +kernel
theorem d_Lw_law_388 : decode code 388 = .ok (.iconst 0, 1) := by decide +kernel
theorem d_Lw_law_389 : decode code 389 = .ok (.laload, 1) := by decide +kernel
theorem d_Lw_law_390 : decode code 390 = .ok (.iload 6, 2) := by decide +kernel
theorem d_Lw_law_392 : decode code 392 = .ok (.ifCond .eq 7, 3) := by decide +kernel
theorem d_Lw_law_395 : decode code 395 = .ok (.lconst 1, 1) := by decide +kernel
theorem d_Lw_law_396 : decode code 396 = .ok (.goto 4, 3) := by decide +kernel
theorem d_Lw_law_399 : decode code 399 = .ok (.lconst 0, 1) := by decide +kernel
theorem d_Lw_law_400 : decode code 400 = .ok (.lcmp, 1) := by decide +kernel
theorem d_Lw_law_401 : decode code 401 = .ok (.ifCond .eq 5, 3) := by decide +kernel
theorem d_Lw_law_404 : decode code 404 = .ok (.iconst 0, 1) := by decide +kernel
theorem d_Lw_law_405 : decode code 405 = .ok (.ireturn, 1) := by decide +kernel
theorem d_Lw_law_406 : decode code 406 = .ok (.goto 635, 3) := by decide +kernel
theorem d_Lw_law_409 : decode code 409 = .ok (.aload_n 1, 1) := by decide +kernel
theorem d_Lw_law_410 : decode code 410 = .ok (.aload_n 0, 1) := by decide +kernel
theorem d_Lw_law_411 : decode code 411 = .ok (.iload 4, 2) := by decide +kernel
theorem d_Lw_law_413 : decode code 413 = .ok (.iconst 1, 1) := by decide +kernel
theorem d_Lw_law_414 : decode code 414 = .ok (.iadd, 1) := by decide +kernel
theorem d_Lw_law_415 : decode code 415 = .ok (.iaload, 1) := by decide +kernel
theorem d_Lw_law_416 : decode code 416 = .ok (.aload_n 3, 1) := by decide +kernel
theorem d_Lw_law_417 : decode code 417 = .ok (.invokestatic 100, 3) := by decide +kernel
theorem d_Lw_law_420 : decode code 420 = .ok (.istore 5, 2) := by decide +kernel
theorem d_Lw_law_422 : decode code 422 = .ok (.aload_n 2, 1) := by decide +kernel
theorem d_Lw_law_423 : decode code 423 = .ok (.aload_n 0, 1) := by decide +kernel
theorem d_Lw_law_424 : decode code 424 = .ok (.iload 4, 2) := by decide +kernel
theorem d_Lw_law_426 : decode code 426 = .ok (.iconst 1, 1) := by decide +kernel
theorem d_Lw_law_427 : decode code 427 = .ok (.iadd, 1) := by decide +kernel
theorem d_Lw_law_428 : decode code 428 = .ok (.iaload, 1) := by decide +kernel
theorem d_Lw_law_429 : decode code 429 = .ok (.invokevirtual 102, 3) := by decide +kernel
theorem d_Lw_law_432 : decode code 432 = .ok (.istore 6, 2) := by decide +kernel
theorem d_Lw_law_434 : decode code 434 = .ok (.aload_n 2, 1) := by decide +kernel
theorem d_Lw_law_435 : decode code 435 = .ok (.invokevirtual 83, 3) := by decide +kernel
theorem d_Lw_law_438 : decode code 438 = .ok (.iload 5, 2) := by decide +kernel
theorem d_Lw_law_440 : decode code 440 = .ok (.if_icmp .eq 5, 3) := by decide +kernel
theorem d_Lw_law_443 : decode code 443 = .ok (.iconst 0, 1) := by decide +kernel
theorem d_Lw_law_444 : decode code 444 = .ok (.ireturn, 1) := by decide +kernel
theorem d_Lw_law_445 : decode code 445 = .ok (.iload 5, 2) := by decide +kernel
theorem d_Lw_law_447 : decode code 447 = .ok (.ifCond .ne 22, 3) := by decide +kernel
theorem d_Lw_law_450 : decode code 450 = .ok (.aload_n 3, 1) := by decide +kernel
theorem d_Lw_law_451 : decode code 451 = .ok (.iconst 0, 1) := by decide +kernel
theorem d_Lw_law_452 : decode code 452 = .ok (.laload, 1) := by decide +kernel
theorem d_Lw_law_453 : decode code 453 = .ok (.iload 6, 2) := by decide +kernel
theorem d_Lw_law_455 : decode code 455 = .ok (.ifCond .eq 7, 3) := by decide +kernel
theorem d_Lw_law_458 : decode code 458 = .ok (.lconst 1, 1) := by decide +kernel
theorem d_Lw_law_459 : decode code 459 = .ok (.goto 4, 3) := by decide +kernel
theorem d_Lw_law_462 : decode code 462 = .ok (.lconst 0, 1) := by decide +kernel
theorem d_Lw_law_463 : decode code 463 = .ok (.lcmp, 1) := by decide +kernel
theorem d_Lw_law_464 : decode code 464 = .ok (.ifCond .eq 5, 3) := by decide +kernel
theorem d_Lw_law_467 : decode code 467 = .ok (.iconst 0, 1) := by decide +kernel
theorem d_Lw_law_468 : decode code 468 = .ok (.ireturn, 1) := by decide +kernel
theorem d_Lw_law_469 : decode code 469 = .ok (.goto 572, 3) := by decide +kernel
theorem d_Lw_law_472 : decode code 472 = .ok (.aload_n 1, 1) := by decide +kernel
theorem d_Lw_law_473 : decode code 473 = .ok (.aload_n 3, 1) := by decide +kernel
theorem d_Lw_law_474 : decode code 474 = .ok (.invokestatic 103, 3) := by decide +kernel
theorem d_Lw_law_477 : decode code 477 = .ok (.istore 5, 2) := by decide +kernel
theorem d_Lw_law_479 : decode code 479 = .ok (.aload_n 2, 1) := by decide +kernel
theorem d_Lw_law_480 : decode code 480 = .ok (.invokevirtual 105, 3) := by decide +kernel
end
section
theorem d_Lw_law_483 : decode code 483 = .ok (.istore 6, 2) := by decide +kernel
theorem d_Lw_law_485 : decode code 485 = .ok (.aload_n 2, 1) := by decide +kernel
theorem d_Lw_law_486 : decode code 486 = .ok (.invokevirtual 83, 3) := by decide +kernel
theorem d_Lw_law_489 : decode code 489 = .ok (.iload 5, 2) := by decide +kernel
theorem d_Lw_law_491 : decode code 491 = .ok (.if_icmp .eq 5, 3) := by decide +kernel
theorem d_Lw_law_494 : decode code 494 = .ok (.iconst 0, 1) := by decide +kernel
theorem d_Lw_law_495 : decode code 495 = .ok (.ireturn, 1) := by decide +kernel
theorem d_Lw_law_496 : decode code 496 = .ok (.iload 5, 2) := by decide +kernel
theorem d_Lw_law_498 : decode code 498 = .ok (.ifCond .ne 15, 3) := by decide +kernel
theorem d_Lw_law_501 : decode code 501 = .ok (.aload_n 3, 1) := by decide +kernel
theorem d_Lw_law_502 : decode code 502 = .ok (.iconst 0, 1) := by decide +kernel
theorem d_Lw_law_503 : decode code 503 = .ok (.laload, 1) := by decide +kernel
theorem d_Lw_law_504 : decode code 504 = .ok (.iload 6, 2) := by decide +kernel
theorem d_Lw_law_506 : decode code 506 = .ok (.i2l, 1) := by decide +kernel
theorem d_Lw_law_507 : decode code 507 = .ok (.lcmp, 1) := by decide +kernel
theorem d_Lw_law_508 : decode code 508 = .ok (.ifCond .eq 5, 3) := by decide +kernel
theorem d_Lw_law_511 : decode code 511 = .ok (.iconst 0, 1) := by decide +kernel
theorem d_Lw_law_512 : decode code 512 = .ok (.ireturn, 1) := by decide +kernel
theorem d_Lw_law_513 : decode code 513 = .ok (.goto 528, 3) := by decide +kernel
theorem d_Lw_law_516 : decode code 516 = .ok (.aload_n 1, 1) := by decide +kernel
theorem d_Lw_law_517 : decode code 517 = .ok (.aload_n 3, 1) := by decide +kernel
theorem d_Lw_law_518 : decode code 518 = .ok (.invokestatic 106, 3) := by decide +kernel
theorem d_Lw_law_521 : decode code 521 = .ok (.istore 5, 2) := by decide +kernel
theorem d_Lw_law_523 : decode code 523 = .ok (.aload_n 2, 1) := by decide +kernel
theorem d_Lw_law_524 : decode code 524 = .ok (.invokevirtual 108, 3) := by decide +kernel
theorem d_Lw_law_527 : decode code 527 = .ok (.istore 6, 2) := by decide +kernel
theorem d_Lw_law_529 : decode code 529 = .ok (.aload_n 2, 1) := by decide +kernel
theorem d_Lw_law_530 : decode code 530 = .ok (.invokevirtual 83, 3) := by decide +kernel
theorem d_Lw_law_533 : decode code 533 = .ok (.iload 5, 2) := by decide +kernel
theorem d_Lw_law_535 : decode code 535 = .ok (.if_icmp .eq 5, 3) := by decide +kernel
theorem d_Lw_law_538 : decode code 538 = .ok (.iconst 0, 1) := by decide +kernel
theorem d_Lw_law_539 : decode code 539 = .ok (.ireturn, 1) := by decide +kernel
theorem d_Lw_law_540 : decode code 540 = .ok (.iload 5, 2) := by decide +kernel
theorem d_Lw_law_542 : decode code 542 = .ok (.ifCond .ne 15, 3) := by decide +kernel
theorem d_Lw_law_545 : decode code 545 = .ok (.aload_n 3, 1) := by decide +kernel
theorem d_Lw_law_546 : decode code 546 = .ok (.iconst 0, 1) := by decide +kernel
theorem d_Lw_law_547 : decode code 547 = .ok (.laload, 1) := by decide +kernel
theorem d_Lw_law_548 : decode code 548 = .ok (.iload 6, 2) := by decide +kernel
theorem d_Lw_law_550 : decode code 550 = .ok (.i2l, 1) := by decide +kernel
theorem d_Lw_law_551 : decode code 551 = .ok (.lcmp, 1) := by decide +kernel
theorem d_Lw_law_552 : decode code 552 = .ok (.ifCond .eq 5, 3) := by decide +kernel
theorem d_Lw_law_555 : decode code 555 = .ok (.iconst 0, 1) := by decide +kernel
theorem d_Lw_law_556 : decode code 556 = .ok (.ireturn, 1) := by decide +kernel
theorem d_Lw_law_557 : decode code 557 = .ok (.goto 484, 3) := by decide +kernel
theorem d_Lw_law_560 : decode code 560 = .ok (.aload_n 1, 1) := by decide +kernel
theorem d_Lw_law_561 : decode code 561 = .ok (.aload_n 3, 1) := by decide +kernel
theorem d_Lw_law_562 : decode code 562 = .ok (.invokestatic 109, 3) := by decide +kernel
theorem d_Lw_law_565 : decode code 565 = .ok (.istore 5, 2) := by decide +kernel
theorem d_Lw_law_567 : decode code 567 = .ok (.aload_n 2, 1) := by decide +kernel
theorem d_Lw_law_568 : decode code 568 = .ok (.invokevirtual 111, 3) := by decide +kernel
theorem d_Lw_law_571 : decode code 571 = .ok (.istore 6, 2) := by decide +kernel
theorem d_Lw_law_573 : decode code 573 = .ok (.aload_n 2, 1) := by decide +kernel
theorem d_Lw_law_574 : decode code 574 = .ok (.invokevirtual 83, 3) := by decide +kernel
theorem d_Lw_law_577 : decode code 577 = .ok (.iload 5, 2) := by decide +kernel
theorem d_Lw_law_579 : decode code 579 = .ok (.if_icmp .eq 5, 3) := by decide +kernel
theorem d_Lw_law_582 : decode code 582 = .ok (.iconst 0, 1) := by decide +kernel
theorem d_Lw_law_583 : decode code 583 = .ok (.ireturn, 1) := by decide +kernel
theorem d_Lw_law_584 : decode code 584 = .ok (.iload 5, 2) := by decide +kernel
theorem d_Lw_law_586 : decode code 586 = .ok (.ifCond .ne 22, 3) := by decide +kernel
theorem d_Lw_law_589 : decode code 589 = .ok (.aload_n 3, 1) := by decide +kernel
theorem d_Lw_law_590 : decode code 590 = .ok (.iconst 0, 1) := by decide +kernel
theorem d_Lw_law_591 : decode code 591 = .ok (.laload, 1) := by decide +kernel
theorem d_Lw_law_592 : decode code 592 = .ok (.iload 6, 2) := by decide +kernel
theorem d_Lw_law_594 : decode code 594 = .ok (.ifCond .eq 7, 3) := by decide +kernel
theorem d_Lw_law_597 : decode code 597 = .ok (.lconst 1, 1) := by decide +kernel
theorem d_Lw_law_598 : decode code 598 = .ok (.goto 4, 3) := by decide +kernel
theorem d_Lw_law_601 : decode code 601 = .ok (.lconst 0, 1) := by decide +kernel
theorem d_Lw_law_602 : decode code 602 = .ok (.lcmp, 1) := by decide +kernel
theorem d_Lw_law_603 : decode code 603 = .ok (.ifCond .eq 5, 3) := by decide +kernel
theorem d_Lw_law_606 : decode code 606 = .ok (.iconst 0, 1) := by decide +kernel
theorem d_Lw_law_607 : decode code 607 = .ok (.ireturn, 1) := by decide +kernel
theorem d_Lw_law_608 : decode code 608 = .ok (.goto 433, 3) := by decide +kernel
theorem d_Lw_law_611 : decode code 611 = .ok (.aload_n 1, 1) := by decide +kernel
theorem d_Lw_law_612 : decode code 612 = .ok (.aload_n 3, 1) := by decide +kernel
theorem d_Lw_law_613 : decode code 613 = .ok (.invokestatic 112, 3) := by decide +kernel
theorem d_Lw_law_616 : decode code 616 = .ok (.istore 5, 2) := by decide +kernel
theorem d_Lw_law_618 : decode code 618 = .ok (.aload_n 2, 1) := by decide +kernel
theorem d_Lw_law_619 : decode code 619 = .ok (.invokevirtual 114, 3) := by decide +kernel
theorem d_Lw_law_622 : decode code 622 = .ok (.istore 6, 2) := by decide +kernel
theorem d_Lw_law_624 : decode code 624 = .ok (.aload_n 2, 1) := by decide +kernel
theorem d_Lw_law_625 : decode code 625 = .ok (.invokevirtual 83, 3) := by decide +kernel
theorem d_Lw_law_628 : decode code 628 = .ok (.iload 5, 2) := by decide +kernel
theorem d_Lw_law_630 : decode code 630 = .ok (.if_icmp .eq 5, 3) := by decide +kernel
theorem d_Lw_law_633 : decode code 633 = .ok (.iconst 0, 1) := by decide +kernel
theorem d_Lw_law_634 : decode code 634 = .ok (.ireturn, 1) := by decide +kernel
theorem d_Lw_law_635 : decode code 635 = .ok (.iload 5, 2) := by decide +kernel
theorem d_Lw_law_637 : decode code 637 = .ok (.ifCond .ne 15, 3) := by decide +kernel
theorem d_Lw_law_640 : decode code 640 = .ok (.aload_n 3, 1) := by decide +kernel
theorem d_Lw_law_641 : decode code 641 = .ok (.iconst 0, 1) := by decide +kernel
theorem d_Lw_law_642 : decode code 642 = .ok (.laload, 1) := by decide +kernel
theorem d_Lw_law_643 : decode code 643 = .ok (.iload 6, 2) := by decide +kernel
theorem d_Lw_law_645 : decode code 645 = .ok (.i2l, 1) := by decide +kernel
theorem d_Lw_law_646 : decode code 646 = .ok (.lcmp, 1) := by decide +kernel
theorem d_Lw_law_647 : decode code 647 = .ok (.ifCond .eq 5, 3) := by decide +kernel
theorem d_Lw_law_650 : decode code 650 = .ok (.iconst 0, 1) := by decide +kernel
theorem d_Lw_law_651 : decode code 651 = .ok (.ireturn, 1) := by decide +kernel
theorem d_Lw_law_652 : decode code 652 = .ok (.goto 389, 3) := by decide +kernel
theorem d_Lw_law_655 : decode code 655 = .ok (.aload_n 1, 1) := by decide +kernel
theorem d_Lw_law_656 : decode code 656 = .ok (.aload_n 3, 1) := by decide +kernel
theorem d_Lw_law_657 : decode code 657 = .ok (.invokestatic 115, 3) := by decide +kernel
theorem d_Lw_law_660 : decode code 660 = .ok (.istore 5, 2) := by decide +kernel
theorem d_Lw_law_662 : decode code 662 = .ok (.aload_n 2, 1) := by decide +kernel
theorem d_Lw_law_663 : decode code 663 = .ok (.invokevirtual 117, 3) := by decide +kernel
theorem d_Lw_law_666 : decode code 666 = .ok (.istore 6, 2) := by decide +kernel
theorem d_Lw_law_668 : decode code 668 = .ok (.aload_n 2, 1) := by decide +kernel
theorem d_Lw_law_669 : decode code 669 = .ok (.invokevirtual 83, 3) := by decide +kernel
theorem d_Lw_law_672 : decode code 672 = .ok (.iload 5, 2) := by decide +kernel
theorem d_Lw_law_674 : decode code 674 = .ok (.if_icmp .eq 5, 3) := by decide +kernel
theorem d_Lw_law_677 : decode code 677 = .ok (.iconst 0, 1) := by decide +kernel
theorem d_Lw_law_678 : decode code 678 = .ok (.ireturn, 1) := by decide +kernel
theorem d_Lw_law_679 : decode code 679 = .ok (.iload 5, 2) := by decide +kernel
theorem d_Lw_law_681 : decode code 681 = .ok (.ifCond .ne 15, 3) := by decide +kernel
theorem d_Lw_law_684 : decode code 684 = .ok (.aload_n 3, 1) := by decide +kernel
theorem d_Lw_law_685 : decode code 685 = .ok (.iconst 0, 1) := by decide +kernel
theorem d_Lw_law_686 : decode code 686 = .ok (.laload, 1) := by decide +kernel
theorem d_Lw_law_687 : decode code 687 = .ok (.iload 6, 2) := by decide +kernel
theorem d_Lw_law_689 : decode code 689 = .ok (.i2l, 1) := by decide +kernel
theorem d_Lw_law_690 : decode code 690 = .ok (.lcmp, 1) := by decide +kernel
theorem d_Lw_law_691 : decode code 691 = .ok (.ifCond .eq 5, 3) := by decide +kernel
theorem d_Lw_law_694 : decode code 694 = .ok (.iconst 0, 1) := by decide +kernel
theorem d_Lw_law_695 : decode code 695 = .ok (.ireturn, 1) := by decide +kernel
theorem d_Lw_law_696 : decode code 696 = .ok (.goto 345, 3) := by decide +kernel
theorem d_Lw_law_699 : decode code 699 = .ok (.aload_n 1, 1) := by decide +kernel
theorem d_Lw_law_700 : decode code 700 = .ok (.aload_n 0, 1) := by decide +kernel
theorem d_Lw_law_701 : decode code 701 = .ok (.iload 4, 2) := by decide +kernel
theorem d_Lw_law_703 : decode code 703 = .ok (.iconst 1, 1) := by decide +kernel
theorem d_Lw_law_704 : decode code 704 = .ok (.iadd, 1) := by decide +kernel
theorem d_Lw_law_705 : decode code 705 = .ok (.iaload, 1) := by decide +kernel
theorem d_Lw_law_706 : decode code 706 = .ok (.aload_n 3, 1) := by decide +kernel
theorem d_Lw_law_707 : decode code 707 = .ok (.invokestatic 118, 3) := by decide +kernel
theorem d_Lw_law_710 : decode code 710 = .ok (.istore 5, 2) := by decide +kernel
theorem d_Lw_law_712 : decode code 712 = .ok (.aload_n 2, 1) := by decide +kernel
theorem d_Lw_law_713 : decode code 713 = .ok (.aload_n 0, 1) := by decide +kernel
theorem d_Lw_law_714 : decode code 714 = .ok (.iload 4, 2) := by decide +kernel
theorem d_Lw_law_716 : decode code 716 = .ok (.iconst 1, 1) := by decide +kernel
theorem d_Lw_law_717 : decode code 717 = .ok (.iadd, 1) := by decide +kernel
theorem d_Lw_law_718 : decode code 718 = .ok (.iaload, 1) := by decide +kernel
theorem d_Lw_law_719 : decode code 719 = .ok (.invokevirtual 120, 3) := by decide +kernel
theorem d_Lw_law_722 : decode code 722 = .ok (.istore 6, 2) := by decide +kernel
theorem d_Lw_law_724 : decode code 724 = .ok (.aload_n 2, 1) := by decide +kernel
theorem d_Lw_law_725 : decode code 725 = .ok (.invokevirtual 83, 3) := by decide +kernel
theorem d_Lw_law_728 : decode code 728 = .ok (.iload 5, 2) := by decide +kernel
theorem d_Lw_law_730 : decode code 730 = .ok (.if_icmp .eq 5, 3) := by decide +kernel
theorem d_Lw_law_733 : decode code 733 = .ok (.iconst 0, 1) := by decide +kernel
theorem d_Lw_law_734 : decode code 734 = .ok (.ireturn, 1) := by decide +kernel
theorem d_Lw_law_735 : decode code 735 = .ok (.iload 5, 2) := by decide +kernel
theorem d_Lw_law_737 : decode code 737 = .ok (.ifCond .ne 15, 3) := by decide +kernel
theorem d_Lw_law_740 : decode code 740 = .ok (.aload_n 3, 1) := by decide +kernel
theorem d_Lw_law_741 : decode code 741 = .ok (.iconst 0, 1) := by decide +kernel
theorem d_Lw_law_742 : decode code 742 = .ok (.laload, 1) := by decide +kernel
theorem d_Lw_law_743 : decode code 743 = .ok (.iload 6, 2) := by decide +kernel
theorem d_Lw_law_745 : decode code 745 = .ok (.i2l, 1) := by decide +kernel
theorem d_Lw_law_746 : decode code 746 = .ok (.lcmp, 1) := by decide +kernel
theorem d_Lw_law_747 : decode code 747 = .ok (.ifCond .eq 5, 3) := by decide +kernel
theorem d_Lw_law_750 : decode code 750 = .ok (.iconst 0, 1) := by decide +kernel
theorem d_Lw_law_751 : decode code 751 = .ok (.ireturn, 1) := by decide +kernel
theorem d_Lw_law_752 : decode code 752 = .ok (.goto 289, 3) := by decide +kernel
theorem d_Lw_law_755 : decode code 755 = .ok (.aload_n 1, 1) := by decide +kernel
theorem d_Lw_law_756 : decode code 756 = .ok (.aload_n 0, 1) := by decide +kernel
theorem d_Lw_law_757 : decode code 757 = .ok (.iload 4, 2) := by decide +kernel
theorem d_Lw_law_759 : decode code 759 = .ok (.iconst 1, 1) := by decide +kernel
theorem d_Lw_law_760 : decode code 760 = .ok (.iadd, 1) := by decide +kernel
theorem d_Lw_law_761 : decode code 761 = .ok (.iaload, 1) := by decide +kernel
theorem d_Lw_law_762 : decode code 762 = .ok (.aload_n 0, 1) := by decide +kernel
theorem d_Lw_law_763 : decode code 763 = .ok (.iload 4, 2) := by decide +kernel
theorem d_Lw_law_765 : decode code 765 = .ok (.iconst 2, 1) := by decide +kernel
theorem d_Lw_law_766 : decode code 766 = .ok (.iadd, 1) := by decide +kernel
theorem d_Lw_law_767 : decode code 767 = .ok (.iaload, 1) := by decide +kernel
theorem d_Lw_law_768 : decode code 768 = .ok (.invokestatic 121, 3) := by decide +kernel
theorem d_Lw_law_771 : decode code 771 = .ok (.istore 5, 2) := by decide +kernel
theorem d_Lw_law_773 : decode code 773 = .ok (.aload_n 2, 1) := by decide +kernel
theorem d_Lw_law_774 : decode code 774 = .ok (.aload_n 0, 1) := by decide +kernel
theorem d_Lw_law_775 : decode code 775 = .ok (.iload 4, 2) := by decide +kernel
theorem d_Lw_law_777 : decode code 777 = .ok (.iconst 1, 1) := by decide +kernel
theorem d_Lw_law_778 : decode code 778 = .ok (.iadd, 1) := by decide +kernel
theorem d_Lw_law_779 : decode code 779 = .ok (.iaload, 1) := by decide +kernel
theorem d_Lw_law_780 : decode code 780 = .ok (.aload_n 0, 1) := by decide +kernel
theorem d_Lw_law_781 : decode code 781 = .ok (.iload 4, 2) := by decide +kernel
theorem d_Lw_law_783 : decode code 783 = .ok (.iconst 2, 1) := by decide +kernel
theorem d_Lw_law_784 : decode code 784 = .ok (.iadd, 1) := by decide +kernel
theorem d_Lw_law_785 : decode code 785 = .ok (.iaload, 1) := by decide +kernel
theorem d_Lw_law_786 : decode code 786 = .ok (.invokevirtual 124, 3) := by decide +kernel
theorem d_Lw_law_789 : decode code 789 = .ok (.aload_n 2, 1) := by decide +kernel
theorem d_Lw_law_790 : decode code 790 = .ok (.invokevirtual 83, 3) := by decide +kernel
theorem d_Lw_law_793 : decode code 793 = .ok (.iload 5, 2) := by decide +kernel
theorem d_Lw_law_795 : decode code 795 = .ok (.if_icmp .eq 5, 3) := by decide +kernel
theorem d_Lw_law_798 : decode code 798 = .ok (.iconst 0, 1) := by decide +kernel
theorem d_Lw_law_799 : decode code 799 = .ok (.ireturn, 1) := by decide +kernel
theorem d_Lw_law_800 : decode code 800 = .ok (.goto 241, 3) := by decide +kernel
theorem d_Lw_law_803 : decode code 803 = .ok (.aload_n 1, 1) := by decide +kernel
theorem d_Lw_law_804 : decode code 804 = .ok (.aload_n 0, 1) := by decide +kernel
theorem d_Lw_law_805 : decode code 805 = .ok (.iload 4, 2) := by decide +kernel
theorem d_Lw_law_807 : decode code 807 = .ok (.iconst 1, 1) := by decide +kernel
theorem d_Lw_law_808 : decode code 808 = .ok (.iadd, 1) := by decide +kernel
theorem d_Lw_law_809 : decode code 809 = .ok (.iaload, 1) := by decide +kernel
theorem d_Lw_law_810 : decode code 810 = .ok (.aload_n 0, 1) := by decide +kernel
theorem d_Lw_law_811 : decode code 811 = .ok (.iload 4, 2) := by decide +kernel
theorem d_Lw_law_813 : decode code 813 = .ok (.iconst 2, 1) := by decide +kernel
theorem d_Lw_law_814 : decode code 814 = .ok (.iadd, 1) := by decide +kernel
theorem d_Lw_law_815 : decode code 815 = .ok (.iaload, 1) := by decide +kernel
theorem d_Lw_law_816 : decode code 816 = .ok (.aload_n 3, 1) := by decide +kernel
theorem d_Lw_law_817 : decode code 817 = .ok (.invokestatic 125, 3) := by decide +kernel
theorem d_Lw_law_820 : decode code 820 = .ok (.istore 5, 2) := by decide +kernel
theorem d_Lw_law_822 : decode code 822 = .ok (.aload_n 2, 1) := by decide +kernel
theorem d_Lw_law_823 : decode code 823 = .ok (.aload_n 0, 1) := by decide +kernel
theorem d_Lw_law_824 : decode code 824 = .ok (.iload 4, 2) := by decide +kernel
theorem d_Lw_law_826 : decode code 826 = .ok (.iconst 1, 1) := by decide +kernel
theorem d_Lw_law_827 : decode code 827 = .ok (.iadd, 1) := by decide +kernel
theorem d_Lw_law_828 : decode code 828 = .ok (.iaload, 1) := by decide +kernel
theorem d_Lw_law_829 : decode code 829 = .ok (.aload_n 0, 1) := by decide +kernel
theorem d_Lw_law_830 : decode code 830 = .ok (.iload 4, 2) := by decide +kernel
theorem d_Lw_law_832 : decode code 832 = .ok (.iconst 2, 1) := by decide +kernel
theorem d_Lw_law_833 : decode code 833 = .ok (.iadd, 1) := by decide +kernel
theorem d_Lw_law_834 : decode code 834 = .ok (.iaload, 1) := by decide +kernel
theorem d_Lw_law_835 : decode code 835 = .ok (.invokevirtual 127, 3) := by decide +kernel
theorem d_Lw_law_838 : decode code 838 = .ok (.istore 6, 2) := by decide +kernel
theorem d_Lw_law_840 : decode code 840 = .ok (.aload_n 2, 1) := by decide +kernel
theorem d_Lw_law_841 : decode code 841 = .ok (.invokevirtual 83, 3) := by decide +kernel
theorem d_Lw_law_844 : decode code 844 = .ok (.iload 5, 2) := by decide +kernel
theorem d_Lw_law_846 : decode code 846 = .ok (.if_icmp .eq 5, 3) := by decide +kernel
theorem d_Lw_law_849 : decode code 849 = .ok (.iconst 0, 1) := by decide +kernel
theorem d_Lw_law_850 : decode code 850 = .ok (.ireturn, 1) := by decide +kernel
theorem d_Lw_law_851 : decode code 851 = .ok (.iload 5, 2) := by decide +kernel
theorem d_Lw_law_853 : decode code 853 = .ok (.ifCond .ne 15, 3) := by decide +kernel
theorem d_Lw_law_856 : decode code 856 = .ok (.aload_n 3, 1) := by decide +kernel
theorem d_Lw_law_857 : decode code 857 = .ok (.iconst 0, 1) := by decide +kernel
theorem d_Lw_law_858 : decode code 858 = .ok (.laload, 1) := by decide +kernel
theorem d_Lw_law_859 : decode code 859 = .ok (.iload 6, 2) := by decide +kernel
theorem d_Lw_law_861 : decode code 861 = .ok (.i2l, 1) := by decide +kernel
theorem d_Lw_law_862 : decode code 862 = .ok (.lcmp, 1) := by decide +kernel
theorem d_Lw_law_863 : decode code 863 = .ok (.ifCond .eq 5, 3) := by decide +kernel
theorem d_Lw_law_866 : decode code 866 = .ok (.iconst 0, 1) := by decide +kernel
theorem d_Lw_law_867 : decode code 867 = .ok (.ireturn, 1) := by decide +kernel
theorem d_Lw_law_868 : decode code 868 = .ok (.goto 173, 3) := by decide +kernel
theorem d_Lw_law_871 : decode code 871 = .ok (.aload_n 1, 1) := by decide +kernel
theorem d_Lw_law_872 : decode code 872 = .ok (.aload_n 3, 1) := by decide +kernel
theorem d_Lw_law_873 : decode code 873 = .ok (.invokestatic 128, 3) := by decide +kernel
theorem d_Lw_law_876 : decode code 876 = .ok (.istore 5, 2) := by decide +kernel
theorem d_Lw_law_878 : decode code 878 = .ok (.aload_n 2, 1) := by decide +kernel
theorem d_Lw_law_879 : decode code 879 = .ok (.invokevirtual 130, 3) := by decide +kernel
theorem d_Lw_law_882 : decode code 882 = .ok (.istore 6, 2) := by decide +kernel
theorem d_Lw_law_884 : decode code 884 = .ok (.aload_n 2, 1) := by decide +kernel
theorem d_Lw_law_885 : decode code 885 = .ok (.invokevirtual 83, 3) := by decide +kernel
theorem d_Lw_law_888 : decode code 888 = .ok (.iload 5, 2) := by decide +kernel
theorem d_Lw_law_890 : decode code 890 = .ok (.if_icmp .eq 5, 3) := by decide +kernel
theorem d_Lw_law_893 : decode code 893 = .ok (.iconst 0, 1) := by decide +kernel
theorem d_Lw_law_894 : decode code 894 = .ok (.ireturn, 1) := by decide +kernel
theorem d_Lw_law_895 : decode code 895 = .ok (.iload 5, 2) := by decide +kernel
theorem d_Lw_law_897 : decode code 897 = .ok (.ifCond .ne 22, 3) := by decide +kernel
theorem d_Lw_law_900 : decode code 900 = .ok (.aload_n 3, 1) := by decide +kernel
theorem d_Lw_law_901 : decode code 901 = .ok (.iconst 0, 1) := by decide +kernel
theorem d_Lw_law_902 : decode code 902 = .ok (.laload, 1) := by decide +kernel
theorem d_Lw_law_903 : decode code 903 = .ok (.iload 6, 2) := by decide +kernel
theorem d_Lw_law_905 : decode code 905 = .ok (.ifCond .eq 7, 3) := by decide +kernel
theorem d_Lw_law_908 : decode code 908 = .ok (.lconst 1, 1) := by decide +kernel
theorem d_Lw_law_909 : decode code 909 = .ok (.goto 4, 3) := by decide +kernel
theorem d_Lw_law_912 : decode code 912 = .ok (.lconst 0, 1) := by decide +kernel
theorem d_Lw_law_913 : decode code 913 = .ok (.lcmp, 1) := by decide +kernel
theorem d_Lw_law_914 : decode code 914 = .ok (.ifCond .eq 5, 3) := by decide +kernel
theorem d_Lw_law_917 : decode code 917 = .ok (.iconst 0, 1) := by decide +kernel
theorem d_Lw_law_918 : decode code 918 = .ok (.ireturn, 1) := by decide +kernel
theorem d_Lw_law_919 : decode code 919 = .ok (.goto 122, 3) := by decide +kernel
theorem d_Lw_law_922 : decode code 922 = .ok (.aload_n 1, 1) := by decide +kernel
theorem d_Lw_law_923 : decode code 923 = .ok (.aload_n 0, 1) := by decide +kernel
theorem d_Lw_law_924 : decode code 924 = .ok (.iload 4, 2) := by decide +kernel
theorem d_Lw_law_926 : decode code 926 = .ok (.iconst 1, 1) := by decide +kernel
theorem d_Lw_law_927 : decode code 927 = .ok (.iadd, 1) := by decide +kernel
theorem d_Lw_law_928 : decode code 928 = .ok (.iaload, 1) := by decide +kernel
theorem d_Lw_law_929 : decode code 929 = .ok (.aload_n 3, 1) := by decide +kernel
theorem d_Lw_law_930 : decode code 930 = .ok (.invokestatic 131, 3) := by decide +kernel
theorem d_Lw_law_933 : decode code 933 = .ok (.istore 5, 2) := by decide +kernel
theorem d_Lw_law_935 : decode code 935 = .ok (.aload_n 2, 1) := by decide +kernel
theorem d_Lw_law_936 : decode code 936 = .ok (.aload_n 0, 1) := by decide +kernel
theorem d_Lw_law_937 : decode code 937 = .ok (.iload 4, 2) := by decide +kernel
theorem d_Lw_law_939 : decode code 939 = .ok (.iconst 1, 1) := by decide +kernel
theorem d_Lw_law_940 : decode code 940 = .ok (.iadd, 1) := by decide +kernel
theorem d_Lw_law_941 : decode code 941 = .ok (.iaload, 1) := by decide +kernel
theorem d_Lw_law_942 : decode code 942 = .ok (.invokevirtual 133, 3) := by decide +kernel
theorem d_Lw_law_945 : decode code 945 = .ok (.istore 6, 2) := by decide +kernel
theorem d_Lw_law_947 : decode code 947 = .ok (.aload_n 2, 1) := by decide +kernel
theorem d_Lw_law_948 : decode code 948 = .ok (.invokevirtual 83, 3) := by decide +kernel
theorem d_Lw_law_951 : decode code 951 = .ok (.iload 5, 2) := by decide +kernel
theorem d_Lw_law_953 : decode code 953 = .ok (.if_icmp .eq 5, 3) := by decide +kernel
theorem d_Lw_law_956 : decode code 956 = .ok (.iconst 0, 1) := by decide +kernel
theorem d_Lw_law_957 : decode code 957 = .ok (.ireturn, 1) := by decide +kernel
theorem d_Lw_law_958 : decode code 958 = .ok (.iload 5, 2) := by decide +kernel
theorem d_Lw_law_960 : decode code 960 = .ok (.ifCond .ne 15, 3) := by decide +kernel
theorem d_Lw_law_963 : decode code 963 = .ok (.aload_n 3, 1) := by decide +kernel
theorem d_Lw_law_964 : decode code 964 = .ok (.iconst 0, 1) := by decide +kernel
theorem d_Lw_law_965 : decode code 965 = .ok (.laload, 1) := by decide +kernel
theorem d_Lw_law_966 : decode code 966 = .ok (.iload 6, 2) := by decide +kernel
theorem d_Lw_law_968 : decode code 968 = .ok (.i2l, 1) := by decide +kernel
theorem d_Lw_law_969 : decode code 969 = .ok (.lcmp, 1) := by decide +kernel
theorem d_Lw_law_970 : decode code 970 = .ok (.ifCond .eq 5, 3) := by decide +kernel
theorem d_Lw_law_973 : decode code 973 = .ok (.iconst 0, 1) := by decide +kernel
theorem d_Lw_law_974 : decode code 974 = .ok (.ireturn, 1) := by decide +kernel
theorem d_Lw_law_975 : decode code 975 = .ok (.goto 66, 3) := by decide +kernel
theorem d_Lw_law_978 : decode code 978 = .ok (.aload_n 1, 1) := by decide +kernel
theorem d_Lw_law_979 : decode code 979 = .ok (.aload_n 0, 1) := by decide +kernel
theorem d_Lw_law_980 : decode code 980 = .ok (.iload 4, 2) := by decide +kernel
theorem d_Lw_law_982 : decode code 982 = .ok (.iconst 1, 1) := by decide +kernel
theorem d_Lw_law_983 : decode code 983 = .ok (.iadd, 1) := by decide +kernel
theorem d_Lw_law_984 : decode code 984 = .ok (.iaload, 1) := by decide +kernel
theorem d_Lw_law_985 : decode code 985 = .ok (.aload_n 3, 1) := by decide +kernel
theorem d_Lw_law_986 : decode code 986 = .ok (.invokestatic 134, 3) := by decide +kernel
theorem d_Lw_law_989 : decode code 989 = .ok (.istore 5, 2) := by decide +kernel
theorem d_Lw_law_991 : decode code 991 = .ok (.aload_n 2, 1) := by decide +kernel
theorem d_Lw_law_992 : decode code 992 = .ok (.aload_n 0, 1) := by decide +kernel
theorem d_Lw_law_993 : decode code 993 = .ok (.iload 4, 2) := by decide +kernel
theorem d_Lw_law_995 : decode code 995 = .ok (.iconst 1, 1) := by decide +kernel
theorem d_Lw_law_996 : decode code 996 = .ok (.iadd, 1) := by decide +kernel
theorem d_Lw_law_997 : decode code 997 = .ok (.iaload, 1) := by decide +kernel
theorem d_Lw_law_998 : decode code 998 = .ok (.invokevirtual 136, 3) := by decide +kernel
theorem d_Lw_law_1001 : decode code 1001 = .ok (.istore 6, 2) := by decide +kernel
theorem d_Lw_law_1003 : decode code 1003 = .ok (.aload_n 2, 1) := by decide +kernel
theorem d_Lw_law_1004 : decode code 1004 = .ok (.invokevirtual 83, 3) := by decide +kernel
theorem d_Lw_law_1007 : decode code 1007 = .ok (.iload 5, 2) := by decide +kernel
theorem d_Lw_law_1009 : decode code 1009 = .ok (.if_icmp .eq 5, 3) := by decide +kernel
theorem d_Lw_law_1012 : decode code 1012 = .ok (.iconst 0, 1) := by decide +kernel
theorem d_Lw_law_1013 : decode code 1013 = .ok (.ireturn, 1) := by decide +kernel
theorem d_Lw_law_1014 : decode code 1014 = .ok (.iload 5, 2) := by decide +kernel
theorem d_Lw_law_1016 : decode code 1016 = .ok (.ifCond .ne 22, 3) := by decide +kernel
theorem d_Lw_law_1019 : decode code 1019 = .ok (.aload_n 3, 1) := by decide +kernel
theorem d_Lw_law_1020 : decode code 1020 = .ok (.iconst 0, 1) := by decide +kernel
theorem d_Lw_law_1021 : decode code 1021 = .ok (.laload, 1) := by decide +kernel
theorem d_Lw_law_1022 : decode code 1022 = .ok (.iload 6, 2) := by decide +kernel
theorem d_Lw_law_1024 : decode code 1024 = .ok (.ifCond .eq 7, 3) := by decide +kernel
theorem d_Lw_law_1027 : decode code 1027 = .ok (.lconst 1, 1) := by decide +kernel
theorem d_Lw_law_1028 : decode code 1028 = .ok (.goto 4, 3) := by decide +kernel
theorem d_Lw_law_1031 : decode code 1031 = .ok (.lconst 0, 1) := by decide +kernel
theorem d_Lw_law_1032 : decode code 1032 = .ok (.lcmp, 1) := by decide +kernel
theorem d_Lw_law_1033 : decode code 1033 = .ok (.ifCond .eq 5, 3) := by decide +kernel
theorem d_Lw_law_1036 : decode code 1036 = .ok (.iconst 0, 1) := by decide +kernel
theorem d_Lw_law_1037 : decode code 1037 = .ok (.ireturn, 1) := by decide +kernel
theorem d_Lw_law_1038 : decode code 1038 = .ok (.goto 3, 3) := by decide +kernel
theorem d_Lw_law_1041 : decode code 1041 = .ok (.iinc 4 3, 3) := by decide +kernel
theorem d_Lw_law_1044 : decode code 1044 = .ok (.goto (-1021), 3) := by decide +kernel
theorem d_Lw_law_1047 : decode code 1047 = .ok (.iconst 1, 1) := by decide +kernel
theorem d_Lw_law_1048 : decode code 1048 = .ok (.ireturn, 1) := by decide +kernel
theorem d_Ar_fill_0 : decode prog_16_method_103_code 0 = .ok (.iconst 0, 1) := by decide +kernel
theorem d_Ar_fill_1 : decode prog_16_method_103_code 1 = .ok (.istore_n 2, 1) := by decide +kernel
theorem d_Ar_fill_2 : decode prog_16_method_103_code 2 = .ok (.aload_n 0, 1) := by decide +kernel
theorem d_Ar_fill_3 : decode prog_16_method_103_code 3 = .ok (.arraylength, 1) := by decide +kernel
theorem d_Ar_fill_4 : decode prog_16_method_103_code 4 = .ok (.istore_n 3, 1) := by decide +kernel
theorem d_Ar_fill_5 : decode prog_16_method_103_code 5 = .ok (.iload_n 2, 1) := by decide +kernel
theorem d_Ar_fill_6 : decode prog_16_method_103_code 6 = .ok (.iload_n 3, 1) := by decide +kernel
theorem d_Ar_fill_7 : decode prog_16_method_103_code 7 = .ok (.if_icmp .ge 13, 3) := by decide +kernel
theorem d_Ar_fill_10 : decode prog_16_method_103_code 10 = .ok (.aload_n 0, 1) := by decide +kernel
theorem d_Ar_fill_11 : decode prog_16_method_103_code 11 = .ok (.iload_n 2, 1) := by decide +kernel
theorem d_Ar_fill_12 : decode prog_16_method_103_code 12 = .ok (.iload_n 1, 1) := by decide +kernel
theorem d_Ar_fill_13 : decode prog_16_method_103_code 13 = .ok (.iastore, 1) := by decide +kernel
theorem d_Ar_fill_14 : decode prog_16_method_103_code 14 = .ok (.iinc 2 1, 3) := by decide +kernel
theorem d_Ar_fill_17 : decode prog_16_method_103_code 17 = .ok (.goto (-12), 3) := by decide +kernel
theorem d_Ar_fill_20 : decode prog_16_method_103_code 20 = .ok (.return_, 1) := by decide +kernel
theorem d_D_init_0 : decode prog_1_method_1_code 0 = .ok (.aload_n 0, 1) := by decide +kernel
theorem d_D_init_1 : decode prog_1_method_1_code 1 = .ok (.invokespecial 3, 3) := by decide +kernel
theorem d_D_init_4 : decode prog_1_method_1_code 4 = .ok (.aload_n 0, 1) := by decide +kernel
theorem d_D_init_5 : decode prog_1_method_1_code 5 = .ok (.new 9, 3) := by decide +kernel
theorem d_D_init_8 : decode prog_1_method_1_code 8 = .ok (.dup, 1) := by decide +kernel
theorem d_D_init_9 : decode prog_1_method_1_code 9 = .ok (.invokespecial 11, 3) := by decide +kernel
theorem d_D_init_12 : decode prog_1_method_1_code 12 = .ok (.putfield 12, 3) := by decide +kernel
theorem d_D_init_15 : decode prog_1_method_1_code 15 = .ok (.aload_n 0, 1) := by decide +kernel
theorem d_D_init_16 : decode prog_1_method_1_code 16 = .ok (.new 16, 3) := by decide +kernel
theorem d_D_init_19 : decode prog_1_method_1_code 19 = .ok (.dup, 1) := by decide +kernel
theorem d_D_init_20 : decode prog_1_method_1_code 20 = .ok (.invokespecial 18, 3) := by decide +kernel
theorem d_D_init_23 : decode prog_1_method_1_code 23 = .ok (.putfield 19, 3) := by decide +kernel
theorem d_D_init_26 : decode prog_1_method_1_code 26 = .ok (.aload_n 0, 1) := by decide +kernel
theorem d_D_init_27 : decode prog_1_method_1_code 27 = .ok (.new 23, 3) := by decide +kernel
theorem d_D_init_30 : decode prog_1_method_1_code 30 = .ok (.dup, 1) := by decide +kernel
theorem d_D_init_31 : decode prog_1_method_1_code 31 = .ok (.invokespecial 25, 3) := by decide +kernel
theorem d_D_init_34 : decode prog_1_method_1_code 34 = .ok (.putfield 26, 3) := by decide +kernel
theorem d_D_init_37 : decode prog_1_method_1_code 37 = .ok (.aload_n 0, 1) := by decide +kernel
theorem d_D_init_38 : decode prog_1_method_1_code 38 = .ok (.new 30, 3) := by decide +kernel
theorem d_D_init_41 : decode prog_1_method_1_code 41 = .ok (.dup, 1) := by decide +kernel
theorem d_D_init_42 : decode prog_1_method_1_code 42 = .ok (.invokespecial 32, 3) := by decide +kernel
theorem d_D_init_45 : decode prog_1_method_1_code 45 = .ok (.putfield 33, 3) := by decide +kernel
theorem d_D_init_48 : decode prog_1_method_1_code 48 = .ok (.aload_n 0, 1) := by decide +kernel
theorem d_D_init_49 : decode prog_1_method_1_code 49 = .ok (.new 37, 3) := by decide +kernel
theorem d_D_init_52 : decode prog_1_method_1_code 52 = .ok (.dup, 1) := by decide +kernel
theorem d_D_init_53 : decode prog_1_method_1_code 53 = .ok (.invokespecial 39, 3) := by decide +kernel
theorem d_D_init_56 : decode prog_1_method_1_code 56 = .ok (.putfield 40, 3) := by decide +kernel
theorem d_D_init_59 : decode prog_1_method_1_code 59 = .ok (.aload_n 0, 1) := by decide +kernel
theorem d_D_init_60 : decode prog_1_method_1_code 60 = .ok (.new 37, 3) := by decide +kernel
theorem d_D_init_63 : decode prog_1_method_1_code 63 = .ok (.dup, 1) := by decide +kernel
theorem d_D_init_64 : decode prog_1_method_1_code 64 = .ok (.invokespecial 39, 3) := by decide +kernel
theorem d_D_init_67 : decode prog_1_method_1_code 67 = .ok (.putfield 44, 3) := by decide +kernel
theorem d_D_init_70 : decode prog_1_method_1_code 70 = .ok (.aload_n 0, 1) := by decide +kernel
theorem d_D_init_71 : decode prog_1_method_1_code 71 = .ok (.iconst 0, 1) := by decide +kernel
theorem d_D_init_72 : decode prog_1_method_1_code 72 = .ok (.putfield 47, 3) := by decide +kernel
theorem d_D_init_75 : decode prog_1_method_1_code 75 = .ok (.aload_n 0, 1) := by decide +kernel
theorem d_D_init_76 : decode prog_1_method_1_code 76 = .ok (.iconst 0, 1) := by decide +kernel
theorem d_D_init_77 : decode prog_1_method_1_code 77 = .ok (.putfield 51, 3) := by decide +kernel
theorem d_D_init_80 : decode prog_1_method_1_code 80 = .ok (.return_, 1) := by decide +kernel
theorem d_Mo_init_0 : decode prog_8_method_1_code 0 = .ok (.aload_n 0, 1) := by decide +kernel
theorem d_Mo_init_1 : decode prog_8_method_1_code 1 = .ok (.invokespecial 1, 3) := by decide +kernel
theorem d_Mo_init_4 : decode prog_8_method_1_code 4 = .ok (.aload_n 0, 1) := by decide +kernel
theorem d_Mo_init_5 : decode prog_8_method_1_code 5 = .ok (.bipush 18, 2) := by decide +kernel
theorem d_Mo_init_7 : decode prog_8_method_1_code 7 = .ok (.newarray .int, 2) := by decide +kernel
theorem d_Mo_init_9 : decode prog_8_method_1_code 9 = .ok (.putfield 7, 3) := by decide +kernel
theorem d_Mo_init_12 : decode prog_8_method_1_code 12 = .ok (.aload_n 0, 1) := by decide +kernel
end
section
theorem d_Mo_init_13 : decode prog_8_method_1_code 13 = .ok (.bipush 18, 2) := by decide +kernel
theorem d_Mo_init_15 : decode prog_8_method_1_code 15 = .ok (.newarray .int, 2) := by decide +kernel
theorem d_Mo_init_17 : decode prog_8_method_1_code 17 = .ok (.putfield 13, 3) := by decide +kernel
theorem d_Mo_init_20 : decode prog_8_method_1_code 20 = .ok (.aload_n 0, 1) := by decide +kernel
theorem d_Mo_init_21 : decode prog_8_method_1_code 21 = .ok (.bipush 18, 2) := by decide +kernel
theorem d_Mo_init_23 : decode prog_8_method_1_code 23 = .ok (.newarray .int, 2) := by decide +kernel
theorem d_Mo_init_25 : decode prog_8_method_1_code 25 = .ok (.putfield 16, 3) := by decide +kernel
theorem d_Mo_init_28 : decode prog_8_method_1_code 28 = .ok (.aload_n 0, 1) := by decide +kernel
theorem d_Mo_init_29 : decode prog_8_method_1_code 29 = .ok (.bipush 18, 2) := by decide +kernel
theorem d_Mo_init_31 : decode prog_8_method_1_code 31 = .ok (.newarray .int, 2) := by decide +kernel
theorem d_Mo_init_33 : decode prog_8_method_1_code 33 = .ok (.putfield 19, 3) := by decide +kernel
theorem d_Mo_init_36 : decode prog_8_method_1_code 36 = .ok (.aload_n 0, 1) := by decide +kernel
theorem d_Mo_init_37 : decode prog_8_method_1_code 37 = .ok (.bipush 18, 2) := by decide +kernel
theorem d_Mo_init_39 : decode prog_8_method_1_code 39 = .ok (.newarray .int, 2) := by decide +kernel
theorem d_Mo_init_41 : decode prog_8_method_1_code 41 = .ok (.putfield 22, 3) := by decide +kernel
theorem d_Mo_init_44 : decode prog_8_method_1_code 44 = .ok (.aload_n 0, 1) := by decide +kernel
theorem d_Mo_init_45 : decode prog_8_method_1_code 45 = .ok (.iconst 5, 1) := by decide +kernel
theorem d_Mo_init_46 : decode prog_8_method_1_code 46 = .ok (.newarray .int, 2) := by decide +kernel
theorem d_Mo_init_48 : decode prog_8_method_1_code 48 = .ok (.putfield 25, 3) := by decide +kernel
theorem d_Mo_init_51 : decode prog_8_method_1_code 51 = .ok (.aload_n 0, 1) := by decide +kernel
theorem d_Mo_init_52 : decode prog_8_method_1_code 52 = .ok (.iconst 5, 1) := by decide +kernel
theorem d_Mo_init_53 : decode prog_8_method_1_code 53 = .ok (.newarray .int, 2) := by decide +kernel
theorem d_Mo_init_55 : decode prog_8_method_1_code 55 = .ok (.putfield 28, 3) := by decide +kernel
theorem d_Mo_init_58 : decode prog_8_method_1_code 58 = .ok (.aload_n 0, 1) := by decide +kernel
theorem d_Mo_init_59 : decode prog_8_method_1_code 59 = .ok (.bipush 18, 2) := by decide +kernel
theorem d_Mo_init_61 : decode prog_8_method_1_code 61 = .ok (.newarray .int, 2) := by decide +kernel
theorem d_Mo_init_63 : decode prog_8_method_1_code 63 = .ok (.putfield 31, 3) := by decide +kernel
theorem d_Mo_init_66 : decode prog_8_method_1_code 66 = .ok (.aload_n 0, 1) := by decide +kernel
theorem d_Mo_init_67 : decode prog_8_method_1_code 67 = .ok (.bipush 18, 2) := by decide +kernel
theorem d_Mo_init_69 : decode prog_8_method_1_code 69 = .ok (.newarray .int, 2) := by decide +kernel
theorem d_Mo_init_71 : decode prog_8_method_1_code 71 = .ok (.putfield 34, 3) := by decide +kernel
theorem d_Mo_init_74 : decode prog_8_method_1_code 74 = .ok (.aload_n 0, 1) := by decide +kernel
theorem d_Mo_init_75 : decode prog_8_method_1_code 75 = .ok (.bipush 18, 2) := by decide +kernel
theorem d_Mo_init_77 : decode prog_8_method_1_code 77 = .ok (.newarray .int, 2) := by decide +kernel
theorem d_Mo_init_79 : decode prog_8_method_1_code 79 = .ok (.putfield 37, 3) := by decide +kernel
theorem d_Mo_init_82 : decode prog_8_method_1_code 82 = .ok (.aload_n 0, 1) := by decide +kernel
theorem d_Mo_init_83 : decode prog_8_method_1_code 83 = .ok (.bipush 18, 2) := by decide +kernel
theorem d_Mo_init_85 : decode prog_8_method_1_code 85 = .ok (.newarray .int, 2) := by decide +kernel
theorem d_Mo_init_87 : decode prog_8_method_1_code 87 = .ok (.putfield 40, 3) := by decide +kernel
theorem d_Mo_init_90 : decode prog_8_method_1_code 90 = .ok (.aload_n 0, 1) := by decide +kernel
theorem d_Mo_init_91 : decode prog_8_method_1_code 91 = .ok (.bipush 18, 2) := by decide +kernel
theorem d_Mo_init_93 : decode prog_8_method_1_code 93 = .ok (.newarray .int, 2) := by decide +kernel
theorem d_Mo_init_95 : decode prog_8_method_1_code 95 = .ok (.putfield 43, 3) := by decide +kernel
theorem d_Mo_init_98 : decode prog_8_method_1_code 98 = .ok (.aload_n 0, 1) := by decide +kernel
theorem d_Mo_init_99 : decode prog_8_method_1_code 99 = .ok (.bipush 18, 2) := by decide +kernel
theorem d_Mo_init_101 : decode prog_8_method_1_code 101 = .ok (.newarray .int, 2) := by decide +kernel
theorem d_Mo_init_103 : decode prog_8_method_1_code 103 = .ok (.putfield 46, 3) := by decide +kernel
theorem d_Mo_init_106 : decode prog_8_method_1_code 106 = .ok (.aload_n 0, 1) := by decide +kernel
theorem d_Mo_init_107 : decode prog_8_method_1_code 107 = .ok (.sipush 256, 3) := by decide +kernel
theorem d_Mo_init_110 : decode prog_8_method_1_code 110 = .ok (.newarray .int, 2) := by decide +kernel
theorem d_Mo_init_112 : decode prog_8_method_1_code 112 = .ok (.putfield 49, 3) := by decide +kernel
theorem d_Mo_init_115 : decode prog_8_method_1_code 115 = .ok (.aload_n 0, 1) := by decide +kernel
theorem d_Mo_init_116 : decode prog_8_method_1_code 116 = .ok (.sipush 256, 3) := by decide +kernel
theorem d_Mo_init_119 : decode prog_8_method_1_code 119 = .ok (.newarray .boolean, 2) := by decide +kernel
theorem d_Mo_init_121 : decode prog_8_method_1_code 121 = .ok (.putfield 52, 3) := by decide +kernel
theorem d_Mo_init_124 : decode prog_8_method_1_code 124 = .ok (.aload_n 0, 1) := by decide +kernel
theorem d_Mo_init_125 : decode prog_8_method_1_code 125 = .ok (.sipush 256, 3) := by decide +kernel
theorem d_Mo_init_128 : decode prog_8_method_1_code 128 = .ok (.newarray .int, 2) := by decide +kernel
theorem d_Mo_init_130 : decode prog_8_method_1_code 130 = .ok (.putfield 56, 3) := by decide +kernel
theorem d_Mo_init_133 : decode prog_8_method_1_code 133 = .ok (.aload_n 0, 1) := by decide +kernel
theorem d_Mo_init_134 : decode prog_8_method_1_code 134 = .ok (.sipush 256, 3) := by decide +kernel
theorem d_Mo_init_137 : decode prog_8_method_1_code 137 = .ok (.newarray .int, 2) := by decide +kernel
theorem d_Mo_init_139 : decode prog_8_method_1_code 139 = .ok (.putfield 59, 3) := by decide +kernel
theorem d_Mo_init_142 : decode prog_8_method_1_code 142 = .ok (.aload_n 0, 1) := by decide +kernel
theorem d_Mo_init_143 : decode prog_8_method_1_code 143 = .ok (.bipush 18, 2) := by decide +kernel
theorem d_Mo_init_145 : decode prog_8_method_1_code 145 = .ok (.newarray .boolean, 2) := by decide +kernel
theorem d_Mo_init_147 : decode prog_8_method_1_code 147 = .ok (.putfield 62, 3) := by decide +kernel
theorem d_Mo_init_150 : decode prog_8_method_1_code 150 = .ok (.aload_n 0, 1) := by decide +kernel
theorem d_Mo_init_151 : decode prog_8_method_1_code 151 = .ok (.sipush 256, 3) := by decide +kernel
theorem d_Mo_init_154 : decode prog_8_method_1_code 154 = .ok (.newarray .boolean, 2) := by decide +kernel
theorem d_Mo_init_156 : decode prog_8_method_1_code 156 = .ok (.putfield 65, 3) := by decide +kernel
theorem d_Mo_init_159 : decode prog_8_method_1_code 159 = .ok (.aload_n 0, 1) := by decide +kernel
theorem d_Mo_init_160 : decode prog_8_method_1_code 160 = .ok (.sipush 256, 3) := by decide +kernel
theorem d_Mo_init_163 : decode prog_8_method_1_code 163 = .ok (.newarray .boolean, 2) := by decide +kernel
theorem d_Mo_init_165 : decode prog_8_method_1_code 165 = .ok (.putfield 68, 3) := by decide +kernel
theorem d_Mo_init_168 : decode prog_8_method_1_code 168 = .ok (.aload_n 0, 1) := by decide +kernel
theorem d_Mo_init_169 : decode prog_8_method_1_code 169 = .ok (.bipush 32, 2) := by decide +kernel
theorem d_Mo_init_171 : decode prog_8_method_1_code 171 = .ok (.newarray .boolean, 2) := by decide +kernel
theorem d_Mo_init_173 : decode prog_8_method_1_code 173 = .ok (.putfield 71, 3) := by decide +kernel
theorem d_Mo_init_176 : decode prog_8_method_1_code 176 = .ok (.aload_n 0, 1) := by decide +kernel
theorem d_Mo_init_177 : decode prog_8_method_1_code 177 = .ok (.sipush 1280, 3) := by decide +kernel
theorem d_Mo_init_180 : decode prog_8_method_1_code 180 = .ok (.newarray .int, 2) := by decide +kernel
theorem d_Mo_init_182 : decode prog_8_method_1_code 182 = .ok (.putfield 74, 3) := by decide +kernel
theorem d_Mo_init_185 : decode prog_8_method_1_code 185 = .ok (.aload_n 0, 1) := by decide +kernel
theorem d_Mo_init_186 : decode prog_8_method_1_code 186 = .ok (.sipush 1280, 3) := by decide +kernel
theorem d_Mo_init_189 : decode prog_8_method_1_code 189 = .ok (.newarray .int, 2) := by decide +kernel
theorem d_Mo_init_191 : decode prog_8_method_1_code 191 = .ok (.putfield 77, 3) := by decide +kernel
theorem d_Mo_init_194 : decode prog_8_method_1_code 194 = .ok (.aload_n 0, 1) := by decide +kernel
theorem d_Mo_init_195 : decode prog_8_method_1_code 195 = .ok (.sipush 1280, 3) := by decide +kernel
theorem d_Mo_init_198 : decode prog_8_method_1_code 198 = .ok (.newarray .int, 2) := by decide +kernel
theorem d_Mo_init_200 : decode prog_8_method_1_code 200 = .ok (.putfield 80, 3) := by decide +kernel
theorem d_Mo_init_203 : decode prog_8_method_1_code 203 = .ok (.aload_n 0, 1) := by decide +kernel
theorem d_Mo_init_204 : decode prog_8_method_1_code 204 = .ok (.bipush 16, 2) := by decide +kernel
theorem d_Mo_init_206 : decode prog_8_method_1_code 206 = .ok (.newarray .int, 2) := by decide +kernel
theorem d_Mo_init_208 : decode prog_8_method_1_code 208 = .ok (.putfield 83, 3) := by decide +kernel
theorem d_Mo_init_211 : decode prog_8_method_1_code 211 = .ok (.aload_n 0, 1) := by decide +kernel
theorem d_Mo_init_212 : decode prog_8_method_1_code 212 = .ok (.sipush 288, 3) := by decide +kernel
theorem d_Mo_init_215 : decode prog_8_method_1_code 215 = .ok (.newarray .boolean, 2) := by decide +kernel
theorem d_Mo_init_217 : decode prog_8_method_1_code 217 = .ok (.putfield 86, 3) := by decide +kernel
theorem d_Mo_init_220 : decode prog_8_method_1_code 220 = .ok (.aload_n 0, 1) := by decide +kernel
theorem d_Mo_init_221 : decode prog_8_method_1_code 221 = .ok (.iconst 1, 1) := by decide +kernel
theorem d_Mo_init_222 : decode prog_8_method_1_code 222 = .ok (.putfield 89, 3) := by decide +kernel
theorem d_Mo_init_225 : decode prog_8_method_1_code 225 = .ok (.return_, 1) := by decide +kernel
theorem d_Fo_init_0 : decode prog_2_method_1_code 0 = .ok (.aload_n 0, 1) := by decide +kernel
theorem d_Fo_init_1 : decode prog_2_method_1_code 1 = .ok (.invokespecial 3, 3) := by decide +kernel
theorem d_Fo_init_4 : decode prog_2_method_1_code 4 = .ok (.aload_n 0, 1) := by decide +kernel
theorem d_Fo_init_5 : decode prog_2_method_1_code 5 = .ok (.bipush 18, 2) := by decide +kernel
theorem d_Fo_init_7 : decode prog_2_method_1_code 7 = .ok (.newarray .int, 2) := by decide +kernel
theorem d_Fo_init_9 : decode prog_2_method_1_code 9 = .ok (.putfield 9, 3) := by decide +kernel
theorem d_Fo_init_12 : decode prog_2_method_1_code 12 = .ok (.aload_n 0, 1) := by decide +kernel
theorem d_Fo_init_13 : decode prog_2_method_1_code 13 = .ok (.bipush 18, 2) := by decide +kernel
theorem d_Fo_init_15 : decode prog_2_method_1_code 15 = .ok (.newarray .int, 2) := by decide +kernel
theorem d_Fo_init_17 : decode prog_2_method_1_code 17 = .ok (.putfield 15, 3) := by decide +kernel
theorem d_Fo_init_20 : decode prog_2_method_1_code 20 = .ok (.aload_n 0, 1) := by decide +kernel
theorem d_Fo_init_21 : decode prog_2_method_1_code 21 = .ok (.bipush 18, 2) := by decide +kernel
theorem d_Fo_init_23 : decode prog_2_method_1_code 23 = .ok (.newarray .int, 2) := by decide +kernel
theorem d_Fo_init_25 : decode prog_2_method_1_code 25 = .ok (.putfield 18, 3) := by decide +kernel
theorem d_Fo_init_28 : decode prog_2_method_1_code 28 = .ok (.aload_n 0, 1) := by decide +kernel
theorem d_Fo_init_29 : decode prog_2_method_1_code 29 = .ok (.bipush 18, 2) := by decide +kernel
theorem d_Fo_init_31 : decode prog_2_method_1_code 31 = .ok (.newarray .int, 2) := by decide +kernel
theorem d_Fo_init_33 : decode prog_2_method_1_code 33 = .ok (.putfield 21, 3) := by decide +kernel
theorem d_Fo_init_36 : decode prog_2_method_1_code 36 = .ok (.aload_n 0, 1) := by decide +kernel
theorem d_Fo_init_37 : decode prog_2_method_1_code 37 = .ok (.iconst 5, 1) := by decide +kernel
theorem d_Fo_init_38 : decode prog_2_method_1_code 38 = .ok (.newarray .int, 2) := by decide +kernel
theorem d_Fo_init_40 : decode prog_2_method_1_code 40 = .ok (.putfield 24, 3) := by decide +kernel
theorem d_Fo_init_43 : decode prog_2_method_1_code 43 = .ok (.aload_n 0, 1) := by decide +kernel
theorem d_Fo_init_44 : decode prog_2_method_1_code 44 = .ok (.iconst 5, 1) := by decide +kernel
theorem d_Fo_init_45 : decode prog_2_method_1_code 45 = .ok (.newarray .int, 2) := by decide +kernel
theorem d_Fo_init_47 : decode prog_2_method_1_code 47 = .ok (.putfield 27, 3) := by decide +kernel
theorem d_Fo_init_50 : decode prog_2_method_1_code 50 = .ok (.aload_n 0, 1) := by decide +kernel
theorem d_Fo_init_51 : decode prog_2_method_1_code 51 = .ok (.bipush 18, 2) := by decide +kernel
theorem d_Fo_init_53 : decode prog_2_method_1_code 53 = .ok (.newarray .int, 2) := by decide +kernel
theorem d_Fo_init_55 : decode prog_2_method_1_code 55 = .ok (.putfield 30, 3) := by decide +kernel
theorem d_Fo_init_58 : decode prog_2_method_1_code 58 = .ok (.aload_n 0, 1) := by decide +kernel
theorem d_Fo_init_59 : decode prog_2_method_1_code 59 = .ok (.iconst 0, 1) := by decide +kernel
theorem d_Fo_init_60 : decode prog_2_method_1_code 60 = .ok (.putfield 33, 3) := by decide +kernel
theorem d_Fo_init_63 : decode prog_2_method_1_code 63 = .ok (.aload_n 0, 1) := by decide +kernel
theorem d_Fo_init_64 : decode prog_2_method_1_code 64 = .ok (.iconst 0, 1) := by decide +kernel
theorem d_Fo_init_65 : decode prog_2_method_1_code 65 = .ok (.putfield 37, 3) := by decide +kernel
theorem d_Fo_init_68 : decode prog_2_method_1_code 68 = .ok (.aload_n 0, 1) := by decide +kernel
theorem d_Fo_init_69 : decode prog_2_method_1_code 69 = .ok (.iconst 0, 1) := by decide +kernel
theorem d_Fo_init_70 : decode prog_2_method_1_code 70 = .ok (.putfield 40, 3) := by decide +kernel
theorem d_Fo_init_73 : decode prog_2_method_1_code 73 = .ok (.return_, 1) := by decide +kernel
theorem d_Gw_init_0 : decode prog_3_method_1_code 0 = .ok (.aload_n 0, 1) := by decide +kernel
theorem d_Gw_init_1 : decode prog_3_method_1_code 1 = .ok (.invokespecial 3, 3) := by decide +kernel
theorem d_Gw_init_4 : decode prog_3_method_1_code 4 = .ok (.aload_n 0, 1) := by decide +kernel
theorem d_Gw_init_5 : decode prog_3_method_1_code 5 = .ok (.bipush 16, 2) := by decide +kernel
theorem d_Gw_init_7 : decode prog_3_method_1_code 7 = .ok (.newarray .int, 2) := by decide +kernel
theorem d_Gw_init_9 : decode prog_3_method_1_code 9 = .ok (.putfield 9, 3) := by decide +kernel
theorem d_Gw_init_12 : decode prog_3_method_1_code 12 = .ok (.aload_n 0, 1) := by decide +kernel
theorem d_Gw_init_13 : decode prog_3_method_1_code 13 = .ok (.iconst 0, 1) := by decide +kernel
theorem d_Gw_init_14 : decode prog_3_method_1_code 14 = .ok (.putfield 15, 3) := by decide +kernel
theorem d_Gw_init_17 : decode prog_3_method_1_code 17 = .ok (.aload_n 0, 1) := by decide +kernel
theorem d_Gw_init_18 : decode prog_3_method_1_code 18 = .ok (.iconst 1, 1) := by decide +kernel
theorem d_Gw_init_19 : decode prog_3_method_1_code 19 = .ok (.putfield 19, 3) := by decide +kernel
theorem d_Gw_init_22 : decode prog_3_method_1_code 22 = .ok (.return_, 1) := by decide +kernel
theorem d_La_init_0 : decode prog_4_method_1_code 0 = .ok (.aload_n 0, 1) := by decide +kernel
theorem d_La_init_1 : decode prog_4_method_1_code 1 = .ok (.invokespecial 3, 3) := by decide +kernel
theorem d_La_init_4 : decode prog_4_method_1_code 4 = .ok (.aload_n 0, 1) := by decide +kernel
theorem d_La_init_5 : decode prog_4_method_1_code 5 = .ok (.sipush 256, 3) := by decide +kernel
theorem d_La_init_8 : decode prog_4_method_1_code 8 = .ok (.newarray .int, 2) := by decide +kernel
theorem d_La_init_10 : decode prog_4_method_1_code 10 = .ok (.putfield 9, 3) := by decide +kernel
theorem d_La_init_13 : decode prog_4_method_1_code 13 = .ok (.aload_n 0, 1) := by decide +kernel
theorem d_La_init_14 : decode prog_4_method_1_code 14 = .ok (.sipush 256, 3) := by decide +kernel
theorem d_La_init_17 : decode prog_4_method_1_code 17 = .ok (.newarray .int, 2) := by decide +kernel
theorem d_La_init_19 : decode prog_4_method_1_code 19 = .ok (.putfield 15, 3) := by decide +kernel
theorem d_La_init_22 : decode prog_4_method_1_code 22 = .ok (.aload_n 0, 1) := by decide +kernel
theorem d_La_init_23 : decode prog_4_method_1_code 23 = .ok (.sipush 256, 3) := by decide +kernel
theorem d_La_init_26 : decode prog_4_method_1_code 26 = .ok (.newarray .int, 2) := by decide +kernel
theorem d_La_init_28 : decode prog_4_method_1_code 28 = .ok (.putfield 18, 3) := by decide +kernel
theorem d_La_init_31 : decode prog_4_method_1_code 31 = .ok (.aload_n 0, 1) := by decide +kernel
theorem d_La_init_32 : decode prog_4_method_1_code 32 = .ok (.sipush 256, 3) := by decide +kernel
theorem d_La_init_35 : decode prog_4_method_1_code 35 = .ok (.newarray .boolean, 2) := by decide +kernel
theorem d_La_init_37 : decode prog_4_method_1_code 37 = .ok (.putfield 21, 3) := by decide +kernel
theorem d_La_init_40 : decode prog_4_method_1_code 40 = .ok (.aload_n 0, 1) := by decide +kernel
theorem d_La_init_41 : decode prog_4_method_1_code 41 = .ok (.sipush 256, 3) := by decide +kernel
theorem d_La_init_44 : decode prog_4_method_1_code 44 = .ok (.newarray .boolean, 2) := by decide +kernel
theorem d_La_init_46 : decode prog_4_method_1_code 46 = .ok (.putfield 25, 3) := by decide +kernel
theorem d_La_init_49 : decode prog_4_method_1_code 49 = .ok (.aload_n 0, 1) := by decide +kernel
theorem d_La_init_50 : decode prog_4_method_1_code 50 = .ok (.sipush 1280, 3) := by decide +kernel
theorem d_La_init_53 : decode prog_4_method_1_code 53 = .ok (.newarray .int, 2) := by decide +kernel
theorem d_La_init_55 : decode prog_4_method_1_code 55 = .ok (.putfield 28, 3) := by decide +kernel
theorem d_La_init_58 : decode prog_4_method_1_code 58 = .ok (.aload_n 0, 1) := by decide +kernel
theorem d_La_init_59 : decode prog_4_method_1_code 59 = .ok (.sipush 256, 3) := by decide +kernel
theorem d_La_init_62 : decode prog_4_method_1_code 62 = .ok (.newarray .int, 2) := by decide +kernel
theorem d_La_init_64 : decode prog_4_method_1_code 64 = .ok (.putfield 31, 3) := by decide +kernel
theorem d_La_init_67 : decode prog_4_method_1_code 67 = .ok (.aload_n 0, 1) := by decide +kernel
theorem d_La_init_68 : decode prog_4_method_1_code 68 = .ok (.iconst 0, 1) := by decide +kernel
theorem d_La_init_69 : decode prog_4_method_1_code 69 = .ok (.putfield 34, 3) := by decide +kernel
theorem d_La_init_72 : decode prog_4_method_1_code 72 = .ok (.aload_n 0, 1) := by decide +kernel
theorem d_La_init_73 : decode prog_4_method_1_code 73 = .ok (.iconst 0, 1) := by decide +kernel
theorem d_La_init_74 : decode prog_4_method_1_code 74 = .ok (.putfield 38, 3) := by decide +kernel
theorem d_La_init_77 : decode prog_4_method_1_code 77 = .ok (.aload_n 0, 1) := by decide +kernel
theorem d_La_init_78 : decode prog_4_method_1_code 78 = .ok (.iconst 0, 1) := by decide +kernel
theorem d_La_init_79 : decode prog_4_method_1_code 79 = .ok (.putfield 41, 3) := by decide +kernel
theorem d_La_init_82 : decode prog_4_method_1_code 82 = .ok (.return_, 1) := by decide +kernel
theorem d_Li_init_0 : decode prog_5_method_1_code 0 = .ok (.aload_n 0, 1) := by decide +kernel
theorem d_Li_init_1 : decode prog_5_method_1_code 1 = .ok (.invokespecial 3, 3) := by decide +kernel
theorem d_Li_init_4 : decode prog_5_method_1_code 4 = .ok (.aload_n 0, 1) := by decide +kernel
theorem d_Li_init_5 : decode prog_5_method_1_code 5 = .ok (.bipush 18, 2) := by decide +kernel
theorem d_Li_init_7 : decode prog_5_method_1_code 7 = .ok (.newarray .char, 2) := by decide +kernel
theorem d_Li_init_9 : decode prog_5_method_1_code 9 = .ok (.putfield 9, 3) := by decide +kernel
theorem d_Li_init_12 : decode prog_5_method_1_code 12 = .ok (.aload_n 0, 1) := by decide +kernel
theorem d_Li_init_13 : decode prog_5_method_1_code 13 = .ok (.iconst 0, 1) := by decide +kernel
theorem d_Li_init_14 : decode prog_5_method_1_code 14 = .ok (.putfield 15, 3) := by decide +kernel
theorem d_Li_init_17 : decode prog_5_method_1_code 17 = .ok (.aload_n 0, 1) := by decide +kernel
theorem d_Li_init_18 : decode prog_5_method_1_code 18 = .ok (.iconst 0, 1) := by decide +kernel
theorem d_Li_init_19 : decode prog_5_method_1_code 19 = .ok (.putfield 19, 3) := by decide +kernel
theorem d_Li_init_22 : decode prog_5_method_1_code 22 = .ok (.return_, 1) := by decide +kernel
theorem d_Wa_init_0 : decode prog_6_method_1_code 0 = .ok (.aload_n 0, 1) := by decide +kernel
theorem d_Wa_init_1 : decode prog_6_method_1_code 1 = .ok (.invokespecial 3, 3) := by decide +kernel
theorem d_Wa_init_4 : decode prog_6_method_1_code 4 = .ok (.aload_n 0, 1) := by decide +kernel
theorem d_Wa_init_5 : decode prog_6_method_1_code 5 = .ok (.sipush 1281, 3) := by decide +kernel
theorem d_Wa_init_8 : decode prog_6_method_1_code 8 = .ok (.newarray .int, 2) := by decide +kernel
theorem d_Wa_init_10 : decode prog_6_method_1_code 10 = .ok (.putfield 11, 3) := by decide +kernel
theorem d_Wa_init_13 : decode prog_6_method_1_code 13 = .ok (.aload_n 0, 1) := by decide +kernel
theorem d_Wa_init_14 : decode prog_6_method_1_code 14 = .ok (.sipush 1280, 3) := by decide +kernel
theorem d_Wa_init_17 : decode prog_6_method_1_code 17 = .ok (.newarray .int, 2) := by decide +kernel
theorem d_Wa_init_19 : decode prog_6_method_1_code 19 = .ok (.putfield 15, 3) := by decide +kernel
theorem d_Wa_init_22 : decode prog_6_method_1_code 22 = .ok (.aload_n 0, 1) := by decide +kernel
theorem d_Wa_init_23 : decode prog_6_method_1_code 23 = .ok (.iconst (-1), 1) := by decide +kernel
theorem d_Wa_init_24 : decode prog_6_method_1_code 24 = .ok (.putfield 18, 3) := by decide +kernel
theorem d_Wa_init_27 : decode prog_6_method_1_code 27 = .ok (.aload_n 0, 1) := by decide +kernel
theorem d_Wa_init_28 : decode prog_6_method_1_code 28 = .ok (.iconst (-1), 1) := by decide +kernel
theorem d_Wa_init_29 : decode prog_6_method_1_code 29 = .ok (.putfield 22, 3) := by decide +kernel
theorem d_Wa_init_32 : decode prog_6_method_1_code 32 = .ok (.return_, 1) := by decide +kernel
end
section
/-! THE ABSTRACT WALK. A world is a list of cells, the k-th of them at the address g.1 + k (g.1: the heap's size at the law's entry; nothing else is made while the world is made); references in it, on the stack and in the locals are places. AW: from this point of a method the machine comes to the method's end with the result r. -/
def q_cv (g : Nat × Nat) (v : Value) : Value := match v with
  | .ref k => .ref (if k < 900 then g.1 + k else g.2)
  | w => w
theorem q_cv_cat (g : Nat × Nat) (v : Value) : (q_cv g v).category = v.category := by cases v <;> rfl
def q_ce (g : Nat × Nat) (e : va_E) : va_E := match e with
  | .inl a => .inl a
  | .inr o => .inr (o.1, o.2.map (q_cv g))
def q_wz (g : Nat × Nat) (ws : List va_E) : va_W := ws.mapIdx fun k e => (g.1 + k, q_ce g e)
theorem q_wz_at {g : Nat × Nat} {ws : List va_E} {k : Nat} {e : va_E} (h : ws[k]? = some e) : (q_wz g ws)[k]? = some (g.1 + k, q_ce g e) := by
  simp [q_wz, List.getElem?_mapIdx, h]
theorem q_wz_set {g : Nat × Nat} {ws : List va_E} {k : Nat} {e : va_E} : (q_wz g ws).set k (g.1 + k, q_ce g e) = q_wz g (ws.set k e) := by
  apply List.ext_getElem?
  intro i
  by_cases h : k = i
  · subst h
    by_cases h2 : k < ws.length
    · simp [q_wz, List.getElem?_mapIdx, List.getElem?_set, h2]
    · simp [q_wz, List.getElem?_mapIdx, List.getElem?_set, h2]
  · simp [q_wz, List.getElem?_mapIdx, List.getElem?_set, h]
theorem q_wz_push {g : Nat × Nat} {ws : List va_E} {e : va_E} : q_wz g ws ++ [(g.1 + ws.length, q_ce g e)] = q_wz g (ws ++ [e]) := by
  simp [q_wz, List.mapIdx_append]
abbrev q_A (g : Nat × Nat) : Nat → Prop := fun q => g.1 ≤ q
theorem q_D (g : Nat × Nat) (ws : List va_E) : va_D (q_A g) (q_wz g ws) := by
  refine ⟨fun i j p q hi hj e => ?_, fun k q hk => ?_⟩
  · simp only [q_wz, List.getElem?_mapIdx, Option.map_eq_some_iff] at hi hj
    obtain ⟨a, -, rfl⟩ := hi
    obtain ⟨b, -, rfl⟩ := hj
    have e' : g.1 + i = g.1 + j := e
    omega
  · simp only [q_wz, List.getElem?_mapIdx, Option.map_eq_some_iff] at hk
    obtain ⟨a, -, rfl⟩ := hk
    exact Nat.le_add_right _ _
def q_lv (g : Nat × Nat) (lv : List (Nat × Value)) : List (Nat × Value) := lv.map fun q => (q.1, q_cv g q.2)
theorem q_lv_at {g : Nat × Nat} {lv : List (Nat × Value)} {k i : Nat} {v : Value} (h : lv[k]? = some (i, v)) : (q_lv g lv)[k]? = some (i, q_cv g v) := by
  simp [q_lv, h]
theorem q_lv_put (g : Nat × Nat) (lv : List (Nat × Value)) (i : Nat) (v : Value) :
    (i, q_cv g v) :: (q_lv g lv).filter (fun q => !(q.1 == i) && !(q.1 + 1 == i && q.2.category == 2)) = q_lv g ((i, v) :: lv.filter (fun q => !(q.1 == i) && !(q.1 + 1 == i && q.2.category == 2))) := by
  simp only [q_lv, List.map_cons, List.filter_map]
  congr 2
  apply List.filter_congr
  intro q _
  simp [q_cv_cat]
theorem q_lv_pick (g : Nat × Nat) (lv : List (Nat × Value)) (ks : List Nat) : lv_pick (q_lv g lv) ks = q_lv g (lv_pick lv ks) := by
  simp only [lv_pick, q_lv, List.map_filterMap, List.getElem?_map]
/-- the law's entry: the launch, the state there, the classes' numbers and slots, the array classes, the script -/
abbrev q_E : Type := Launch × State × va_G × (Nat → ClassId) × Nat × Nat × (Nat → Int32)
abbrev q_l (E : q_E) : Launch := E.1
abbrev q_s (E : q_E) : State := E.2.1
abbrev q_DD (E : q_E) : va_G := E.2.2.1
abbrev q_kA (E : q_E) : Nat → ClassId := E.2.2.2.1
abbrev q_g (E : q_E) : Nat × Nat := (E.2.1.heap.size, E.2.2.2.2.1)
abbrev q_L (E : q_E) : Nat := E.2.2.2.2.2.1
abbrev q_xs (E : q_E) : Nat → Int32 := E.2.2.2.2.2.2
def q_tys (E : q_E) : List (ClassId × FieldType) := [(q_kA E 0, .int), (q_kA E 1, .boolean), (q_kA E 2, .char), (q_kA E 3, .long)]
/-- what holds of the law's entry -/
def q_S0 (E : q_E) : Prop := (∀ w ∈ lw_tbl, w.before #[Value.ref (q_g E).2] (q_s E) = true) ∧ va_K (q_DD E) q_cl (q_tys E) (q_s E) ∧ va_X (q_g E).2 (q_L E) (q_xs E) (q_s E) (q_s E).heap ∧ (q_g E).2 < (q_g E).1 ∧ (q_l E).flags = flags0 ∧ (Jvm.Cond.and given_1 narrow_1).before #[Value.ref (q_g E).2] (q_s E) = true ∧ q_L E ≤ 1536
/-- a later state: warmer tables, the old cells as they were -/
def q_St (E : q_E) (s : State) : Prop := (q_s E).WarmedH s.vm ∧ (q_s E).heap.size ≤ s.heap.size ∧ ∀ q : Nat, q < (q_s E).heap.size → s.heap[q]? = (q_s E).heap[q]?
theorem q_St.K {E : q_E} {s : State} (h : q_St E s) (h0 : q_S0 E) : va_K (q_DD E) q_cl (q_tys E) s := va_K.moved h.1.alike h0.2.1
theorem q_w {E : q_E} {s : State} {args : Array Value} (h0 : q_S0 E) (h : q_St E s) {w : Cond} (hw : w ∈ lw_tbl) (hg : (w.onTables && w.keeps) = true) : w.before args s = true := word_at h.1 (Or.inl hg) (h0.1 w hw)
theorem q_wA {E : q_E} {s : State} {args : Array Value} (h0 : q_S0 E) (h : q_St E s) {ty : FieldType} (hw : Cond.arrayClass ty ∈ lw_tbl) : (Cond.arrayClass ty).before args s = true := word_at h.1 (Or.inr ⟨ty, rfl⟩) (h0.1 _ hw)
theorem q_wM {E : q_E} {s : State} {args : Array Value} (h0 : q_S0 E) (h : q_St E s) {a : String} {i : Nat} {x : MethodName} {ho : String} (hw : Cond.methodLinkNest a i x ho ∈ lw_tbl) : (Cond.methodLinkNest a i x ho).before args s = true := va_Nw.use rfl (va_Nw.warmM h.1 (va_Nw.of rfl (h0.1 _ hw)))
theorem q_St.to {E : q_E} {s U : State} {H : Heap} {locs : List Loc} (h : q_St E s) (hS : va_S (q_A (q_g E)) s.heap H locs) (hU : U.heap = H) (hW : s.WarmedH U.vm) : q_St E U := by
  refine ⟨State.WarmedH.trans h.1 hW, by rw [hU]; exact Nat.le_trans h.2.1 hS.1, fun q hq => ?_⟩
  rw [hU, hS.2.1 q (Nat.lt_of_lt_of_le hq h.2.1) (fun h' => absurd h' (Nat.not_le.mpr hq))]
  exact h.2.2 q hq
/-- a world's cells lie in the heap -/
theorem q_len {D : va_G} {cl : List vw_C} {g : Nat × Nat} {ws : List va_E} {H : Heap} (h : va_P D cl (q_wz g ws) H) (h0 : g.1 ≤ H.size) : g.1 + ws.length ≤ H.size := by
  by_cases hz : ws.length = 0
  · omega
  · obtain ⟨e, he⟩ : ∃ e, ws[ws.length - 1]? = some e := ⟨_, List.getElem?_eq_getElem (by omega)⟩
    have h1 : g.1 + (ws.length - 1) < H.size := (h _ _ (q_wz_at he)).lt
    omega
/-- an end: returned, or threw an object of the k-th kind -/
def q_Out (E : q_E) (x : Option Value ⊕ Nat) (o : Outcome) (s t : State) : Prop := match x with
  | .inl v => o = .returned (v.map (q_cv (q_g E)))
  | .inr k => ∃ (a : Addr) (cell : Cell), o = .threw a ∧ t.heap[a]? = some cell ∧ cell.vm = .none ∧ s.vm.findClass (q_ex k) = some cell.cls ∧ s.vm.assignable cell.cls cell.cls = true
/-- a result: the end, the world behind it, how many cells and slots at the most were made -/
abbrev q_R : Type := (Option Value ⊕ Nat) × List va_E × Nat × Nat
def q_Q (E : q_E) (r : q_R) (s : State) (o : Outcome) (t : State) : Prop :=
  q_Out E r.1 o s t ∧ va_P (q_DD E) q_cl (q_wz (q_g E) r.2.1) t.heap ∧ va_F (q_A (q_g E)) s t ∧ s.WarmedH t.vm ∧ ∃ Lc : List Loc, s.sameButNew ({ t with vm := s.vm } : State) Lc r.2.2.1 r.2.2.2 ∧ ∀ q ∈ Lc, q_A (q_g E) q.base
def q_End (E : q_E) (r : q_R) (s : State) (below : List Frame) (t : State) : Prop := ∃ o, t.status = .running ∧ Ended t below o ∧ q_Q E r s o t
/-- a method: code, locals, result type, class, name, handlers; and, while the world is being made, how many cells of it are there at the method's entry -/
abbrev q_M : Type := ByteArray × Nat × Option FieldType × String × String × List (Nat × Nat × Nat × Nat) × Option Nat
def q_Cx (E : q_E) (M : q_M) (p : Program) (s : State) (m : MethodId) (meth : Method) (c : Code) : Prop :=
  q_S0 E ∧ q_St E s ∧ p.tables.exec = Jvm.exec ∧ c.code = M.1 ∧ c.maxLocals = M.2.1 ∧ meth.sig.returnType = M.2.2.1 ∧ meth.locks = false ∧ c.exceptionTable.toList.map (fun h => (h.startPc, h.endPc, h.handlerPc, h.catchType)) = M.2.2.2.2.2.1 ∧ s.vm.findClass M.2.2.2.1 = some m.cls ∧ meth.name = M.2.2.2.2.1 ∧ ∀ k, M.2.2.2.2.2.2 = some k → s.heap.size = (q_g E).1 + k
def AW (E : q_E) (R : Room) (M : q_M) (ws : List va_E) (ce sl pc : Nat) (lv : List (Nat × Value)) (st : List Value) (r : q_R) : Prop :=
  ∀ (p : Program) (e : Env) (s : State) (m : MethodId) (args : Array Value) (below : List Frame) (meth : Method) (c : Code) (H : Heap) (locs : List Loc) (ls : Array Slot),
    q_Cx E M p s m meth c → va_P (q_DD E) q_cl (q_wz (q_g E) ws) H → va_S (q_A (q_g E)) s.heap H locs → lv_has ls M.2.1 (q_lv (q_g E) lv) →
    W p (q_l E) e R s m args below meth c H locs ce sl (q_End E r s below) (F0 m pc ls (st.map (q_cv (q_g E))))
theorem q_mono {p : Program} {l : Launch} {e : Env} {R : Room} {s : State} {m : MethodId} {args : Array Value} {below : List Frame} {meth : Method} {c : Code} {H : Heap} {locs : List Loc} {cells slots : Nat} {Q Q' : State → Prop} {g : JFrame} (h : ∀ t, Q t → Q' t) (k : W p l e R s m args below meth c H locs cells slots Q g) : W p l e R s m args below meth c H locs cells slots Q' g :=
  fun T hT X => let ⟨t, a, b⟩ := k T hT X; ⟨t, a, h t b⟩
/-- the heap is no larger than the cells made say -/
theorem q_size {p : Program} {l : Launch} {e : Env} {R : Room} {s : State} {m : MethodId} {args : Array Value} {below : List Frame} {meth : Method} {c : Code} {H : Heap} {locs : List Loc} {cells slots : Nat} {Q : State → Prop} {g : JFrame} (k : H.size ≤ s.heap.size + cells → W p l e R s m args below meth c H locs cells slots Q g) : W p l e R s m args below meth c H locs cells slots Q g :=
  fun T hT X => k (by rw [← hT]; exact X.heapSize) T hT X
section QR
variable {E : q_E} {R : Room} {M : q_M} {ws : List va_E} {ce sl pc : Nat} {lv : List (Nat × Value)} {st : List Value} {r : q_R}
theorem q_iadd {x y : Int32} (n : Nat) (hd : decode M.1 pc = .ok (.iadd, 1)) (hn : pc + 1 = n) (k : AW E R M ws ce sl n lv (.int (x + y) :: st) r) : AW E R M ws ce sl pc lv (.int y :: .int x :: st) r := by
  subst hn
  intro p e s m args below meth c H locs ls hC hP hS hl
  obtain ⟨h0, ht, hx, hb, hml, hr, hlk, hh, hown, hnm, hn0⟩ := id hC
  exact lv_iadd hx hb hd (k p e s m args below meth c H locs ls hC hP hS hl)
theorem q_isub {x y : Int32} (n : Nat) (hd : decode M.1 pc = .ok (.isub, 1)) (hn : pc + 1 = n) (k : AW E R M ws ce sl n lv (.int (x - y) :: st) r) : AW E R M ws ce sl pc lv (.int y :: .int x :: st) r := by
  subst hn
  intro p e s m args below meth c H locs ls hC hP hS hl
  obtain ⟨h0, ht, hx, hb, hml, hr, hlk, hh, hown, hnm, hn0⟩ := id hC
  exact lv_isub hx hb hd (k p e s m args below meth c H locs ls hC hP hS hl)
theorem q_imul {x y : Int32} (n : Nat) (hd : decode M.1 pc = .ok (.imul, 1)) (hn : pc + 1 = n) (k : AW E R M ws ce sl n lv (.int (x * y) :: st) r) : AW E R M ws ce sl pc lv (.int y :: .int x :: st) r := by
  subst hn
  intro p e s m args below meth c H locs ls hC hP hS hl
  obtain ⟨h0, ht, hx, hb, hml, hr, hlk, hh, hown, hnm, hn0⟩ := id hC
  exact lv_imul hx hb hd (k p e s m args below meth c H locs ls hC hP hS hl)
theorem q_iand {x y : Int32} (n : Nat) (hd : decode M.1 pc = .ok (.iand, 1)) (hn : pc + 1 = n) (k : AW E R M ws ce sl n lv (.int (x &&& y) :: st) r) : AW E R M ws ce sl pc lv (.int y :: .int x :: st) r := by
  subst hn
  intro p e s m args below meth c H locs ls hC hP hS hl
  obtain ⟨h0, ht, hx, hb, hml, hr, hlk, hh, hown, hnm, hn0⟩ := id hC
  exact lv_iand hx hb hd (k p e s m args below meth c H locs ls hC hP hS hl)
theorem q_ior {x y : Int32} (n : Nat) (hd : decode M.1 pc = .ok (.ior, 1)) (hn : pc + 1 = n) (k : AW E R M ws ce sl n lv (.int (x ||| y) :: st) r) : AW E R M ws ce sl pc lv (.int y :: .int x :: st) r := by
  subst hn
  intro p e s m args below meth c H locs ls hC hP hS hl
  obtain ⟨h0, ht, hx, hb, hml, hr, hlk, hh, hown, hnm, hn0⟩ := id hC
  exact lv_ior hx hb hd (k p e s m args below meth c H locs ls hC hP hS hl)
theorem q_ixor {x y : Int32} (n : Nat) (hd : decode M.1 pc = .ok (.ixor, 1)) (hn : pc + 1 = n) (k : AW E R M ws ce sl n lv (.int (x ^^^ y) :: st) r) : AW E R M ws ce sl pc lv (.int y :: .int x :: st) r := by
  subst hn
  intro p e s m args below meth c H locs ls hC hP hS hl
  obtain ⟨h0, ht, hx, hb, hml, hr, hlk, hh, hown, hnm, hn0⟩ := id hC
  exact lv_ixor hx hb hd (k p e s m args below meth c H locs ls hC hP hS hl)
theorem q_ishl {x y : Int32} (n : Nat) (hd : decode M.1 pc = .ok (.ishl, 1)) (hn : pc + 1 = n) (k : AW E R M ws ce sl n lv (.int (x <<< (y &&& 31)) :: st) r) : AW E R M ws ce sl pc lv (.int y :: .int x :: st) r := by
  subst hn
  intro p e s m args below meth c H locs ls hC hP hS hl
  obtain ⟨h0, ht, hx, hb, hml, hr, hlk, hh, hown, hnm, hn0⟩ := id hC
  exact lv_ishl hx hb hd (k p e s m args below meth c H locs ls hC hP hS hl)
theorem q_ishr {x y : Int32} (n : Nat) (hd : decode M.1 pc = .ok (.ishr, 1)) (hn : pc + 1 = n) (k : AW E R M ws ce sl n lv (.int (x >>> (y &&& 31)) :: st) r) : AW E R M ws ce sl pc lv (.int y :: .int x :: st) r := by
  subst hn
  intro p e s m args below meth c H locs ls hC hP hS hl
  obtain ⟨h0, ht, hx, hb, hml, hr, hlk, hh, hown, hnm, hn0⟩ := id hC
  exact lv_ishr hx hb hd (k p e s m args below meth c H locs ls hC hP hS hl)
theorem q_iushr {x y : Int32} (n : Nat) (hd : decode M.1 pc = .ok (.iushr, 1)) (hn : pc + 1 = n) (k : AW E R M ws ce sl n lv (.int ((x.toUInt32 >>> (y.toUInt32 &&& Int32.toUInt32 31)).toInt32) :: st) r) : AW E R M ws ce sl pc lv (.int y :: .int x :: st) r := by
  subst hn
  intro p e s m args below meth c H locs ls hC hP hS hl
  obtain ⟨h0, ht, hx, hb, hml, hr, hlk, hh, hown, hnm, hn0⟩ := id hC
  exact lv_iushr hx hb hd rfl (k p e s m args below meth c H locs ls hC hP hS hl)
theorem q_irem {x y : Int32} (n : Nat) (hd : decode M.1 pc = .ok (.irem, 1)) (hn : pc + 1 = n) (hne : ¬ y = 0) (k : AW E R M ws ce sl n lv (.int (x - x / y * y) :: st) r) : AW E R M ws ce sl pc lv (.int y :: .int x :: st) r := by
  subst hn
  intro p e s m args below meth c H locs ls hC hP hS hl
  obtain ⟨h0, ht, hx, hb, hml, hr, hlk, hh, hown, hnm, hn0⟩ := id hC
  exact lv_irem hx hb hd hne (k p e s m args below meth c H locs ls hC hP hS hl)
theorem q_idiv {x y : Int32} (n : Nat) (hd : decode M.1 pc = .ok (.idiv, 1)) (hn : pc + 1 = n) (hne : ¬ y = 0) (k : AW E R M ws ce sl n lv (.int (x / y) :: st) r) : AW E R M ws ce sl pc lv (.int y :: .int x :: st) r := by
  subst hn
  intro p e s m args below meth c H locs ls hC hP hS hl
  obtain ⟨h0, ht, hx, hb, hml, hr, hlk, hh, hown, hnm, hn0⟩ := id hC
  exact lv_idiv hx hb hd hne (k p e s m args below meth c H locs ls hC hP hS hl)
theorem q_ineg {x : Int32} (n : Nat) (hd : decode M.1 pc = .ok (.ineg, 1)) (hn : pc + 1 = n) (k : AW E R M ws ce sl n lv (.int (-x) :: st) r) : AW E R M ws ce sl pc lv (.int x :: st) r := by
  subst hn
  intro p e s m args below meth c H locs ls hC hP hS hl
  obtain ⟨h0, ht, hx, hb, hml, hr, hlk, hh, hown, hnm, hn0⟩ := id hC
  exact lv_ineg hx hb hd (k p e s m args below meth c H locs ls hC hP hS hl)
theorem q_i2l {x : Int32} (n : Nat) (hd : decode M.1 pc = .ok (.i2l, 1)) (hn : pc + 1 = n) (k : AW E R M ws ce sl n lv (.long x.toInt64 :: st) r) : AW E R M ws ce sl pc lv (.int x :: st) r := by
  subst hn
  intro p e s m args below meth c H locs ls hC hP hS hl
  obtain ⟨h0, ht, hx, hb, hml, hr, hlk, hh, hown, hnm, hn0⟩ := id hC
  exact lv_i2l hx hb hd rfl (k p e s m args below meth c H locs ls hC hP hS hl)
theorem q_i2c {x : Int32} (n : Nat) (hd : decode M.1 pc = .ok (.i2c, 1)) (hn : pc + 1 = n) (k : AW E R M ws ce sl n lv (.int (x.toUInt32 % 65536).toInt32 :: st) r) : AW E R M ws ce sl pc lv (.int x :: st) r := by
  subst hn
  intro p e s m args below meth c H locs ls hC hP hS hl
  obtain ⟨h0, ht, hx, hb, hml, hr, hlk, hh, hown, hnm, hn0⟩ := id hC
  exact lv_i2c hx hb hd rfl (k p e s m args below meth c H locs ls hC hP hS hl)
theorem q_lcmp {x y : Int64} (n : Nat) (hd : decode M.1 pc = .ok (.lcmp, 1)) (hn : pc + 1 = n) (k : AW E R M ws ce sl n lv (.int (lg_cmp x y) :: st) r) : AW E R M ws ce sl pc lv (.long y :: .long x :: st) r := by
  subst hn
  intro p e s m args below meth c H locs ls hC hP hS hl
  obtain ⟨h0, ht, hx, hb, hml, hr, hlk, hh, hown, hnm, hn0⟩ := id hC
  exact W.lcmp hx hb hd (k p e s m args below meth c H locs ls hC hP hS hl)
theorem q_iconst {z : Int} {v : Int32} (n : Nat) (hd : decode M.1 pc = .ok (.iconst z, 1)) (hn : pc + 1 = n) (hv : Int32.ofInt z = v) (k : AW E R M ws ce sl n lv (.int v :: st) r) : AW E R M ws ce sl pc lv (st) r := by
  subst hn
  intro p e s m args below meth c H locs ls hC hP hS hl
  obtain ⟨h0, ht, hx, hb, hml, hr, hlk, hh, hown, hnm, hn0⟩ := id hC
  exact lv_iconst hx hb hd hv (k p e s m args below meth c H locs ls hC hP hS hl)
theorem q_bipush {z : Int} {v : Int32} (n : Nat) (hd : decode M.1 pc = .ok (.bipush z, 2)) (hn : pc + 2 = n) (hv : (Int8.ofInt z).toInt32 = v) (k : AW E R M ws ce sl n lv (.int v :: st) r) : AW E R M ws ce sl pc lv (st) r := by
  subst hn
  intro p e s m args below meth c H locs ls hC hP hS hl
  obtain ⟨h0, ht, hx, hb, hml, hr, hlk, hh, hown, hnm, hn0⟩ := id hC
  exact lv_bipush hx hb hd hv (k p e s m args below meth c H locs ls hC hP hS hl)
theorem q_sipush {z : Int} {v : Int32} (n : Nat) (hd : decode M.1 pc = .ok (.sipush z, 3)) (hn : pc + 3 = n) (hv : (Int16.ofInt z).toInt32 = v) (k : AW E R M ws ce sl n lv (.int v :: st) r) : AW E R M ws ce sl pc lv (st) r := by
  subst hn
  intro p e s m args below meth c H locs ls hC hP hS hl
  obtain ⟨h0, ht, hx, hb, hml, hr, hlk, hh, hown, hnm, hn0⟩ := id hC
  exact lv_sipush hx hb hd hv (k p e s m args below meth c H locs ls hC hP hS hl)
theorem q_lconst {z : Fin 2} {v : Int64} (n : Nat) (hd : decode M.1 pc = .ok (.lconst z, 1)) (hn : pc + 1 = n) (hv : Int64.ofNat (z : Nat) = v) (k : AW E R M ws ce sl n lv (.long v :: st) r) : AW E R M ws ce sl pc lv (st) r := by
  subst hn
  intro p e s m args below meth c H locs ls hC hP hS hl
  obtain ⟨h0, ht, hx, hb, hml, hr, hlk, hh, hown, hnm, hn0⟩ := id hC
  exact lv_lconst hx hb hd hv (k p e s m args below meth c H locs ls hC hP hS hl)
theorem q_ldc {idx : Nat} {v : Int32} (n : Nat) (hd : decode M.1 pc = .ok (.ldc idx, 2)) (hn : pc + 2 = n) (hw : Cond.constant M.2.2.2.1 idx v ∈ lw_tbl) (k : AW E R M ws ce sl n lv (.int v :: st) r) : AW E R M ws ce sl pc lv (st) r := by
  subst hn
  intro p e s m args below meth c H locs ls hC hP hS hl
  obtain ⟨h0, ht, hx, hb, hml, hr, hlk, hh, hown, hnm, hn0⟩ := id hC
  exact lv_ldc hx hb hown (q_w h0 ht hw rfl) hd (k p e s m args below meth c H locs ls hC hP hS hl)
theorem q_dup {v : Value} (n : Nat) (hd : decode M.1 pc = .ok (.dup, 1)) (hn : pc + 1 = n) (hc : v.category = 1) (k : AW E R M ws ce sl n lv (v :: v :: st) r) : AW E R M ws ce sl pc lv (v :: st) r := by
  subst hn
  intro p e s m args below meth c H locs ls hC hP hS hl
  obtain ⟨h0, ht, hx, hb, hml, hr, hlk, hh, hown, hnm, hn0⟩ := id hC
  exact lv_dup hx hb hd ((q_cv_cat _ _).trans hc) (k p e s m args below meth c H locs ls hC hP hS hl)
theorem q_pop {v : Value} (n : Nat) (hd : decode M.1 pc = .ok (.pop, 1)) (hn : pc + 1 = n) (hc : v.category = 1) (k : AW E R M ws ce sl n lv (st) r) : AW E R M ws ce sl pc lv (v :: st) r := by
  subst hn
  intro p e s m args below meth c H locs ls hC hP hS hl
  obtain ⟨h0, ht, hx, hb, hml, hr, hlk, hh, hown, hnm, hn0⟩ := id hC
  exact lv_pop hx hb hd ((q_cv_cat _ _).trans hc) (k p e s m args below meth c H locs ls hC hP hS hl)
theorem q_dup_x1 {v u : Value} (n : Nat) (hd : decode M.1 pc = .ok (.dup_x1, 1)) (hn : pc + 1 = n) (hc : v.category = 1) (hc2 : u.category = 1) (k : AW E R M ws ce sl n lv (v :: u :: v :: st) r) : AW E R M ws ce sl pc lv (v :: u :: st) r := by
  subst hn
  intro p e s m args below meth c H locs ls hC hP hS hl
  obtain ⟨h0, ht, hx, hb, hml, hr, hlk, hh, hown, hnm, hn0⟩ := id hC
  exact lv_dup_x1 hx hb hd ((q_cv_cat _ _).trans hc) ((q_cv_cat _ _).trans hc2) (k p e s m args below meth c H locs ls hC hP hS hl)
theorem q_dup2 {v u : Value} (n : Nat) (hd : decode M.1 pc = .ok (.dup2, 1)) (hn : pc + 1 = n) (hc : v.category = 1) (hc2 : u.category = 1) (k : AW E R M ws ce sl n lv (v :: u :: v :: u :: st) r) : AW E R M ws ce sl pc lv (v :: u :: st) r := by
  subst hn
  intro p e s m args below meth c H locs ls hC hP hS hl
  obtain ⟨h0, ht, hx, hb, hml, hr, hlk, hh, hown, hnm, hn0⟩ := id hC
  exact lv_dup2_11 hx hb hd ((q_cv_cat _ _).trans hc) ((q_cv_cat _ _).trans hc2) (k p e s m args below meth c H locs ls hC hP hS hl)
theorem q_iloadn {z : Fin 4} {x : Int32} (n : Nat) (hd : decode M.1 pc = .ok (.iload_n z, 1)) (hn : pc + 1 = n) (j : Nat) (hj : lv[j]? = some ((z : Nat), .int x)) (k : AW E R M ws ce sl n lv (.int x :: st) r) : AW E R M ws ce sl pc lv (st) r := by
  subst hn
  intro p e s m args below meth c H locs ls hC hP hS hl
  obtain ⟨h0, ht, hx, hb, hml, hr, hlk, hh, hown, hnm, hn0⟩ := id hC
  exact lv_iload_n hx hb hd rfl (lv_at hl j (q_lv_at hj)) (k p e s m args below meth c H locs ls hC hP hS hl)
theorem q_iload {z : Nat} {x : Int32} (n : Nat) (hd : decode M.1 pc = .ok (.iload z, 2)) (hn : pc + 2 = n) (j : Nat) (hj : lv[j]? = some (z, .int x)) (k : AW E R M ws ce sl n lv (.int x :: st) r) : AW E R M ws ce sl pc lv (st) r := by
  subst hn
  intro p e s m args below meth c H locs ls hC hP hS hl
  obtain ⟨h0, ht, hx, hb, hml, hr, hlk, hh, hown, hnm, hn0⟩ := id hC
  exact lv_iload hx hb hd (lv_at hl j (q_lv_at hj)) (k p e s m args below meth c H locs ls hC hP hS hl)
theorem q_aloadn {z : Fin 4} {x : Nat} (n : Nat) (hd : decode M.1 pc = .ok (.aload_n z, 1)) (hn : pc + 1 = n) (j : Nat) (hj : lv[j]? = some ((z : Nat), .ref x)) (k : AW E R M ws ce sl n lv (.ref x :: st) r) : AW E R M ws ce sl pc lv (st) r := by
  subst hn
  intro p e s m args below meth c H locs ls hC hP hS hl
  obtain ⟨h0, ht, hx, hb, hml, hr, hlk, hh, hown, hnm, hn0⟩ := id hC
  exact lv_aload_n hx hb hd rfl (lv_at hl j (q_lv_at hj)) (k p e s m args below meth c H locs ls hC hP hS hl)
theorem q_aload {z : Nat} {x : Nat} (n : Nat) (hd : decode M.1 pc = .ok (.aload z, 2)) (hn : pc + 2 = n) (j : Nat) (hj : lv[j]? = some (z, .ref x)) (k : AW E R M ws ce sl n lv (.ref x :: st) r) : AW E R M ws ce sl pc lv (st) r := by
  subst hn
  intro p e s m args below meth c H locs ls hC hP hS hl
  obtain ⟨h0, ht, hx, hb, hml, hr, hlk, hh, hown, hnm, hn0⟩ := id hC
  exact lv_aload hx hb hd (lv_at hl j (q_lv_at hj)) (k p e s m args below meth c H locs ls hC hP hS hl)
theorem q_istoren {z : Fin 4} {x : Int32} {lv' : List (Nat × Value)} (n : Nat) (hd : decode M.1 pc = .ok (.istore_n z, 1)) (hn : pc + 1 = n) (hz1 : (z : Nat) < M.2.1) (hlv : ((z : Nat), Value.int x) :: lv.filter (fun q => !(q.1 == (z : Nat)) && !(q.1 + 1 == (z : Nat) && q.2.category == 2)) = lv') (k : AW E R M ws ce sl n lv' (st) r) : AW E R M ws ce sl pc lv (.int x :: st) r := by
  subst hn
  subst hlv
  intro p e s m args below meth c H locs ls hC hP hS hl
  obtain ⟨h0, ht, hx, hb, hml, hr, hlk, hh, hown, hnm, hn0⟩ := id hC
  exact lv_istore_n hx hb hd rfl hl hz1 (q_lv_put _ lv (z : Nat) (.int x)) (fun ls' hl' => k p e s m args below meth c H locs ls' hC hP hS hl')
theorem q_istore {z : Nat} {x : Int32} {lv' : List (Nat × Value)} (n : Nat) (hd : decode M.1 pc = .ok (.istore z, 2)) (hn : pc + 2 = n) (hz1 : z < M.2.1) (hlv : (z, Value.int x) :: lv.filter (fun q => !(q.1 == z) && !(q.1 + 1 == z && q.2.category == 2)) = lv') (k : AW E R M ws ce sl n lv' (st) r) : AW E R M ws ce sl pc lv (.int x :: st) r := by
  subst hn
  subst hlv
  intro p e s m args below meth c H locs ls hC hP hS hl
  obtain ⟨h0, ht, hx, hb, hml, hr, hlk, hh, hown, hnm, hn0⟩ := id hC
  exact lv_istore hx hb hd hl hz1 (q_lv_put _ lv z (.int x)) (fun ls' hl' => k p e s m args below meth c H locs ls' hC hP hS hl')
theorem q_astoren {z : Fin 4} {x : Nat} {lv' : List (Nat × Value)} (n : Nat) (hd : decode M.1 pc = .ok (.astore_n z, 1)) (hn : pc + 1 = n) (hz1 : (z : Nat) < M.2.1) (hlv : ((z : Nat), Value.ref x) :: lv.filter (fun q => !(q.1 == (z : Nat)) && !(q.1 + 1 == (z : Nat) && q.2.category == 2)) = lv') (k : AW E R M ws ce sl n lv' (st) r) : AW E R M ws ce sl pc lv (.ref x :: st) r := by
  subst hn
  subst hlv
  intro p e s m args below meth c H locs ls hC hP hS hl
  obtain ⟨h0, ht, hx, hb, hml, hr, hlk, hh, hown, hnm, hn0⟩ := id hC
  exact lv_astore_n hx hb hd rfl hl hz1 (q_lv_put _ lv (z : Nat) (.ref x)) (fun ls' hl' => k p e s m args below meth c H locs ls' hC hP hS hl')
theorem q_astore {z : Nat} {x : Nat} {lv' : List (Nat × Value)} (n : Nat) (hd : decode M.1 pc = .ok (.astore z, 2)) (hn : pc + 2 = n) (hz1 : z < M.2.1) (hlv : (z, Value.ref x) :: lv.filter (fun q => !(q.1 == z) && !(q.1 + 1 == z && q.2.category == 2)) = lv') (k : AW E R M ws ce sl n lv' (st) r) : AW E R M ws ce sl pc lv (.ref x :: st) r := by
  subst hn
  subst hlv
  intro p e s m args below meth c H locs ls hC hP hS hl
  obtain ⟨h0, ht, hx, hb, hml, hr, hlk, hh, hown, hnm, hn0⟩ := id hC
  exact lv_astore hx hb hd hl hz1 (q_lv_put _ lv z (.ref x)) (fun ls' hl' => k p e s m args below meth c H locs ls' hC hP hS hl')
theorem q_iinc {i : Nat} {z : Int} {x v : Int32} {lv' : List (Nat × Value)} (n : Nat) (hd : decode M.1 pc = .ok (.iinc i z, 3)) (hn : pc + 3 = n) (j : Nat) (hj : lv[j]? = some (i, .int x)) (hv : x + Int32.ofInt z = v) (hz1 : i < M.2.1) (hlv : (i, Value.int v) :: lv.filter (fun q => !(q.1 == i) && !(q.1 + 1 == i && q.2.category == 2)) = lv') (k : AW E R M ws ce sl n lv' (st) r) : AW E R M ws ce sl pc lv (st) r := by
  subst hn
  subst hlv
  intro p e s m args below meth c H locs ls hC hP hS hl
  obtain ⟨h0, ht, hx, hb, hml, hr, hlk, hh, hown, hnm, hn0⟩ := id hC
  exact lv_iinc (k := j) hx hb hd hl (q_lv_at hj) hv hz1 (q_lv_put _ lv i (.int v)) (fun ls' hl' => k p e s m args below meth c H locs ls' hC hP hS hl')
theorem q_sub (ks : List Nat) {lv' : List (Nat × Value)} (hk : lv_pick lv ks = lv') (k : AW E R M ws ce sl pc lv' (st) r) : AW E R M ws ce sl pc lv (st) r := by
  subst hk
  intro p e s m args below meth c H locs ls hC hP hS hl
  obtain ⟨h0, ht, hx, hb, hml, hr, hlk, hh, hown, hnm, hn0⟩ := id hC
  exact k p e s m args below meth c H locs ls hC hP hS (lv_sub hl ks (q_lv_pick _ lv ks))
theorem q_at {pc' : Nat} (h : pc = pc') (k : AW E R M ws ce sl pc' lv (st) r) : AW E R M ws ce sl pc lv (st) r := h ▸ k
theorem q_goto {off : Int} (n : Nat) (hd : decode M.1 pc = .ok (.goto off, 3)) (hn : (pc : Int) + off = (n : Int)) (k : AW E R M ws ce sl n lv (st) r) : AW E R M ws ce sl pc lv (st) r := by
  intro p e s m args below meth c H locs ls hC hP hS hl
  obtain ⟨h0, ht, hx, hb, hml, hr, hlk, hh, hown, hnm, hn0⟩ := id hC
  exact lv_goto hx hb hd hn (k p e s m args below meth c H locs ls hC hP hS hl)
theorem q_if_eq_t {x : Int32} {off : Int} (n : Nat) (hd : decode M.1 pc = .ok (.ifCond .eq off, 3)) (hn : (pc : Int) + off = (n : Int)) (hc : x = 0) (k : AW E R M ws ce sl n lv (st) r) : AW E R M ws ce sl pc lv (.int x :: st) r := by
  intro p e s m args below meth c H locs ls hC hP hS hl
  obtain ⟨h0, ht, hx, hb, hml, hr, hlk, hh, hown, hnm, hn0⟩ := id hC
  exact lv_if_eq hx hb hd hn (fun _ => (k p e s m args below meth c H locs ls hC hP hS hl)) (fun h => absurd hc h)
theorem q_if_eq_f {x : Int32} {off : Int} (n : Nat) (hd : decode M.1 pc = .ok (.ifCond .eq off, 3)) (hn : pc + 3 = n) (m : Nat) (hm : (pc : Int) + off = (m : Int)) (hc : ¬ x = 0) (k : AW E R M ws ce sl n lv (st) r) : AW E R M ws ce sl pc lv (.int x :: st) r := by
  subst hn
  intro p e s mm args below meth c H locs ls hC hP hS hl
  obtain ⟨h0, ht, hx, hb, hml, hr, hlk, hh, hown, hnm, hn0⟩ := id hC
  exact lv_if_eq hx hb hd hm (fun h => absurd h hc) (fun _ => (k p e s mm args below meth c H locs ls hC hP hS hl))
theorem q_icmp_eq_t {x y : Int32} {off : Int} (n : Nat) (hd : decode M.1 pc = .ok (.if_icmp .eq off, 3)) (hn : (pc : Int) + off = (n : Int)) (hc : x = y) (k : AW E R M ws ce sl n lv (st) r) : AW E R M ws ce sl pc lv (.int y :: .int x :: st) r := by
  intro p e s m args below meth c H locs ls hC hP hS hl
  obtain ⟨h0, ht, hx, hb, hml, hr, hlk, hh, hown, hnm, hn0⟩ := id hC
  exact lv_icmp_eq hx hb hd hn (fun _ => (k p e s m args below meth c H locs ls hC hP hS hl)) (fun h => absurd hc h)
theorem q_icmp_eq_f {x y : Int32} {off : Int} (n : Nat) (hd : decode M.1 pc = .ok (.if_icmp .eq off, 3)) (hn : pc + 3 = n) (m : Nat) (hm : (pc : Int) + off = (m : Int)) (hc : ¬ x = y) (k : AW E R M ws ce sl n lv (st) r) : AW E R M ws ce sl pc lv (.int y :: .int x :: st) r := by
  subst hn
  intro p e s mm args below meth c H locs ls hC hP hS hl
  obtain ⟨h0, ht, hx, hb, hml, hr, hlk, hh, hown, hnm, hn0⟩ := id hC
  exact lv_icmp_eq hx hb hd hm (fun h => absurd h hc) (fun _ => (k p e s mm args below meth c H locs ls hC hP hS hl))
theorem q_if_ne_t {x : Int32} {off : Int} (n : Nat) (hd : decode M.1 pc = .ok (.ifCond .ne off, 3)) (hn : (pc : Int) + off = (n : Int)) (hc : ¬ x = 0) (k : AW E R M ws ce sl n lv (st) r) : AW E R M ws ce sl pc lv (.int x :: st) r := by
  intro p e s m args below meth c H locs ls hC hP hS hl
  obtain ⟨h0, ht, hx, hb, hml, hr, hlk, hh, hown, hnm, hn0⟩ := id hC
  exact lv_if_ne hx hb hd hn (fun _ => (k p e s m args below meth c H locs ls hC hP hS hl)) (fun h => absurd h hc)
theorem q_if_ne_f {x : Int32} {off : Int} (n : Nat) (hd : decode M.1 pc = .ok (.ifCond .ne off, 3)) (hn : pc + 3 = n) (m : Nat) (hm : (pc : Int) + off = (m : Int)) (hc : x = 0) (k : AW E R M ws ce sl n lv (st) r) : AW E R M ws ce sl pc lv (.int x :: st) r := by
  subst hn
  intro p e s mm args below meth c H locs ls hC hP hS hl
  obtain ⟨h0, ht, hx, hb, hml, hr, hlk, hh, hown, hnm, hn0⟩ := id hC
  exact lv_if_ne hx hb hd hm (fun h => absurd hc h) (fun _ => (k p e s mm args below meth c H locs ls hC hP hS hl))
theorem q_icmp_ne_t {x y : Int32} {off : Int} (n : Nat) (hd : decode M.1 pc = .ok (.if_icmp .ne off, 3)) (hn : (pc : Int) + off = (n : Int)) (hc : ¬ x = y) (k : AW E R M ws ce sl n lv (st) r) : AW E R M ws ce sl pc lv (.int y :: .int x :: st) r := by
  intro p e s m args below meth c H locs ls hC hP hS hl
  obtain ⟨h0, ht, hx, hb, hml, hr, hlk, hh, hown, hnm, hn0⟩ := id hC
  exact lv_icmp_ne hx hb hd hn (fun _ => (k p e s m args below meth c H locs ls hC hP hS hl)) (fun h => absurd h hc)
theorem q_icmp_ne_f {x y : Int32} {off : Int} (n : Nat) (hd : decode M.1 pc = .ok (.if_icmp .ne off, 3)) (hn : pc + 3 = n) (m : Nat) (hm : (pc : Int) + off = (m : Int)) (hc : x = y) (k : AW E R M ws ce sl n lv (st) r) : AW E R M ws ce sl pc lv (.int y :: .int x :: st) r := by
  subst hn
  intro p e s mm args below meth c H locs ls hC hP hS hl
  obtain ⟨h0, ht, hx, hb, hml, hr, hlk, hh, hown, hnm, hn0⟩ := id hC
  exact lv_icmp_ne hx hb hd hm (fun h => absurd hc h) (fun _ => (k p e s mm args below meth c H locs ls hC hP hS hl))
theorem q_if_lt_t {x : Int32} {off : Int} (n : Nat) (hd : decode M.1 pc = .ok (.ifCond .lt off, 3)) (hn : (pc : Int) + off = (n : Int)) (hc : x < 0) (k : AW E R M ws ce sl n lv (st) r) : AW E R M ws ce sl pc lv (.int x :: st) r := by
  intro p e s m args below meth c H locs ls hC hP hS hl
  obtain ⟨h0, ht, hx, hb, hml, hr, hlk, hh, hown, hnm, hn0⟩ := id hC
  exact lv_if_lt hx hb hd hn (fun _ => (k p e s m args below meth c H locs ls hC hP hS hl)) (fun h => absurd hc h)
theorem q_if_lt_f {x : Int32} {off : Int} (n : Nat) (hd : decode M.1 pc = .ok (.ifCond .lt off, 3)) (hn : pc + 3 = n) (m : Nat) (hm : (pc : Int) + off = (m : Int)) (hc : ¬ x < 0) (k : AW E R M ws ce sl n lv (st) r) : AW E R M ws ce sl pc lv (.int x :: st) r := by
  subst hn
  intro p e s mm args below meth c H locs ls hC hP hS hl
  obtain ⟨h0, ht, hx, hb, hml, hr, hlk, hh, hown, hnm, hn0⟩ := id hC
  exact lv_if_lt hx hb hd hm (fun h => absurd h hc) (fun _ => (k p e s mm args below meth c H locs ls hC hP hS hl))
theorem q_icmp_lt_t {x y : Int32} {off : Int} (n : Nat) (hd : decode M.1 pc = .ok (.if_icmp .lt off, 3)) (hn : (pc : Int) + off = (n : Int)) (hc : x < y) (k : AW E R M ws ce sl n lv (st) r) : AW E R M ws ce sl pc lv (.int y :: .int x :: st) r := by
  intro p e s m args below meth c H locs ls hC hP hS hl
  obtain ⟨h0, ht, hx, hb, hml, hr, hlk, hh, hown, hnm, hn0⟩ := id hC
  exact lv_icmp_lt hx hb hd hn (fun _ => (k p e s m args below meth c H locs ls hC hP hS hl)) (fun h => absurd hc h)
theorem q_icmp_lt_f {x y : Int32} {off : Int} (n : Nat) (hd : decode M.1 pc = .ok (.if_icmp .lt off, 3)) (hn : pc + 3 = n) (m : Nat) (hm : (pc : Int) + off = (m : Int)) (hc : ¬ x < y) (k : AW E R M ws ce sl n lv (st) r) : AW E R M ws ce sl pc lv (.int y :: .int x :: st) r := by
  subst hn
  intro p e s mm args below meth c H locs ls hC hP hS hl
  obtain ⟨h0, ht, hx, hb, hml, hr, hlk, hh, hown, hnm, hn0⟩ := id hC
  exact lv_icmp_lt hx hb hd hm (fun h => absurd h hc) (fun _ => (k p e s mm args below meth c H locs ls hC hP hS hl))
theorem q_if_ge_t {x : Int32} {off : Int} (n : Nat) (hd : decode M.1 pc = .ok (.ifCond .ge off, 3)) (hn : (pc : Int) + off = (n : Int)) (hc : 0 ≤ x) (k : AW E R M ws ce sl n lv (st) r) : AW E R M ws ce sl pc lv (.int x :: st) r := by
  intro p e s m args below meth c H locs ls hC hP hS hl
  obtain ⟨h0, ht, hx, hb, hml, hr, hlk, hh, hown, hnm, hn0⟩ := id hC
  exact lv_if_ge hx hb hd hn (fun _ => (k p e s m args below meth c H locs ls hC hP hS hl)) (fun h => absurd hc h)
theorem q_if_ge_f {x : Int32} {off : Int} (n : Nat) (hd : decode M.1 pc = .ok (.ifCond .ge off, 3)) (hn : pc + 3 = n) (m : Nat) (hm : (pc : Int) + off = (m : Int)) (hc : ¬ 0 ≤ x) (k : AW E R M ws ce sl n lv (st) r) : AW E R M ws ce sl pc lv (.int x :: st) r := by
  subst hn
  intro p e s mm args below meth c H locs ls hC hP hS hl
  obtain ⟨h0, ht, hx, hb, hml, hr, hlk, hh, hown, hnm, hn0⟩ := id hC
  exact lv_if_ge hx hb hd hm (fun h => absurd h hc) (fun _ => (k p e s mm args below meth c H locs ls hC hP hS hl))
theorem q_icmp_ge_t {x y : Int32} {off : Int} (n : Nat) (hd : decode M.1 pc = .ok (.if_icmp .ge off, 3)) (hn : (pc : Int) + off = (n : Int)) (hc : y ≤ x) (k : AW E R M ws ce sl n lv (st) r) : AW E R M ws ce sl pc lv (.int y :: .int x :: st) r := by
  intro p e s m args below meth c H locs ls hC hP hS hl
  obtain ⟨h0, ht, hx, hb, hml, hr, hlk, hh, hown, hnm, hn0⟩ := id hC
  exact lv_icmp_ge hx hb hd hn (fun _ => (k p e s m args below meth c H locs ls hC hP hS hl)) (fun h => absurd hc h)
theorem q_icmp_ge_f {x y : Int32} {off : Int} (n : Nat) (hd : decode M.1 pc = .ok (.if_icmp .ge off, 3)) (hn : pc + 3 = n) (m : Nat) (hm : (pc : Int) + off = (m : Int)) (hc : ¬ y ≤ x) (k : AW E R M ws ce sl n lv (st) r) : AW E R M ws ce sl pc lv (.int y :: .int x :: st) r := by
  subst hn
  intro p e s mm args below meth c H locs ls hC hP hS hl
  obtain ⟨h0, ht, hx, hb, hml, hr, hlk, hh, hown, hnm, hn0⟩ := id hC
  exact lv_icmp_ge hx hb hd hm (fun h => absurd h hc) (fun _ => (k p e s mm args below meth c H locs ls hC hP hS hl))
theorem q_if_gt_t {x : Int32} {off : Int} (n : Nat) (hd : decode M.1 pc = .ok (.ifCond .gt off, 3)) (hn : (pc : Int) + off = (n : Int)) (hc : 0 < x) (k : AW E R M ws ce sl n lv (st) r) : AW E R M ws ce sl pc lv (.int x :: st) r := by
  intro p e s m args below meth c H locs ls hC hP hS hl
  obtain ⟨h0, ht, hx, hb, hml, hr, hlk, hh, hown, hnm, hn0⟩ := id hC
  exact lv_if_gt hx hb hd hn (fun _ => (k p e s m args below meth c H locs ls hC hP hS hl)) (fun h => absurd hc h)
theorem q_if_gt_f {x : Int32} {off : Int} (n : Nat) (hd : decode M.1 pc = .ok (.ifCond .gt off, 3)) (hn : pc + 3 = n) (m : Nat) (hm : (pc : Int) + off = (m : Int)) (hc : ¬ 0 < x) (k : AW E R M ws ce sl n lv (st) r) : AW E R M ws ce sl pc lv (.int x :: st) r := by
  subst hn
  intro p e s mm args below meth c H locs ls hC hP hS hl
  obtain ⟨h0, ht, hx, hb, hml, hr, hlk, hh, hown, hnm, hn0⟩ := id hC
  exact lv_if_gt hx hb hd hm (fun h => absurd h hc) (fun _ => (k p e s mm args below meth c H locs ls hC hP hS hl))
theorem q_icmp_gt_t {x y : Int32} {off : Int} (n : Nat) (hd : decode M.1 pc = .ok (.if_icmp .gt off, 3)) (hn : (pc : Int) + off = (n : Int)) (hc : y < x) (k : AW E R M ws ce sl n lv (st) r) : AW E R M ws ce sl pc lv (.int y :: .int x :: st) r := by
  intro p e s m args below meth c H locs ls hC hP hS hl
  obtain ⟨h0, ht, hx, hb, hml, hr, hlk, hh, hown, hnm, hn0⟩ := id hC
  exact lv_icmp_gt hx hb hd hn (fun _ => (k p e s m args below meth c H locs ls hC hP hS hl)) (fun h => absurd hc h)
theorem q_icmp_gt_f {x y : Int32} {off : Int} (n : Nat) (hd : decode M.1 pc = .ok (.if_icmp .gt off, 3)) (hn : pc + 3 = n) (m : Nat) (hm : (pc : Int) + off = (m : Int)) (hc : ¬ y < x) (k : AW E R M ws ce sl n lv (st) r) : AW E R M ws ce sl pc lv (.int y :: .int x :: st) r := by
  subst hn
  intro p e s mm args below meth c H locs ls hC hP hS hl
  obtain ⟨h0, ht, hx, hb, hml, hr, hlk, hh, hown, hnm, hn0⟩ := id hC
  exact lv_icmp_gt hx hb hd hm (fun h => absurd h hc) (fun _ => (k p e s mm args below meth c H locs ls hC hP hS hl))
theorem q_if_le_t {x : Int32} {off : Int} (n : Nat) (hd : decode M.1 pc = .ok (.ifCond .le off, 3)) (hn : (pc : Int) + off = (n : Int)) (hc : x ≤ 0) (k : AW E R M ws ce sl n lv (st) r) : AW E R M ws ce sl pc lv (.int x :: st) r := by
  intro p e s m args below meth c H locs ls hC hP hS hl
  obtain ⟨h0, ht, hx, hb, hml, hr, hlk, hh, hown, hnm, hn0⟩ := id hC
  exact lv_if_le hx hb hd hn (fun _ => (k p e s m args below meth c H locs ls hC hP hS hl)) (fun h => absurd hc h)
theorem q_if_le_f {x : Int32} {off : Int} (n : Nat) (hd : decode M.1 pc = .ok (.ifCond .le off, 3)) (hn : pc + 3 = n) (m : Nat) (hm : (pc : Int) + off = (m : Int)) (hc : ¬ x ≤ 0) (k : AW E R M ws ce sl n lv (st) r) : AW E R M ws ce sl pc lv (.int x :: st) r := by
  subst hn
  intro p e s mm args below meth c H locs ls hC hP hS hl
  obtain ⟨h0, ht, hx, hb, hml, hr, hlk, hh, hown, hnm, hn0⟩ := id hC
  exact lv_if_le hx hb hd hm (fun h => absurd h hc) (fun _ => (k p e s mm args below meth c H locs ls hC hP hS hl))
theorem q_icmp_le_t {x y : Int32} {off : Int} (n : Nat) (hd : decode M.1 pc = .ok (.if_icmp .le off, 3)) (hn : (pc : Int) + off = (n : Int)) (hc : x ≤ y) (k : AW E R M ws ce sl n lv (st) r) : AW E R M ws ce sl pc lv (.int y :: .int x :: st) r := by
  intro p e s m args below meth c H locs ls hC hP hS hl
  obtain ⟨h0, ht, hx, hb, hml, hr, hlk, hh, hown, hnm, hn0⟩ := id hC
  exact lv_icmp_le hx hb hd hn (fun _ => (k p e s m args below meth c H locs ls hC hP hS hl)) (fun h => absurd hc h)
theorem q_icmp_le_f {x y : Int32} {off : Int} (n : Nat) (hd : decode M.1 pc = .ok (.if_icmp .le off, 3)) (hn : pc + 3 = n) (m : Nat) (hm : (pc : Int) + off = (m : Int)) (hc : ¬ x ≤ y) (k : AW E R M ws ce sl n lv (st) r) : AW E R M ws ce sl pc lv (.int y :: .int x :: st) r := by
  subst hn
  intro p e s mm args below meth c H locs ls hC hP hS hl
  obtain ⟨h0, ht, hx, hb, hml, hr, hlk, hh, hown, hnm, hn0⟩ := id hC
  exact lv_icmp_le hx hb hd hm (fun h => absurd h hc) (fun _ => (k p e s mm args below meth c H locs ls hC hP hS hl))
theorem q_lookup {dflt : Int} {ps : Array (Int × Int)} {len : Nat} {x : Int32} {off : Int} (n : Nat) (hd : decode M.1 pc = .ok (.lookupswitch dflt ps, len)) (hp : (ps.toList.zip (ps.toList.drop 1)).all (fun (a, next) => a.1 < next.1) = true) (ho : Op.lookupswitch.offset ps.toList dflt x.toInt = off) (hn : (pc : Int) + off = (n : Int)) (k : AW E R M ws ce sl n lv (st) r) : AW E R M ws ce sl pc lv (.int x :: st) r := by
  intro p e s m args below meth c H locs ls hC hP hS hl
  obtain ⟨h0, ht, hx, hb, hml, hr, hlk, hh, hown, hnm, hn0⟩ := id hC
  exact lv_lookup hx hb hd hp ho hn (k p e s m args below meth c H locs ls hC hP hS hl)
theorem q_tableOut {dflt lo hi : Int} {offs : Array Int} {len : Nat} {x : Int32} (n : Nat) (hd : decode M.1 pc = .ok (.tableswitch dflt lo hi offs, len)) (h : x.toInt < lo ∨ hi < x.toInt) (hn : (pc : Int) + dflt = (n : Int)) (k : AW E R M ws ce sl n lv (st) r) : AW E R M ws ce sl pc lv (.int x :: st) r := by
  intro p e s m args below meth c H locs ls hC hP hS hl
  obtain ⟨h0, ht, hx, hb, hml, hr, hlk, hh, hown, hnm, hn0⟩ := id hC
  exact lv_tableOut hx hb hd h hn (k p e s m args below meth c H locs ls hC hP hS hl)
theorem q_tableIn {dflt lo hi : Int} {offs : Array Int} {len : Nat} {x : Int32} {off : Int} (n : Nat) (hd : decode M.1 pc = .ok (.tableswitch dflt lo hi offs, len)) (h1 : ¬ x.toInt < lo) (h2 : ¬ hi < x.toInt) (ho : offs[(x.toInt - lo).toNat]? = some off) (hn : (pc : Int) + off = (n : Int)) (k : AW E R M ws ce sl n lv (st) r) : AW E R M ws ce sl pc lv (.int x :: st) r := by
  intro p e s m args below meth c H locs ls hC hP hS hl
  obtain ⟨h0, ht, hx, hb, hml, hr, hlk, hh, hown, hnm, hn0⟩ := id hC
  exact lv_tableIn hx hb hd h1 h2 ho hn (k p e s m args below meth c H locs ls hC hP hS hl)
/-- the pool's entry idx of the class own names field k of class ci -/
def q_FL (own : String) (idx ci k : Nat) : Prop := ∃ (C : String) (T : u_T) (N : Nat), q_cl[ci]? = some (C, T, N) ∧ k < N ∧ Cond.fieldLink own idx (T k).1 (T k).2.1 (T k).2.2.1 ∈ lw_tbl
theorem q_lay_good {C : String} {T : u_T} {N : Nat} : ∀ w ∈ u_ws C T N, (w.onTables && w.keeps) = true := by
  intro w hw
  obtain ⟨k, -, rfl⟩ := List.mem_map.mp hw
  unfold u_lay
  split <;> rfl
theorem q_hts {E : q_E} {s : State} {args : Array Value} (h0 : q_S0 E) (ht : q_St E s) {ci : Nat} {C : String} {T : u_T} {N : Nat} (hc : q_cl[ci]? = some (C, T, N)) : ∀ w ∈ u_ws C T N, w.before args s = true :=
  fun w hw => q_w h0 ht ((q_cl_ok ci C T N hc).1 w hw) (q_lay_good w hw)
theorem q_ref {g : Nat × Nat} {q : Nat} (h : q < 900) : q_cv g (.ref q) = .ref (g.1 + q) := by simp [q_cv, h]
theorem q_get {idx ci f q0 : Nat} {fs : List Value} {v : Value} (n : Nat) (hd : decode M.1 pc = .ok (.getfield idx, 3)) (hn : pc + 3 = n) (hf : q_FL M.2.2.2.1 idx ci f) (hq : q0 < 900) (he : ws[q0]? = some (.inr (ci, fs))) (hv : fs[f]? = some v) (k : AW E R M ws ce sl n lv (v :: st) r) : AW E R M ws ce sl pc lv (.ref q0 :: st) r := by
  subst hn
  obtain ⟨C, T, N, hc, hfN, hlk0⟩ := hf
  intro p e s m args below meth c H locs ls hC hP hS hl
  obtain ⟨h0, ht, hx, hb, hml, hr, hlk, hh, hown, hnm, hn0⟩ := id hC
  have hg : W p (q_l E) e R s m args below meth c H locs ce sl (q_End E r s below) (F0 m pc ls (.ref ((q_g E).1 + q0) :: st.map (q_cv (q_g E)))) :=
    va_get (D := q_DD E) (ci := ci) (C := C) (T := T) (N := N) (ref := (T f).1) (index := idx) hx hb (q_hts h0 ht hc) (fun w hw => hw) hown (ht.K h0) hP q0 (q_wz_at he) hc f hfN (q_w h0 ht hlk0 rfl) (fun _ h => h) (v := q_cv (q_g E) v) (by simp [hv]) hd (k p e s m args below meth c H locs ls hC hP hS hl)
  rw [List.map_cons, q_ref hq]
  exact hg
theorem q_put {idx ci f q0 : Nat} {fs : List Value} {v : Value} {ty : FieldType} {ws' : List va_E} (n : Nat) (hd : decode M.1 pc = .ok (.putfield idx, 3)) (hn : pc + 3 = n) (hf : q_FL M.2.2.2.1 idx ci f) (hq : q0 < 900) (he : ws[q0]? = some (.inr (ci, fs))) (hty : q_fty ci f = some (ty, false)) (hna : narrow ty (q_cv (q_g E) v) = q_cv (q_g E) v) (hfit : fits ty (q_cv (q_g E) v) = true) (hl0 : f < fs.length) (hw : ws.set q0 (.inr (ci, fs.set f v)) = ws') (k : AW E R M ws' ce sl n lv st r) : AW E R M ws ce sl pc lv (v :: .ref q0 :: st) r := by
  subst hn
  subst hw
  obtain ⟨C, T, N, hc, hfN, hlk0⟩ := hf
  obtain ⟨-, ⟨ty0, hty0⟩, hnm0⟩ := q_cl_ok ci C T N hc
  obtain ⟨hfin, hpd⟩ := q_fty_ok hc hfN hty
  intro p e s m args below meth c H locs ls hC hP hS hl
  obtain ⟨h0, ht, hx, hb, hml, hr, hlk, hh, hown, hnm, hn0⟩ := id hC
  have hg : W p (q_l E) e R s m args below meth c H locs ce sl (q_End E r s below) (F0 m pc ls (q_cv (q_g E) v :: .ref ((q_g E).1 + q0) :: st.map (q_cv (q_g E)))) := by
    refine va_put (D := q_DD E) (ci := ci) (C := C) (T := T) (N := N) (ref := (T f).1) (index := idx) (v := q_cv (q_g E) v) (ty := ty) hx hb (q_hts h0 ht hc) (fun w hw => hw) ty0 hty0 hnm0 hown (ht.K h0) hP (q_D _ _) hS q0 (q_wz_at he) hc f hfN (q_w h0 ht hlk0 rfl) (fun _ h => h) hfin hpd hna hfit (by simpa using hl0) hd (fun H1 locs1 hP1 _ hS1 => ?_)
    have e1 : (q_wz (q_g E) ws).set q0 ((q_g E).1 + q0, .inr (ci, (fs.map (q_cv (q_g E))).set f (q_cv (q_g E) v))) = q_wz (q_g E) (ws.set q0 (.inr (ci, fs.set f v))) := by
      rw [← q_wz_set]
      simp [q_ce, List.map_set]
    rw [e1] at hP1
    exact k p e s m args below meth c H1 locs1 ls hC hP1 hS1 hl
  rw [List.map_cons, List.map_cons, q_ref hq]
  exact hg
theorem q_putF {idx ci f q0 : Nat} {fs : List Value} {v : Value} {ty : FieldType} {ws' : List va_E} (n : Nat) (hd : decode M.1 pc = .ok (.putfield idx, 3)) (hn : pc + 3 = n) (hf : q_FL M.2.2.2.1 idx ci f) (hq : q0 < 900) (he : ws[q0]? = some (.inr (ci, fs))) (hty : q_fty ci f = some (ty, true)) (hnI : M.2.2.2.2.1 = "<init>") (hdc : ∀ C T N, q_cl[ci]? = some (C, T, N) → (T f).1 = M.2.2.2.1) (hna : narrow ty (q_cv (q_g E) v) = q_cv (q_g E) v) (hfit : fits ty (q_cv (q_g E) v) = true) (hl0 : f < fs.length) (hw : ws.set q0 (.inr (ci, fs.set f v)) = ws') (k : AW E R M ws' ce sl n lv st r) : AW E R M ws ce sl pc lv (v :: .ref q0 :: st) r := by
  subst hn
  subst hw
  obtain ⟨C, T, N, hc, hfN, hlk0⟩ := hf
  obtain ⟨-, ⟨ty0, hty0⟩, hnm0⟩ := q_cl_ok ci C T N hc
  obtain ⟨hfin, hpd⟩ := q_fty_ok hc hfN hty
  intro p e s m args below meth c H locs ls hC hP hS hl
  obtain ⟨h0, ht, hx, hb, hml, hr, hlk, hh, hown, hnm, hn0⟩ := id hC
  have hg : W p (q_l E) e R s m args below meth c H locs ce sl (q_End E r s below) (F0 m pc ls (q_cv (q_g E) v :: .ref ((q_g E).1 + q0) :: st.map (q_cv (q_g E)))) := by
    refine va_putF (D := q_DD E) (ci := ci) (C := C) (T := T) (N := N) (ref := (T f).1) (index := idx) (v := q_cv (q_g E) v) (ty := ty) hx hb (q_hts h0 ht hc) (fun w hw => hw) ty0 hty0 hnm0 hown (ht.K h0) hP (q_D _ _) hS q0 (q_wz_at he) hc f hfN (q_w h0 ht hlk0 rfl) (fun _ h => h) hfin (hnm.trans hnI) (hdc C T N hc) hpd hna hfit (by simpa using hl0) hd (fun H1 locs1 hP1 _ hS1 => ?_)
    have e1 : (q_wz (q_g E) ws).set q0 ((q_g E).1 + q0, .inr (ci, (fs.map (q_cv (q_g E))).set f (q_cv (q_g E) v))) = q_wz (q_g E) (ws.set q0 (.inr (ci, fs.set f v))) := by
      rw [← q_wz_set]
      simp [q_ce, List.map_set]
    rw [e1] at hP1
    exact k p e s m args below meth c H1 locs1 ls hC hP1 hS1 hl
  rw [List.map_cons, List.map_cons, q_ref hq]
  exact hg
theorem q_iald {q0 : Nat} {len : Nat} {f : Nat → Int32} {i : Int32} (n : Nat) (hd : decode M.1 pc = .ok (.iaload, 1)) (hn : pc + 1 = n) (hq : q0 < 900) (he : ws[q0]? = some (.inl (q_kA E 0, len, .inl f))) (hin : vp_in i len) (k : AW E R M ws ce sl n lv (.int (f i.toNatClampNeg) :: st) r) : AW E R M ws ce sl pc lv (.int i :: .ref q0 :: st) r := by
  subst hn
  intro p e s m args below meth c H locs ls hC hP hS hl
  obtain ⟨h0, ht, hx, hb, hml, hr, hlk, hh, hown, hnm, hn0⟩ := id hC
  have hg : W p (q_l E) e R s m args below meth c H locs ce sl (q_End E r s below) (F0 m pc ls (.int i :: .ref ((q_g E).1 + q0) :: st.map (q_cv (q_g E)))) :=
    va_iald hx hb (ht.K h0) hP q0 0 (q_wz_at he) rfl hin hd (k p e s m args below meth c H locs ls hC hP hS hl)
  rw [List.map_cons, List.map_cons, q_ref hq]
  exact hg
theorem q_iast {q0 : Nat} {len : Nat} {f : Nat → Int32} {i x : Int32} {ws' : List va_E} (n : Nat) (hd : decode M.1 pc = .ok (.iastore, 1)) (hn : pc + 1 = n) (hq : q0 < 900) (he : ws[q0]? = some (.inl (q_kA E 0, len, .inl f))) (hin : vp_in i len) (hw : ws.set q0 (.inl (q_kA E 0, len, .inl (upd f i.toNatClampNeg (x)))) = ws') (k : AW E R M ws' ce sl n lv st r) : AW E R M ws ce sl pc lv (.int x :: .int i :: .ref q0 :: st) r := by
  subst hn
  subst hw
  intro p e s m args below meth c H locs ls hC hP hS hl
  obtain ⟨h0, ht, hx, hb, hml, hr, hlk, hh, hown, hnm, hn0⟩ := id hC
  have hg : W p (q_l E) e R s m args below meth c H locs ce sl (q_End E r s below) (F0 m pc ls (.int x :: .int i :: .ref ((q_g E).1 + q0) :: st.map (q_cv (q_g E)))) := by
    refine va_iast hx hb (ht.K h0) hP (q_D _ _) hS q0 0 (q_wz_at he) rfl hin hd (fun H1 locs1 hP1 _ hS1 => ?_)
    have e1 : (q_wz (q_g E) ws).set q0 ((q_g E).1 + q0, .inl (q_kA E 0, len, .inl (upd f i.toNatClampNeg (x)))) = q_wz (q_g E) (ws.set q0 (.inl (q_kA E 0, len, .inl (upd f i.toNatClampNeg (x))))) := by
      rw [← q_wz_set]
      rfl
    rw [e1] at hP1
    exact k p e s m args below meth c H1 locs1 ls hC hP1 hS1 hl
  rw [List.map_cons, List.map_cons, List.map_cons, q_ref hq]
  exact hg
theorem q_zald {q0 : Nat} {len : Nat} {f : Nat → Int32} {i : Int32} (n : Nat) (hd : decode M.1 pc = .ok (.baload, 1)) (hn : pc + 1 = n) (hq : q0 < 900) (he : ws[q0]? = some (.inl (q_kA E 1, len, .inl f))) (hin : vp_in i len) (k : AW E R M ws ce sl n lv (.int (f i.toNatClampNeg) :: st) r) : AW E R M ws ce sl pc lv (.int i :: .ref q0 :: st) r := by
  subst hn
  intro p e s m args below meth c H locs ls hC hP hS hl
  obtain ⟨h0, ht, hx, hb, hml, hr, hlk, hh, hown, hnm, hn0⟩ := id hC
  have hg : W p (q_l E) e R s m args below meth c H locs ce sl (q_End E r s below) (F0 m pc ls (.int i :: .ref ((q_g E).1 + q0) :: st.map (q_cv (q_g E)))) :=
    va_zald hx hb (ht.K h0) hP q0 1 (q_wz_at he) rfl hin hd (k p e s m args below meth c H locs ls hC hP hS hl)
  rw [List.map_cons, List.map_cons, q_ref hq]
  exact hg
theorem q_zast {q0 : Nat} {len : Nat} {f : Nat → Int32} {i x : Int32} {ws' : List va_E} (n : Nat) (hd : decode M.1 pc = .ok (.bastore, 1)) (hn : pc + 1 = n) (hq : q0 < 900) (he : ws[q0]? = some (.inl (q_kA E 1, len, .inl f))) (hin : vp_in i len) (hw : ws.set q0 (.inl (q_kA E 1, len, .inl (upd f i.toNatClampNeg (vp_nar .boolean x)))) = ws') (k : AW E R M ws' ce sl n lv st r) : AW E R M ws ce sl pc lv (.int x :: .int i :: .ref q0 :: st) r := by
  subst hn
  subst hw
  intro p e s m args below meth c H locs ls hC hP hS hl
  obtain ⟨h0, ht, hx, hb, hml, hr, hlk, hh, hown, hnm, hn0⟩ := id hC
  have hg : W p (q_l E) e R s m args below meth c H locs ce sl (q_End E r s below) (F0 m pc ls (.int x :: .int i :: .ref ((q_g E).1 + q0) :: st.map (q_cv (q_g E)))) := by
    refine va_zast hx hb (ht.K h0) hP (q_D _ _) hS q0 1 (q_wz_at he) rfl hin hd (fun H1 locs1 hP1 _ hS1 => ?_)
    have e1 : (q_wz (q_g E) ws).set q0 ((q_g E).1 + q0, .inl (q_kA E 1, len, .inl (upd f i.toNatClampNeg (vp_nar .boolean x)))) = q_wz (q_g E) (ws.set q0 (.inl (q_kA E 1, len, .inl (upd f i.toNatClampNeg (vp_nar .boolean x))))) := by
      rw [← q_wz_set]
      rfl
    rw [e1] at hP1
    exact k p e s m args below meth c H1 locs1 ls hC hP1 hS1 hl
  rw [List.map_cons, List.map_cons, List.map_cons, q_ref hq]
  exact hg
theorem q_cald {q0 : Nat} {len : Nat} {f : Nat → Int32} {i : Int32} (n : Nat) (hd : decode M.1 pc = .ok (.caload, 1)) (hn : pc + 1 = n) (hq : q0 < 900) (he : ws[q0]? = some (.inl (q_kA E 2, len, .inl f))) (hin : vp_in i len) (k : AW E R M ws ce sl n lv (.int (f i.toNatClampNeg) :: st) r) : AW E R M ws ce sl pc lv (.int i :: .ref q0 :: st) r := by
  subst hn
  intro p e s m args below meth c H locs ls hC hP hS hl
  obtain ⟨h0, ht, hx, hb, hml, hr, hlk, hh, hown, hnm, hn0⟩ := id hC
  have hg : W p (q_l E) e R s m args below meth c H locs ce sl (q_End E r s below) (F0 m pc ls (.int i :: .ref ((q_g E).1 + q0) :: st.map (q_cv (q_g E)))) :=
    va_cald hx hb (ht.K h0) hP q0 2 (q_wz_at he) rfl hin hd (k p e s m args below meth c H locs ls hC hP hS hl)
  rw [List.map_cons, List.map_cons, q_ref hq]
  exact hg
theorem q_cast {q0 : Nat} {len : Nat} {f : Nat → Int32} {i x : Int32} {ws' : List va_E} (n : Nat) (hd : decode M.1 pc = .ok (.castore, 1)) (hn : pc + 1 = n) (hq : q0 < 900) (he : ws[q0]? = some (.inl (q_kA E 2, len, .inl f))) (hin : vp_in i len) (hw : ws.set q0 (.inl (q_kA E 2, len, .inl (upd f i.toNatClampNeg (vp_nar .char x)))) = ws') (k : AW E R M ws' ce sl n lv st r) : AW E R M ws ce sl pc lv (.int x :: .int i :: .ref q0 :: st) r := by
  subst hn
  subst hw
  intro p e s m args below meth c H locs ls hC hP hS hl
  obtain ⟨h0, ht, hx, hb, hml, hr, hlk, hh, hown, hnm, hn0⟩ := id hC
  have hg : W p (q_l E) e R s m args below meth c H locs ce sl (q_End E r s below) (F0 m pc ls (.int x :: .int i :: .ref ((q_g E).1 + q0) :: st.map (q_cv (q_g E)))) := by
    refine va_cast hx hb (ht.K h0) hP (q_D _ _) hS q0 2 (q_wz_at he) rfl hin hd (fun H1 locs1 hP1 _ hS1 => ?_)
    have e1 : (q_wz (q_g E) ws).set q0 ((q_g E).1 + q0, .inl (q_kA E 2, len, .inl (upd f i.toNatClampNeg (vp_nar .char x)))) = q_wz (q_g E) (ws.set q0 (.inl (q_kA E 2, len, .inl (upd f i.toNatClampNeg (vp_nar .char x))))) := by
      rw [← q_wz_set]
      rfl
    rw [e1] at hP1
    exact k p e s m args below meth c H1 locs1 ls hC hP1 hS1 hl
  rw [List.map_cons, List.map_cons, List.map_cons, q_ref hq]
  exact hg
theorem q_lald {q0 : Nat} {len : Nat} {f : Nat → Int64} {i : Int32} (n : Nat) (hd : decode M.1 pc = .ok (.laload, 1)) (hn : pc + 1 = n) (hq : q0 < 900) (he : ws[q0]? = some (.inl (q_kA E 3, len, .inr (.inl f)))) (hin : vp_in i len) (k : AW E R M ws ce sl n lv (.long (f i.toNatClampNeg) :: st) r) : AW E R M ws ce sl pc lv (.int i :: .ref q0 :: st) r := by
  subst hn
  intro p e s m args below meth c H locs ls hC hP hS hl
  obtain ⟨h0, ht, hx, hb, hml, hr, hlk, hh, hown, hnm, hn0⟩ := id hC
  have hg : W p (q_l E) e R s m args below meth c H locs ce sl (q_End E r s below) (F0 m pc ls (.int i :: .ref ((q_g E).1 + q0) :: st.map (q_cv (q_g E)))) :=
    va_lald hx hb (ht.K h0) hP q0 3 (q_wz_at he) rfl hin hd (k p e s m args below meth c H locs ls hC hP hS hl)
  rw [List.map_cons, List.map_cons, q_ref hq]
  exact hg
theorem q_last {q0 : Nat} {len : Nat} {f : Nat → Int64} {i : Int32} {x : Int64} {ws' : List va_E} (n : Nat) (hd : decode M.1 pc = .ok (.lastore, 1)) (hn : pc + 1 = n) (hq : q0 < 900) (he : ws[q0]? = some (.inl (q_kA E 3, len, .inr (.inl f)))) (hin : vp_in i len) (hw : ws.set q0 (.inl (q_kA E 3, len, .inr (.inl (vp_updL f i.toNatClampNeg x)))) = ws') (k : AW E R M ws' ce sl n lv st r) : AW E R M ws ce sl pc lv (.long x :: .int i :: .ref q0 :: st) r := by
  subst hn
  subst hw
  intro p e s m args below meth c H locs ls hC hP hS hl
  obtain ⟨h0, ht, hx, hb, hml, hr, hlk, hh, hown, hnm, hn0⟩ := id hC
  have hg : W p (q_l E) e R s m args below meth c H locs ce sl (q_End E r s below) (F0 m pc ls (.long x :: .int i :: .ref ((q_g E).1 + q0) :: st.map (q_cv (q_g E)))) := by
    refine va_last hx hb (ht.K h0) hP (q_D _ _) hS q0 3 (q_wz_at he) rfl hin hd (fun H1 locs1 hP1 _ hS1 => ?_)
    have e1 : (q_wz (q_g E) ws).set q0 ((q_g E).1 + q0, .inl (q_kA E 3, len, .inr (.inl (vp_updL f i.toNatClampNeg x)))) = q_wz (q_g E) (ws.set q0 (.inl (q_kA E 3, len, .inr (.inl (vp_updL f i.toNatClampNeg x))))) := by
      rw [← q_wz_set]
      rfl
    rw [e1] at hP1
    exact k p e s m args below meth c H1 locs1 ls hC hP1 hS1 hl
  rw [List.map_cons, List.map_cons, List.map_cons, q_ref hq]
  exact hg
theorem q_alen {q0 : Nat} {t : Nat} {ty : FieldType} {x : vp_A} {v : Int32} (n : Nat) (hd : decode M.1 pc = .ok (.arraylength, 1)) (hn : pc + 1 = n) (hq : q0 < 900) (he : ws[q0]? = some (.inl (q_kA E t, x))) (ht0 : (q_tys E)[t]? = some (q_kA E t, ty)) (hv : Int32.ofNat x.1 = v) (k : AW E R M ws ce sl n lv (.int v :: st) r) : AW E R M ws ce sl pc lv (.ref q0 :: st) r := by
  subst hn
  intro p e s m args below meth c H locs ls hC hP hS hl
  obtain ⟨h0, ht, hx, hb, hml, hr, hlk, hh, hown, hnm, hn0⟩ := id hC
  have hg : W p (q_l E) e R s m args below meth c H locs ce sl (q_End E r s below) (F0 m pc ls (.ref ((q_g E).1 + q0) :: st.map (q_cv (q_g E)))) :=
    va_alen hx hb (ht.K h0) hP q0 t (q_wz_at he) ht0 hv hd (k p e s m args below meth c H locs ls hC hP hS hl)
  rw [List.map_cons, q_ref hq]
  exact hg
/-- the script: place 900 -/
theorem q_sX {s : State} (h0 : q_S0 E) (ht : q_St E s) : va_X (q_g E).2 (q_L E) (q_xs E) s s.heap ∧ (q_g E).2 < s.heap.size ∧ ¬ q_A (q_g E) (q_g E).2 :=
  ⟨(va_X.moved ht.1.alike h0.2.2.1).kept (ht.2.2 _ h0.2.2.2.1), Nat.lt_of_lt_of_le h0.2.2.2.1 ht.2.1, Nat.not_le.mpr h0.2.2.2.1⟩
theorem q_sld {i : Int32} (n : Nat) (hd : decode M.1 pc = .ok (.iaload, 1)) (hn : pc + 1 = n) (hin : vp_in i (q_L E)) (k : AW E R M ws ce sl n lv (.int (q_xs E i.toNatClampNeg) :: st) r) : AW E R M ws ce sl pc lv (.int i :: .ref 900 :: st) r := by
  subst hn
  intro p e s m args below meth c H locs ls hC hP hS hl
  obtain ⟨h0, ht, hx, hb, hml, hr, hlk, hh, hown, hnm, hn0⟩ := id hC
  obtain ⟨hX, hbl, hbA⟩ := q_sX h0 ht
  exact va_sld hx hb hX hbl hbA hS hin hd (k p e s m args below meth c H locs ls hC hP hS hl)
theorem q_slen (n : Nat) (hd : decode M.1 pc = .ok (.arraylength, 1)) (hn : pc + 1 = n) (k : AW E R M ws ce sl n lv (.int (Int32.ofNat (q_L E)) :: st) r) : AW E R M ws ce sl pc lv (.ref 900 :: st) r := by
  subst hn
  intro p e s m args below meth c H locs ls hC hP hS hl
  obtain ⟨h0, ht, hx, hb, hml, hr, hlk, hh, hown, hnm, hn0⟩ := id hC
  obtain ⟨hX, hbl, hbA⟩ := q_sX h0 ht
  exact va_slen hx hb hX hbl hbA hS hd (k p e s m args below meth c H locs ls hC hP hS hl)
theorem q_exact {s : State} {H : Heap} {locs : List Loc} {k0 : Nat} (ht : q_St E s) (hP : va_P (q_DD E) q_cl (q_wz (q_g E) ws) H) (hS : va_S (q_A (q_g E)) s.heap H locs) (hs : s.heap.size = (q_g E).1 + k0) (hce : k0 + ce = ws.length) (hsz : H.size ≤ s.heap.size + ce) : H.size = (q_g E).1 + ws.length := by
  have h1 := q_len hP (Nat.le_trans ht.2.1 hS.1)
  omega
theorem q_new {idx ci k0 N : Nat} {C : String} {T : u_T} {fs : List Value} (n : Nat) (hd : decode M.1 pc = .ok (.new idx, 3)) (hn : pc + 3 = n) (hN : M.2.2.2.2.2.2 = some k0) (hce : k0 + ce = ws.length) (hq : ws.length < 900) (hc : q_cl[ci]? = some (C, T, N)) (hw1 : Cond.classLink M.2.2.2.1 idx C ∈ lw_tbl) (hw2 : Cond.instantiable C N ∈ lw_tbl) (hw3 : Cond.initialized C ∈ lw_tbl) (ty : Nat → FieldType) (hty : ∀ k, k < N → parseFieldDescriptor (T k).2.2.1 = some (ty k)) (hfs : ∀ j, j < N → defaultValue (ty j) = vp_V (fs.map (q_cv (q_g E))) j) (hcells : ce + 1 ≤ R.cells) (hslots : sl + N ≤ R.slots) (k : AW E R M (ws ++ [.inr (ci, fs)]) (ce + 1) (sl + N) n lv (.ref ws.length :: st) r) : AW E R M ws ce sl pc lv (st) r := by
  subst hn
  intro p e s m args below meth c H locs ls hC hP hS hl
  obtain ⟨h0, ht, hx, hb, hml, hr, hlk, hh, hown, hnm, hn0⟩ := id hC
  refine q_size (fun hsz => ?_)
  have hH := q_exact ht hP hS (hn0 _ hN) hce hsz
  have hKn := (ht.K h0).1 ci _ hc
  refine W.newcK (h := (q_g E).1 + ws.length) hx hb hown (q_w h0 ht hw1 rfl) (q_w h0 ht hw2 rfl) (q_w h0 ht hw3 rfl) rfl hd hcells hslots hKn.2.1 hH fun H1 kC hkC e1 z1 o1 => ?_
  have hk : ∀ (k : Nat) (x : Nat × va_E), (q_wz (q_g E) ws)[k]? = some x → H1[x.1]? = H[x.1]? := fun k x hx => o1 x.1 (by have := (hP k x hx).lt; omega)
  have hnew : va_at (q_DD E) q_cl ((q_g E).1 + ws.length, q_ce (q_g E) (.inr (ci, fs))) H1 := ⟨_, hc, (u_born ty (q_hts (args := args) h0 ht hc) (fun w h => h) hKn hkC e1 hty).to hfs⟩
  have hP1 : va_P (q_DD E) q_cl (q_wz (q_g E) (ws ++ [.inr (ci, fs)])) H1 := by
    rw [← q_wz_push]
    refine (hP.kept hk).app (fun j x hx => ?_)
    have hz : j < 1 := (List.getElem?_eq_some_iff.mp hx).1
    rw [show j = 0 by omega] at hx
    cases hx
    exact hnew
  have hS1 : va_S (q_A (q_g E)) s.heap H1 locs := ⟨Nat.le_trans hS.1 (by omega), fun x h1 h2 => (o1 x (by have := hS.1; omega)).trans (hS.2.1 x h1 h2), hS.2.2⟩
  have hg := k p e s m args below meth c H1 locs ls hC hP1 hS1 hl
  rw [List.map_cons, q_ref hq] at hg
  exact hg
theorem q_newa {at0 : ArrayType} {t k0 N : Nat} {z : Int32} {a0 : vp_A} {ty : FieldType} (n : Nat) (hd : decode M.1 pc = .ok (.newarray at0, 2)) (hn : pc + 2 = n) (hN : M.2.2.2.2.2.2 = some k0) (hce : k0 + ce = ws.length) (hq : ws.length < 900) (hty : newarray.typeOf at0 = ty) (ht0 : (q_tys E)[t]? = some (q_kA E t, ty)) (hnr : (∃ c, ty = .object c) → False) (hw1 : Cond.arrayClass ty ∈ lw_tbl) (ha : ∀ cA : ClassId, vp_cell cA a0 = arrV cA N (fun _ => defaultValue ty)) (hz0 : ¬ z < 0) (hzN : z.toNatClampNeg = N) (hby : N * componentBytes ty ≤ 536870912) (hcells : ce + 1 ≤ R.cells) (hslots : sl + N ≤ R.slots) (k : AW E R M (ws ++ [.inl (q_kA E t, a0)]) (ce + 1) (sl + N) n lv (.ref ws.length :: st) r) : AW E R M ws ce sl pc lv (.int z :: st) r := by
  subst hn
  subst hty
  intro p e s m args below meth c H locs ls hC hP hS hl
  obtain ⟨h0, ht, hx, hb, hml, hr, hlk, hh, hown, hnm, hn0⟩ := id hC
  refine q_size (fun hsz => ?_)
  have hH := q_exact ht hP hS (hn0 _ hN) hce hsz
  have hKA := ((ht.K h0).2 t _ ht0).2
  refine va_newaK (h := (q_g E).1 + ws.length) hx hb (q_wA h0 ht hw1) rfl hd rfl hz0 hzN hby hcells hslots hH fun H1 cA e1 z1 o1 _ hNm => ?_
  have hcA : cA = q_kA E t := by
    have h2 : s.vm.findClass ("[" ++ (newarray.typeOf at0).toString) = some (q_kA E t) := by
      cases at0 <;> exact hKA
    exact Option.some.inj (hNm.symm.trans h2)
  subst hcA
  have hk : ∀ (k : Nat) (x : Nat × va_E), (q_wz (q_g E) ws)[k]? = some x → H1[x.1]? = H[x.1]? := fun k x hx => o1 x.1 (by have := (hP k x hx).lt; omega)
  have hnew : va_at (q_DD E) q_cl ((q_g E).1 + ws.length, q_ce (q_g E) (.inl (q_kA E t, a0))) H1 := by
    show H1[(q_g E).1 + ws.length]? = some (vp_cell _ _)
    rw [ha]
    exact e1
  have hP1 : va_P (q_DD E) q_cl (q_wz (q_g E) (ws ++ [.inl (q_kA E t, a0)])) H1 := by
    rw [← q_wz_push]
    refine (hP.kept hk).app (fun j x hx => ?_)
    have hz : j < 1 := (List.getElem?_eq_some_iff.mp hx).1
    rw [show j = 0 by omega] at hx
    cases hx
    exact hnew
  have hS1 : va_S (q_A (q_g E)) s.heap H1 locs := ⟨Nat.le_trans hS.1 (by omega), fun x h1 h2 => (o1 x (by have := hS.1; omega)).trans (hS.2.1 x h1 h2), hS.2.2⟩
  have hg := k p e s m args below meth c H1 locs ls hC hP1 hS1 hl
  rw [List.map_cons, q_ref hq] at hg
  exact hg
theorem q_ofMQ {below : List Frame} {args : Array Value} {s : State} {H : Heap} {locs : List Loc} {mc ms : Nat} {o : Outcome} {x : Option Value ⊕ Nat} (hP : va_P (q_DD E) q_cl (q_wz (q_g E) ws) H) (hS : va_S (q_A (q_g E)) s.heap H locs) (ho : ∀ t : State, t.heap = H → q_Out E x o s t) (hm : ce ≤ mc) (hn : sl ≤ ms) :
    ∀ t, MQ below (fun _ _ o' t' => o' = o ∧ t'.heap = H) args s ce sl (q_A (q_g E)) t → q_End E (x, ws, mc, ms) s below t := by
  rintro t ⟨o', h1, h2, ⟨rfl, h4⟩, L, ⟨-, h5, h6⟩, h7⟩
  exact ⟨_, h1, h2, ho t h4, by rw [h4]; exact hP, hS.F h4, h5, L, h6.mono hm hn, h7⟩
theorem q_iret {v : Int32} {mc ms : Nat} (hd : decode M.1 pc = .ok (.ireturn, 1)) (hrt : M.2.2.1 = some .int) (hm : ce ≤ mc) (hn : sl ≤ ms) : AW E R M ws ce sl pc lv [.int v] (.inl (some (.int v)), ws, mc, ms) := by
  intro p e s m args below meth c H locs ls hC hP hS hl
  obtain ⟨h0, ht, hx, hb, hml, hr, hlk, hh, hown, hnm, hn0⟩ := id hC
  refine q_mono (q_ofMQ (args := args) hP hS (o := .returned (some (.int v))) (fun t _ => rfl) hm hn) ?_
  exact W.iret hx hb (hr.trans hrt) (fun t ht _ => ⟨rfl, ht⟩) hS.2.2 hd
theorem q_vret {mc ms : Nat} (hd : decode M.1 pc = .ok (.return_, 1)) (hrt : M.2.2.1 = none) (hm : ce ≤ mc) (hn : sl ≤ ms) : AW E R M ws ce sl pc lv [] (.inl none, ws, mc, ms) := by
  intro p e s m args below meth c H locs ls hC hP hS hl
  obtain ⟨h0, ht, hx, hb, hml, hr, hlk, hh, hown, hnm, hn0⟩ := id hC
  refine q_mono (q_ofMQ (args := args) hP hS (o := .returned none) (fun t _ => rfl) hm hn) ?_
  exact W.vret hx hb (hr.trans hrt) (fun t ht _ => ⟨rfl, ht⟩) hS.2.2 hd
/-- a boolean answer: its lowest bit -/
def q_nb (v : Int32) : Int32 := vp_nar .boolean v
theorem q_nb_narrow (v : Int32) : narrow .boolean (.int v) = .int (q_nb v) := rfl
theorem q_zret {v : Int32} {mc ms : Nat} (hd : decode M.1 pc = .ok (.ireturn, 1)) (hrt : M.2.2.1 = some .boolean) (hm : ce ≤ mc) (hn : sl ≤ ms) : AW E R M ws ce sl pc lv [.int v] (.inl (some (.int (q_nb v))), ws, mc, ms) := by
  intro p e s m args below meth c H locs ls hC hP hS hl
  obtain ⟨h0, ht, hx, hb, hml, hr, hlk, hh, hown, hnm, hn0⟩ := id hC
  have hn' := q_nb_narrow v
  have hr' := hr.trans hrt
  intro T hT X
  obtain ⟨fs, hret, hrun, hended, hW, hframe⟩ := X.leave (v := some (.int (q_nb v))) (hlocks := hlk) (fun h => by rw [hr'] at h; cases h)
  have hmeth' : T.vm.method? m = some meth := X.method'
  have hend : q_End E (.inl (some (.int (q_nb v))), ws, mc, ms) s below (T.setFrames fs) := ⟨_, hrun, hended, rfl, by rw [show (T.setFrames fs).heap = H from hT]; exact hP, hS.F hT, hW, locs, hframe.mono hm hn, hS.2.2⟩
  refine ⟨T.setFrames fs, ?_, hend⟩
  show Steps p.tables e below (T.setTop (F0 m pc ls [.int v])) _
  jvm_step X.here [X.here.top, hx, hb, hd, hmeth', hr', hn']
  (try refine ⟨rfl, ?_⟩); (try refine ⟨rfl, ?_⟩)
  first | (intro acts; rw [hret _ acts rfl rfl rfl]) | rw [hret _ _ rfl rfl rfl]
  exact Steps.refl _
end QR
end
section
def q_of (o : Int64) : Nat → Int64 := fun j => if j = 0 then o else 0
/-- the cell at place p of the made world -/
def q_mk (E : q_E) (c d : Nat) (o : Int64) (p : Nat) (f : Nat → Int32) : va_E := match p with
  | 0 => .inr (0, [.ref 1, .ref 3, .ref 11, .ref 14, .ref c, .ref d, .int (f 6), .int (f 7)])
  | 1 => .inr (1, [.ref 2, .int (f 1), .int (f 2)])
  | 2 => .inl (q_kA E 2, 18, .inl f)
  | 3 => .inr (3, [.ref 4, .ref 5, .ref 6, .ref 7, .ref 8, .ref 9, .ref 10, .int (f 7), .int (f 8), .int (f 9)])
  | 4 => .inl (q_kA E 0, 256, .inl f)
  | 5 => .inl (q_kA E 0, 256, .inl f)
  | 6 => .inl (q_kA E 0, 256, .inl f)
  | 7 => .inl (q_kA E 1, 256, .inl f)
  | 8 => .inl (q_kA E 1, 256, .inl f)
  | 9 => .inl (q_kA E 0, 1280, .inl f)
  | 10 => .inl (q_kA E 0, 256, .inl f)
  | 11 => .inr (4, [.ref 12, .ref 13, .int (f 2), .int (f 3)])
  | 12 => .inl (q_kA E 0, 1281, .inl f)
  | 13 => .inl (q_kA E 0, 1280, .inl f)
  | 14 => .inr (5, [.ref 15, .int (f 1), .int (f 2)])
  | 15 => .inl (q_kA E 0, 16, .inl f)
  | 16 => .inr (2, [.ref 17, .ref 18, .ref 19, .ref 20, .ref 21, .ref 22, .ref 23, .int (f 7), .int (f 8), .int (f 9)])
  | 17 => .inl (q_kA E 0, 18, .inl f)
  | 18 => .inl (q_kA E 0, 18, .inl f)
  | 19 => .inl (q_kA E 0, 18, .inl f)
  | 20 => .inl (q_kA E 0, 18, .inl f)
  | 21 => .inl (q_kA E 0, 5, .inl f)
  | 22 => .inl (q_kA E 0, 5, .inl f)
  | 23 => .inl (q_kA E 0, 18, .inl f)
  | 24 => .inr (2, [.ref 25, .ref 26, .ref 27, .ref 28, .ref 29, .ref 30, .ref 31, .int (f 7), .int (f 8), .int (f 9)])
  | 25 => .inl (q_kA E 0, 18, .inl f)
  | 26 => .inl (q_kA E 0, 18, .inl f)
  | 27 => .inl (q_kA E 0, 18, .inl f)
  | 28 => .inl (q_kA E 0, 18, .inl f)
  | 29 => .inl (q_kA E 0, 5, .inl f)
  | 30 => .inl (q_kA E 0, 5, .inl f)
  | 31 => .inl (q_kA E 0, 18, .inl f)
  | 32 => .inr (6, [.int (f 0), .ref 33, .int (f 2), .int (f 3), .int (f 4), .ref 34, .ref 35, .ref 36, .ref 37, .int (f 9), .ref 38, .int (f 11), .ref 39, .int (f 13), .ref 40, .ref 41, .ref 42, .ref 43, .int (f 18), .ref 44, .int (f 20), .ref 45, .int (f 22), .ref 46, .ref 47, .ref 48, .ref 49, .ref 50, .ref 51, .ref 52, .ref 53, .ref 54, .int (f 32), .int (f 33), .ref 55, .ref 56, .int (f 36), .int (f 37), .ref 57, .ref 58])
  | 33 => .inl (q_kA E 0, 18, .inl f)
  | 34 => .inl (q_kA E 0, 18, .inl f)
  | 35 => .inl (q_kA E 0, 18, .inl f)
  | 36 => .inl (q_kA E 0, 18, .inl f)
  | 37 => .inl (q_kA E 0, 18, .inl f)
  | 38 => .inl (q_kA E 0, 5, .inl f)
  | 39 => .inl (q_kA E 0, 5, .inl f)
  | 40 => .inl (q_kA E 0, 18, .inl f)
  | 41 => .inl (q_kA E 0, 18, .inl f)
  | 42 => .inl (q_kA E 0, 18, .inl f)
  | 43 => .inl (q_kA E 0, 18, .inl f)
  | 44 => .inl (q_kA E 0, 18, .inl f)
  | 45 => .inl (q_kA E 0, 18, .inl f)
  | 46 => .inl (q_kA E 0, 256, .inl f)
  | 47 => .inl (q_kA E 1, 256, .inl f)
  | 48 => .inl (q_kA E 0, 256, .inl f)
  | 49 => .inl (q_kA E 0, 256, .inl f)
  | 50 => .inl (q_kA E 1, 18, .inl f)
  | 51 => .inl (q_kA E 1, 256, .inl f)
  | 52 => .inl (q_kA E 1, 256, .inl f)
  | 53 => .inl (q_kA E 1, 32, .inl f)
  | 54 => .inl (q_kA E 0, 1280, .inl f)
  | 55 => .inl (q_kA E 0, 1280, .inl f)
  | 56 => .inl (q_kA E 0, 1280, .inl f)
  | 57 => .inl (q_kA E 0, 16, .inl f)
  | 58 => .inl (q_kA E 1, 288, .inl f)
  | 59 => .inl (q_kA E 3, 1, .inr (.inl (q_of o)))
  | _ => .inl (q_kA E 0, 0, .inl f)
theorem q_mk_out {E : q_E} {c d : Nat} {o o' : Int64} {f : Nat → Int32} {p : Nat} (h : p ≠ q_PO) : q_mk E c d o p f = q_mk E c d o' p f := by
  unfold q_mk
  split <;> first | rfl | exact absurd rfl h
theorem q_mk_cd {E : q_E} {c d c' d' : Nat} {o : Int64} {f : Nat → Int32} {p : Nat} (h : p ≠ 0) : q_mk E c d o p f = q_mk E c' d' o p f := by
  unfold q_mk
  split <;> first | rfl | exact absurd rfl h
def q_cd (c d : Nat) : Prop := (c = 16 ∧ d = 24) ∨ (c = 24 ∧ d = 16)
end
section
def y_D_type : MethodName := ⟨"LassoDesk", "type", "(I)Z"⟩
abbrev m_D_type : q_M := (prog_1_method_2_code, 3, (Option.some Jvm.ClassFile.FieldType.boolean), "LassoDesk", "type", [], none)
def y_D_formula : MethodName := ⟨"LassoDesk", "formula", "()I"⟩
abbrev m_D_formula : q_M := (prog_1_method_3_code, 3, (Option.some Jvm.ClassFile.FieldType.int), "LassoDesk", "formula", [], none)
def y_D_states : MethodName := ⟨"LassoDesk", "states", "()I"⟩
abbrev m_D_states : q_M := (prog_1_method_4_code, 1, (Option.some Jvm.ClassFile.FieldType.int), "LassoDesk", "states", [], none)
def y_D_isAt : MethodName := ⟨"LassoDesk", "isAt", "(I)Z"⟩
abbrev m_D_isAt : q_M := (prog_1_method_5_code, 2, (Option.some Jvm.ClassFile.FieldType.boolean), "LassoDesk", "isAt", [], none)
def y_D_leads : MethodName := ⟨"LassoDesk", "leads", "(II)Z"⟩
abbrev m_D_leads : q_M := (prog_1_method_6_code, 3, (Option.some Jvm.ClassFile.FieldType.boolean), "LassoDesk", "leads", [], none)
def y_D_lasts : MethodName := ⟨"LassoDesk", "lasts", "(I)Z"⟩
abbrev m_D_lasts : q_M := (prog_1_method_7_code, 2, (Option.some Jvm.ClassFile.FieldType.boolean), "LassoDesk", "lasts", [], none)
def y_D_lasting : MethodName := ⟨"LassoDesk", "lasting", "()I"⟩
abbrev m_D_lasting : q_M := (prog_1_method_8_code, 1, (Option.some Jvm.ClassFile.FieldType.int), "LassoDesk", "lasting", [], none)
def y_D_promises : MethodName := ⟨"LassoDesk", "promises", "()I"⟩
abbrev m_D_promises : q_M := (prog_1_method_9_code, 1, (Option.some Jvm.ClassFile.FieldType.int), "LassoDesk", "promises", [], none)
def y_D_can : MethodName := ⟨"LassoDesk", "can", "()Z"⟩
abbrev m_D_can : q_M := (prog_1_method_10_code, 1, (Option.some Jvm.ClassFile.FieldType.boolean), "LassoDesk", "can", [], none)
def y_D_stem : MethodName := ⟨"LassoDesk", "stem", "()I"⟩
abbrev m_D_stem : q_M := (prog_1_method_11_code, 1, (Option.some Jvm.ClassFile.FieldType.int), "LassoDesk", "stem", [], none)
def y_D_loop : MethodName := ⟨"LassoDesk", "loop", "()I"⟩
abbrev m_D_loop : q_M := (prog_1_method_12_code, 1, (Option.some Jvm.ClassFile.FieldType.int), "LassoDesk", "loop", [], none)
def y_D_step : MethodName := ⟨"LassoDesk", "step", "(I)I"⟩
abbrev m_D_step : q_M := (prog_1_method_13_code, 2, (Option.some Jvm.ClassFile.FieldType.int), "LassoDesk", "step", [], none)
def y_D_shape : MethodName := ⟨"LassoDesk", "shape", "(II)V"⟩
abbrev m_D_shape : q_M := (prog_1_method_14_code, 3, (Option.none : Option Jvm.ClassFile.FieldType), "LassoDesk", "shape", [], none)
def y_D_set : MethodName := ⟨"LassoDesk", "set", "(II)I"⟩
abbrev m_D_set : q_M := (prog_1_method_15_code, 3, (Option.some Jvm.ClassFile.FieldType.int), "LassoDesk", "set", [], none)
def y_D_adopt : MethodName := ⟨"LassoDesk", "adopt", "()Z"⟩
abbrev m_D_adopt : q_M := (prog_1_method_16_code, 1, (Option.some Jvm.ClassFile.FieldType.boolean), "LassoDesk", "adopt", [], none)
def y_D_letter : MethodName := ⟨"LassoDesk", "letter", "(I)I"⟩
abbrev m_D_letter : q_M := (prog_1_method_17_code, 2, (Option.some Jvm.ClassFile.FieldType.int), "LassoDesk", "letter", [], none)
def y_D_holds : MethodName := ⟨"LassoDesk", "holds", "(I)Z"⟩
abbrev m_D_holds : q_M := (prog_1_method_18_code, 2, (Option.some Jvm.ClassFile.FieldType.boolean), "LassoDesk", "holds", [], none)
def y_D_requireFormula : MethodName := ⟨"LassoDesk", "requireFormula", "()V"⟩
abbrev m_D_requireFormula : q_M := (prog_1_method_19_code, 1, (Option.none : Option Jvm.ClassFile.FieldType), "LassoDesk", "requireFormula", [], none)
def y_D_requireState : MethodName := ⟨"LassoDesk", "requireState", "(I)V"⟩
abbrev m_D_requireState : q_M := (prog_1_method_20_code, 2, (Option.none : Option Jvm.ClassFile.FieldType), "LassoDesk", "requireState", [], none)
def y_D_requirePlace : MethodName := ⟨"LassoDesk", "requirePlace", "(I)V"⟩
abbrev m_D_requirePlace : q_M := (prog_1_method_21_code, 2, (Option.none : Option Jvm.ClassFile.FieldType), "LassoDesk", "requirePlace", [], none)
def y_D_settle : MethodName := ⟨"LassoDesk", "settle", "()V"⟩
abbrev m_D_settle : q_M := (prog_1_method_22_code, 1, (Option.none : Option Jvm.ClassFile.FieldType), "LassoDesk", "settle", [], none)
def y_D_hasBit : MethodName := ⟨"LassoDesk", "hasBit", "(II)Z"⟩
abbrev m_D_hasBit : q_M := (prog_1_method_23_code, 2, (Option.some Jvm.ClassFile.FieldType.boolean), "LassoDesk", "hasBit", [], none)
def y_D_isTemporal : MethodName := ⟨"LassoDesk", "isTemporal", "(I)Z"⟩
abbrev m_D_isTemporal : q_M := (prog_1_method_24_code, 1, (Option.some Jvm.ClassFile.FieldType.boolean), "LassoDesk", "isTemporal", [], none)
def y_Mo_thrown : MethodName := ⟨"LassoDeskModel", "thrown", "()I"⟩
abbrev m_Mo_thrown : q_M := (prog_8_method_2_code, 1, (Option.some Jvm.ClassFile.FieldType.int), "LassoDeskModel", "thrown", [], none)
def y_Mo_type : MethodName := ⟨"LassoDeskModel", "type", "(I)Z"⟩
abbrev m_Mo_type : q_M := (prog_8_method_3_code, 7, (Option.some Jvm.ClassFile.FieldType.boolean), "LassoDeskModel", "type", [], none)
def y_Mo_tightness : MethodName := ⟨"LassoDeskModel", "tightness", "(I)I"⟩
abbrev m_Mo_tightness : q_M := (prog_8_method_4_code, 1, (Option.some Jvm.ClassFile.FieldType.int), "LassoDeskModel", "tightness", [], none)
def y_Mo_isTemporal : MethodName := ⟨"LassoDeskModel", "isTemporal", "(I)Z"⟩
abbrev m_Mo_isTemporal : q_M := (prog_8_method_5_code, 1, (Option.some Jvm.ClassFile.FieldType.boolean), "LassoDeskModel", "isTemporal", [], none)
def y_Mo_part : MethodName := ⟨"LassoDeskModel", "part", "(IIII)V"⟩
abbrev m_Mo_part : q_M := (prog_8_method_6_code, 5, (Option.none : Option Jvm.ClassFile.FieldType), "LassoDeskModel", "part", [], none)
def y_Mo_taken : MethodName := ⟨"LassoDeskModel", "taken", "()I"⟩
abbrev m_Mo_taken : q_M := (prog_8_method_7_code, 1, (Option.some Jvm.ClassFile.FieldType.int), "LassoDeskModel", "taken", [], none)
def y_Mo_settle : MethodName := ⟨"LassoDeskModel", "settle", "(I)V"⟩
abbrev m_Mo_settle : q_M := (prog_8_method_8_code, 5, (Option.none : Option Jvm.ClassFile.FieldType), "LassoDeskModel", "settle", [], none)
def y_Mo_push : MethodName := ⟨"LassoDeskModel", "push", "(I)V"⟩
abbrev m_Mo_push : q_M := (prog_8_method_9_code, 2, (Option.none : Option Jvm.ClassFile.FieldType), "LassoDeskModel", "push", [], none)
def y_Mo_leafOf : MethodName := ⟨"LassoDeskModel", "leafOf", "(I)I"⟩
abbrev m_Mo_leafOf : q_M := (prog_8_method_10_code, 1, (Option.some Jvm.ClassFile.FieldType.int), "LassoDeskModel", "leafOf", [], none)
def y_Mo_prefixOf : MethodName := ⟨"LassoDeskModel", "prefixOf", "(I)I"⟩
abbrev m_Mo_prefixOf : q_M := (prog_8_method_11_code, 1, (Option.some Jvm.ClassFile.FieldType.int), "LassoDeskModel", "prefixOf", [], none)
def y_Mo_signOf : MethodName := ⟨"LassoDeskModel", "signOf", "(I)I"⟩
abbrev m_Mo_signOf : q_M := (prog_8_method_12_code, 1, (Option.some Jvm.ClassFile.FieldType.int), "LassoDeskModel", "signOf", [], none)
def y_Mo_reads : MethodName := ⟨"LassoDeskModel", "reads", "(I)Z"⟩
abbrev m_Mo_reads : q_M := (prog_8_method_13_code, 8, (Option.some Jvm.ClassFile.FieldType.boolean), "LassoDeskModel", "reads", [], none)
def y_Mo_formula : MethodName := ⟨"LassoDeskModel", "formula", "()I"⟩
abbrev m_Mo_formula : q_M := (prog_8_method_14_code, 3, (Option.some Jvm.ClassFile.FieldType.int), "LassoDeskModel", "formula", [], none)
def y_Mo_count : MethodName := ⟨"LassoDeskModel", "count", "()I"⟩
abbrev m_Mo_count : q_M := (prog_8_method_15_code, 1, (Option.some Jvm.ClassFile.FieldType.int), "LassoDeskModel", "count", [], none)
def y_Mo_valueOf : MethodName := ⟨"LassoDeskModel", "valueOf", "(IZI)Z"⟩
abbrev m_Mo_valueOf : q_M := (prog_8_method_16_code, 6, (Option.some Jvm.ClassFile.FieldType.boolean), "LassoDeskModel", "valueOf", [], none)
def y_Mo_look : MethodName := ⟨"LassoDeskModel", "look", "(I)V"⟩
abbrev m_Mo_look : q_M := (prog_8_method_17_code, 8, (Option.none : Option Jvm.ClassFile.FieldType), "LassoDeskModel", "look", [], none)
def y_Mo_goes : MethodName := ⟨"LassoDeskModel", "goes", "(II)Z"⟩
abbrev m_Mo_goes : q_M := (prog_8_method_18_code, 3, (Option.some Jvm.ClassFile.FieldType.boolean), "LassoDeskModel", "goes", [], none)
def y_Mo_noteSome : MethodName := ⟨"LassoDeskModel", "noteSome", "()V"⟩
abbrev m_Mo_noteSome : q_M := (prog_8_method_19_code, 2, (Option.none : Option Jvm.ClassFile.FieldType), "LassoDeskModel", "noteSome", [], none)
def y_Mo_leadsToOne : MethodName := ⟨"LassoDeskModel", "leadsToOne", "(I)Z"⟩
abbrev m_Mo_leadsToOne : q_M := (prog_8_method_20_code, 2, (Option.some Jvm.ClassFile.FieldType.boolean), "LassoDeskModel", "leadsToOne", [], none)
def y_Mo_countSteps : MethodName := ⟨"LassoDeskModel", "countSteps", "(I)V"⟩
abbrev m_Mo_countSteps : q_M := (prog_8_method_21_code, 5, (Option.none : Option Jvm.ClassFile.FieldType), "LassoDeskModel", "countSteps", [], none)
def y_Mo_takeOut : MethodName := ⟨"LassoDeskModel", "takeOut", "()V"⟩
abbrev m_Mo_takeOut : q_M := (prog_8_method_22_code, 4, (Option.none : Option Jvm.ClassFile.FieldType), "LassoDeskModel", "takeOut", [], none)
def y_Mo_isDue : MethodName := ⟨"LassoDeskModel", "isDue", "(II)Z"⟩
abbrev m_Mo_isDue : q_M := (prog_8_method_23_code, 3, (Option.some Jvm.ClassFile.FieldType.boolean), "LassoDeskModel", "isDue", [], none)
def y_Mo_dutyAt : MethodName := ⟨"LassoDeskModel", "dutyAt", "(II)I"⟩
abbrev m_Mo_dutyAt : q_M := (prog_8_method_24_code, 5, (Option.some Jvm.ClassFile.FieldType.int), "LassoDeskModel", "dutyAt", [], none)
def y_Mo_nextOf : MethodName := ⟨"LassoDeskModel", "nextOf", "(II)I"⟩
abbrev m_Mo_nextOf : q_M := (prog_8_method_25_code, 8, (Option.some Jvm.ClassFile.FieldType.int), "LassoDeskModel", "nextOf", [], none)
def y_Mo_firstState : MethodName := ⟨"LassoDeskModel", "firstState", "()I"⟩
abbrev m_Mo_firstState : q_M := (prog_8_method_26_code, 2, (Option.some Jvm.ClassFile.FieldType.int), "LassoDeskModel", "firstState", [], none)
def y_Mo_goWalk : MethodName := ⟨"LassoDeskModel", "goWalk", "()V"⟩
abbrev m_Mo_goWalk : q_M := (prog_8_method_27_code, 5, (Option.none : Option Jvm.ClassFile.FieldType), "LassoDeskModel", "goWalk", [], none)
def y_Mo_refused : MethodName := ⟨"LassoDeskModel", "refused", "(Z)Z"⟩
abbrev m_Mo_refused : q_M := (prog_8_method_28_code, 2, (Option.some Jvm.ClassFile.FieldType.boolean), "LassoDeskModel", "refused", [], none)
def y_Mo_isState : MethodName := ⟨"LassoDeskModel", "isState", "(I)Z"⟩
abbrev m_Mo_isState : q_M := (prog_8_method_29_code, 2, (Option.some Jvm.ClassFile.FieldType.boolean), "LassoDeskModel", "isState", [], none)
def y_Mo_states : MethodName := ⟨"LassoDeskModel", "states", "()I"⟩
abbrev m_Mo_states : q_M := (prog_8_method_30_code, 1, (Option.some Jvm.ClassFile.FieldType.int), "LassoDeskModel", "states", [], none)
def y_Mo_isAt : MethodName := ⟨"LassoDeskModel", "isAt", "(I)Z"⟩
abbrev m_Mo_isAt : q_M := (prog_8_method_31_code, 2, (Option.some Jvm.ClassFile.FieldType.boolean), "LassoDeskModel", "isAt", [], none)
def y_Mo_leads : MethodName := ⟨"LassoDeskModel", "leads", "(II)Z"⟩
abbrev m_Mo_leads : q_M := (prog_8_method_32_code, 3, (Option.some Jvm.ClassFile.FieldType.boolean), "LassoDeskModel", "leads", [], none)
def y_Mo_lasts : MethodName := ⟨"LassoDeskModel", "lasts", "(I)Z"⟩
abbrev m_Mo_lasts : q_M := (prog_8_method_33_code, 2, (Option.some Jvm.ClassFile.FieldType.boolean), "LassoDeskModel", "lasts", [], none)
def y_Mo_lasting : MethodName := ⟨"LassoDeskModel", "lasting", "()I"⟩
abbrev m_Mo_lasting : q_M := (prog_8_method_34_code, 3, (Option.some Jvm.ClassFile.FieldType.int), "LassoDeskModel", "lasting", [], none)
def y_Mo_promises : MethodName := ⟨"LassoDeskModel", "promises", "()I"⟩
abbrev m_Mo_promises : q_M := (prog_8_method_35_code, 1, (Option.some Jvm.ClassFile.FieldType.int), "LassoDeskModel", "promises", [], none)
def y_Mo_can : MethodName := ⟨"LassoDeskModel", "can", "()Z"⟩
abbrev m_Mo_can : q_M := (prog_8_method_36_code, 1, (Option.some Jvm.ClassFile.FieldType.boolean), "LassoDeskModel", "can", [], none)
def y_Mo_stem : MethodName := ⟨"LassoDeskModel", "stem", "()I"⟩
abbrev m_Mo_stem : q_M := (prog_8_method_37_code, 1, (Option.some Jvm.ClassFile.FieldType.int), "LassoDeskModel", "stem", [], none)
def y_Mo_loop : MethodName := ⟨"LassoDeskModel", "loop", "()I"⟩
abbrev m_Mo_loop : q_M := (prog_8_method_38_code, 1, (Option.some Jvm.ClassFile.FieldType.int), "LassoDeskModel", "loop", [], none)
def y_Mo_step : MethodName := ⟨"LassoDeskModel", "step", "(I)I"⟩
abbrev m_Mo_step : q_M := (prog_8_method_39_code, 2, (Option.some Jvm.ClassFile.FieldType.int), "LassoDeskModel", "step", [], none)
def y_Mo_shape : MethodName := ⟨"LassoDeskModel", "shape", "(II)V"⟩
abbrev m_Mo_shape : q_M := (prog_8_method_40_code, 4, (Option.none : Option Jvm.ClassFile.FieldType), "LassoDeskModel", "shape", [], none)
def y_Mo_set : MethodName := ⟨"LassoDeskModel", "set", "(II)I"⟩
abbrev m_Mo_set : q_M := (prog_8_method_41_code, 4, (Option.some Jvm.ClassFile.FieldType.int), "LassoDeskModel", "set", [], none)
def y_Mo_adopt : MethodName := ⟨"LassoDeskModel", "adopt", "()Z"⟩
abbrev m_Mo_adopt : q_M := (prog_8_method_42_code, 2, (Option.some Jvm.ClassFile.FieldType.boolean), "LassoDeskModel", "adopt", [], none)
def y_Mo_placeOf : MethodName := ⟨"LassoDeskModel", "placeOf", "(I)I"⟩
abbrev m_Mo_placeOf : q_M := (prog_8_method_43_code, 2, (Option.some Jvm.ClassFile.FieldType.int), "LassoDeskModel", "placeOf", [], none)
def y_Mo_letter : MethodName := ⟨"LassoDeskModel", "letter", "(I)I"⟩
abbrev m_Mo_letter : q_M := (prog_8_method_44_code, 2, (Option.some Jvm.ClassFile.FieldType.int), "LassoDeskModel", "letter", [], none)
def y_Mo_spread : MethodName := ⟨"LassoDeskModel", "spread", "(I)V"⟩
abbrev m_Mo_spread : q_M := (prog_8_method_45_code, 7, (Option.none : Option Jvm.ClassFile.FieldType), "LassoDeskModel", "spread", [], none)
def y_Mo_holds : MethodName := ⟨"LassoDeskModel", "holds", "(I)Z"⟩
abbrev m_Mo_holds : q_M := (prog_8_method_46_code, 3, (Option.some Jvm.ClassFile.FieldType.boolean), "LassoDeskModel", "holds", [], none)
def y_Fo_clear : MethodName := ⟨"LassoDesk$Formula", "clear", "()V"⟩
abbrev m_Fo_clear : q_M := (prog_2_method_2_code, 1, (Option.none : Option Jvm.ClassFile.FieldType), "LassoDesk$Formula", "clear", [], none)
def y_Fo_add : MethodName := ⟨"LassoDesk$Formula", "add", "(IIII)I"⟩
abbrev m_Fo_add : q_M := (prog_2_method_3_code, 5, (Option.some Jvm.ClassFile.FieldType.int), "LassoDesk$Formula", "add", [], none)
def y_Fo_listPromises : MethodName := ⟨"LassoDesk$Formula", "listPromises", "()V"⟩
abbrev m_Fo_listPromises : q_M := (prog_2_method_4_code, 2, (Option.none : Option Jvm.ClassFile.FieldType), "LassoDesk$Formula", "listPromises", [], none)
def y_Fo_size : MethodName := ⟨"LassoDesk$Formula", "size", "()I"⟩
abbrev m_Fo_size : q_M := (prog_2_method_5_code, 1, (Option.some Jvm.ClassFile.FieldType.int), "LassoDesk$Formula", "size", [], none)
def y_Fo_stateCount : MethodName := ⟨"LassoDesk$Formula", "stateCount", "()I"⟩
abbrev m_Fo_stateCount : q_M := (prog_2_method_6_code, 1, (Option.some Jvm.ClassFile.FieldType.int), "LassoDesk$Formula", "stateCount", [], none)
def y_Fo_promiseCount : MethodName := ⟨"LassoDesk$Formula", "promiseCount", "()I"⟩
abbrev m_Fo_promiseCount : q_M := (prog_2_method_7_code, 1, (Option.some Jvm.ClassFile.FieldType.int), "LassoDesk$Formula", "promiseCount", [], none)
def y_Fo_isWholeIn : MethodName := ⟨"LassoDesk$Formula", "isWholeIn", "(I)Z"⟩
abbrev m_Fo_isWholeIn : q_M := (prog_2_method_8_code, 2, (Option.some Jvm.ClassFile.FieldType.boolean), "LassoDesk$Formula", "isWholeIn", [], none)
def y_Fo_partsAt : MethodName := ⟨"LassoDesk$Formula", "partsAt", "(I)I"⟩
abbrev m_Fo_partsAt : q_M := (prog_2_method_9_code, 4, (Option.some Jvm.ClassFile.FieldType.int), "LassoDesk$Formula", "partsAt", [], none)
def y_Fo_isPartAt : MethodName := ⟨"LassoDesk$Formula", "isPartAt", "(III)Z"⟩
abbrev m_Fo_isPartAt : q_M := (prog_2_method_10_code, 7, (Option.some Jvm.ClassFile.FieldType.boolean), "LassoDesk$Formula", "isPartAt", [], none)
def y_Fo_expectedBefore : MethodName := ⟨"LassoDesk$Formula", "expectedBefore", "(I)I"⟩
abbrev m_Fo_expectedBefore : q_M := (prog_2_method_11_code, 5, (Option.some Jvm.ClassFile.FieldType.int), "LassoDesk$Formula", "expectedBefore", [], none)
def y_Fo_openIn : MethodName := ⟨"LassoDesk$Formula", "openIn", "(I)I"⟩
abbrev m_Fo_openIn : q_M := (prog_2_method_12_code, 5, (Option.some Jvm.ClassFile.FieldType.int), "LassoDesk$Formula", "openIn", [], none)
def y_Fo_keptIn : MethodName := ⟨"LassoDesk$Formula", "keptIn", "(I)I"⟩
abbrev m_Fo_keptIn : q_M := (prog_2_method_13_code, 5, (Option.some Jvm.ClassFile.FieldType.int), "LassoDesk$Formula", "keptIn", [], none)
def y_Fo_isForOnce : MethodName := ⟨"LassoDesk$Formula", "isForOnce", "(I)Z"⟩
abbrev m_Fo_isForOnce : q_M := (prog_2_method_14_code, 2, (Option.some Jvm.ClassFile.FieldType.boolean), "LassoDesk$Formula", "isForOnce", [], none)
def y_Fo_placesOn : MethodName := ⟨"LassoDesk$Formula", "placesOn", "(LLassoDesk$GivenWord;)I"⟩
abbrev m_Fo_placesOn : q_M := (prog_2_method_15_code, 3, (Option.some Jvm.ClassFile.FieldType.int), "LassoDesk$Formula", "placesOn", [], none)
def y_Fo_partPlaces : MethodName := ⟨"LassoDesk$Formula", "partPlaces", "(ILLassoDesk$GivenWord;)I"⟩
abbrev m_Fo_partPlaces : q_M := (prog_2_method_16_code, 6, (Option.some Jvm.ClassFile.FieldType.int), "LassoDesk$Formula", "partPlaces", [], none)
def y_Gw_fits : MethodName := ⟨"LassoDesk$GivenWord", "fits", "(II)Z"⟩
abbrev m_Gw_fits : q_M := (prog_3_method_2_code, 2, (Option.some Jvm.ClassFile.FieldType.boolean), "LassoDesk$GivenWord", "fits", [], none)
def y_Gw_size : MethodName := ⟨"LassoDesk$GivenWord", "size", "()I"⟩
abbrev m_Gw_size : q_M := (prog_3_method_3_code, 1, (Option.some Jvm.ClassFile.FieldType.int), "LassoDesk$GivenWord", "size", [], none)
def y_Gw_reshape : MethodName := ⟨"LassoDesk$GivenWord", "reshape", "(II)V"⟩
abbrev m_Gw_reshape : q_M := (prog_3_method_4_code, 4, (Option.none : Option Jvm.ClassFile.FieldType), "LassoDesk$GivenWord", "reshape", [], none)
def y_Gw_replace : MethodName := ⟨"LassoDesk$GivenWord", "replace", "(II)I"⟩
abbrev m_Gw_replace : q_M := (prog_3_method_5_code, 4, (Option.some Jvm.ClassFile.FieldType.int), "LassoDesk$GivenWord", "replace", [], none)
def y_Gw_take : MethodName := ⟨"LassoDesk$GivenWord", "take", "(LLassoDesk$Walk;)V"⟩
abbrev m_Gw_take : q_M := (prog_3_method_6_code, 3, (Option.none : Option Jvm.ClassFile.FieldType), "LassoDesk$GivenWord", "take", [], none)
def y_Gw_indexOf : MethodName := ⟨"LassoDesk$GivenWord", "indexOf", "(I)I"⟩
abbrev m_Gw_indexOf : q_M := (prog_3_method_7_code, 2, (Option.some Jvm.ClassFile.FieldType.int), "LassoDesk$GivenWord", "indexOf", [], none)
def y_Gw_letterAt : MethodName := ⟨"LassoDesk$GivenWord", "letterAt", "(I)I"⟩
abbrev m_Gw_letterAt : q_M := (prog_3_method_8_code, 2, (Option.some Jvm.ClassFile.FieldType.int), "LassoDesk$GivenWord", "letterAt", [], none)
def y_Gw_allPlaces : MethodName := ⟨"LassoDesk$GivenWord", "allPlaces", "()I"⟩
abbrev m_Gw_allPlaces : q_M := (prog_3_method_9_code, 1, (Option.some Jvm.ClassFile.FieldType.int), "LassoDesk$GivenWord", "allPlaces", [], none)
def y_Gw_placesWith : MethodName := ⟨"LassoDesk$GivenWord", "placesWith", "(I)I"⟩
abbrev m_Gw_placesWith : q_M := (prog_3_method_10_code, 4, (Option.some Jvm.ClassFile.FieldType.int), "LassoDesk$GivenWord", "placesWith", [], none)
def y_Gw_placesBefore : MethodName := ⟨"LassoDesk$GivenWord", "placesBefore", "(I)I"⟩
abbrev m_Gw_placesBefore : q_M := (prog_3_method_11_code, 3, (Option.some Jvm.ClassFile.FieldType.int), "LassoDesk$GivenWord", "placesBefore", [], none)
def y_Gw_placesUntil : MethodName := ⟨"LassoDesk$GivenWord", "placesUntil", "(II)I"⟩
abbrev m_Gw_placesUntil : q_M := (prog_3_method_12_code, 5, (Option.some Jvm.ClassFile.FieldType.int), "LassoDesk$GivenWord", "placesUntil", [], none)
def y_La_find : MethodName := ⟨"LassoDesk$Lasting", "find", "(LLassoDesk$Formula;)V"⟩
abbrev m_La_find : q_M := (prog_4_method_2_code, 6, (Option.none : Option Jvm.ClassFile.FieldType), "LassoDesk$Lasting", "find", [], none)
def y_La_lookAtStates : MethodName := ⟨"LassoDesk$Lasting", "lookAtStates", "(LLassoDesk$Formula;)V"⟩
abbrev m_La_lookAtStates : q_M := (prog_4_method_3_code, 4, (Option.none : Option Jvm.ClassFile.FieldType), "LassoDesk$Lasting", "lookAtStates", [], none)
def y_La_sweepDeadEnds : MethodName := ⟨"LassoDesk$Lasting", "sweepDeadEnds", "()V"⟩
abbrev m_La_sweepDeadEnds : q_M := (prog_4_method_4_code, 3, (Option.none : Option Jvm.ClassFile.FieldType), "LassoDesk$Lasting", "sweepDeadEnds", [], none)
def y_La_sweepUnkept : MethodName := ⟨"LassoDesk$Lasting", "sweepUnkept", "(I)V"⟩
abbrev m_La_sweepUnkept : q_M := (prog_4_method_5_code, 3, (Option.none : Option Jvm.ClassFile.FieldType), "LassoDesk$Lasting", "sweepUnkept", [], none)
def y_La_takeAway : MethodName := ⟨"LassoDesk$Lasting", "takeAway", "(I)V"⟩
abbrev m_La_takeAway : q_M := (prog_4_method_6_code, 2, (Option.none : Option Jvm.ClassFile.FieldType), "LassoDesk$Lasting", "takeAway", [], none)
def y_La_countSteps : MethodName := ⟨"LassoDesk$Lasting", "countSteps", "(I)V"⟩
abbrev m_La_countSteps : q_M := (prog_4_method_7_code, 6, (Option.none : Option Jvm.ClassFile.FieldType), "LassoDesk$Lasting", "countSteps", [], none)
def y_La_reachBefore : MethodName := ⟨"LassoDesk$Lasting", "reachBefore", "(III)I"⟩
abbrev m_La_reachBefore : q_M := (prog_4_method_8_code, 7, (Option.some Jvm.ClassFile.FieldType.int), "LassoDesk$Lasting", "reachBefore", [], none)
def y_La_stepsFrom : MethodName := ⟨"LassoDesk$Lasting", "stepsFrom", "(II)I"⟩
abbrev m_La_stepsFrom : q_M := (prog_4_method_9_code, 3, (Option.some Jvm.ClassFile.FieldType.int), "LassoDesk$Lasting", "stepsFrom", [], none)
def y_La_has : MethodName := ⟨"LassoDesk$Lasting", "has", "(I)Z"⟩
abbrev m_La_has : q_M := (prog_4_method_10_code, 2, (Option.some Jvm.ClassFile.FieldType.boolean), "LassoDesk$Lasting", "has", [], none)
def y_La_size : MethodName := ⟨"LassoDesk$Lasting", "size", "()I"⟩
abbrev m_La_size : q_M := (prog_4_method_11_code, 1, (Option.some Jvm.ClassFile.FieldType.int), "LassoDesk$Lasting", "size", [], none)
def y_La_leastWhole : MethodName := ⟨"LassoDesk$Lasting", "leastWhole", "()I"⟩
abbrev m_La_leastWhole : q_M := (prog_4_method_12_code, 2, (Option.some Jvm.ClassFile.FieldType.int), "LassoDesk$Lasting", "leastWhole", [], none)
def y_La_dutyFrom : MethodName := ⟨"LassoDesk$Lasting", "dutyFrom", "(II)I"⟩
abbrev m_La_dutyFrom : q_M := (prog_4_method_13_code, 5, (Option.some Jvm.ClassFile.FieldType.int), "LassoDesk$Lasting", "dutyFrom", [], none)
def y_La_nextFrom : MethodName := ⟨"LassoDesk$Lasting", "nextFrom", "(II)I"⟩
abbrev m_La_nextFrom : q_M := (prog_4_method_14_code, 7, (Option.some Jvm.ClassFile.FieldType.int), "LassoDesk$Lasting", "nextFrom", [], none)
def y_La_isNearer : MethodName := ⟨"LassoDesk$Lasting", "isNearer", "(III)Z"⟩
abbrev m_La_isNearer : q_M := (prog_4_method_15_code, 6, (Option.some Jvm.ClassFile.FieldType.boolean), "LassoDesk$Lasting", "isNearer", [], none)
def y_Li_countTyped : MethodName := ⟨"LassoDesk$Line", "countTyped", "(I)I"⟩
abbrev m_Li_countTyped : q_M := (prog_5_method_2_code, 2, (Option.some Jvm.ClassFile.FieldType.int), "LassoDesk$Line", "countTyped", [], none)
def y_Li_areVisible : MethodName := ⟨"LassoDesk$Line", "areVisible", "(II)Z"⟩
abbrev m_Li_areVisible : q_M := (prog_5_method_3_code, 4, (Option.some Jvm.ClassFile.FieldType.boolean), "LassoDesk$Line", "areVisible", [], none)
def y_Li_byteOf : MethodName := ⟨"LassoDesk$Line", "byteOf", "(II)I"⟩
abbrev m_Li_byteOf : q_M := (prog_5_method_4_code, 2, (Option.some Jvm.ClassFile.FieldType.int), "LassoDesk$Line", "byteOf", [], none)
def y_Li_append : MethodName := ⟨"LassoDesk$Line", "append", "(II)Z"⟩
abbrev m_Li_append : q_M := (prog_5_method_5_code, 4, (Option.some Jvm.ClassFile.FieldType.boolean), "LassoDesk$Line", "append", [], none)
def y_Li_clear : MethodName := ⟨"LassoDesk$Line", "clear", "()V"⟩
abbrev m_Li_clear : q_M := (prog_5_method_6_code, 1, (Option.none : Option Jvm.ClassFile.FieldType), "LassoDesk$Line", "clear", [], none)
def y_Li_signAt : MethodName := ⟨"LassoDesk$Line", "signAt", "(I)I"⟩
abbrev m_Li_signAt : q_M := (prog_5_method_7_code, 2, (Option.some Jvm.ClassFile.FieldType.int), "LassoDesk$Line", "signAt", [], none)
def y_Li_temporalsBefore : MethodName := ⟨"LassoDesk$Line", "temporalsBefore", "(I)I"⟩
abbrev m_Li_temporalsBefore : q_M := (prog_5_method_8_code, 4, (Option.some Jvm.ClassFile.FieldType.int), "LassoDesk$Line", "temporalsBefore", [], none)
def y_Li_readInto : MethodName := ⟨"LassoDesk$Line", "readInto", "(LLassoDesk$Formula;)Z"⟩
abbrev m_Li_readInto : q_M := (prog_5_method_9_code, 3, (Option.some Jvm.ClassFile.FieldType.boolean), "LassoDesk$Line", "readInto", [], none)
def y_Li_readLevel : MethodName := ⟨"LassoDesk$Line", "readLevel", "(LLassoDesk$Formula;II)I"⟩
abbrev m_Li_readLevel : q_M := (prog_5_method_10_code, 8, (Option.some Jvm.ClassFile.FieldType.int), "LassoDesk$Line", "readLevel", [], none)
def y_Li_readSimple : MethodName := ⟨"LassoDesk$Line", "readSimple", "(LLassoDesk$Formula;I)I"⟩
abbrev m_Li_readSimple : q_M := (prog_5_method_11_code, 6, (Option.some Jvm.ClassFile.FieldType.int), "LassoDesk$Line", "readSimple", [], none)
def y_Li_readBracket : MethodName := ⟨"LassoDesk$Line", "readBracket", "(LLassoDesk$Formula;I)I"⟩
abbrev m_Li_readBracket : q_M := (prog_5_method_12_code, 4, (Option.some Jvm.ClassFile.FieldType.int), "LassoDesk$Line", "readBracket", [], none)
def y_Li_levelJoinedBy : MethodName := ⟨"LassoDesk$Line", "levelJoinedBy", "(I)I"⟩
abbrev m_Li_levelJoinedBy : q_M := (prog_5_method_13_code, 1, (Option.some Jvm.ClassFile.FieldType.int), "LassoDesk$Line", "levelJoinedBy", [], none)
def y_Wa_go : MethodName := ⟨"LassoDesk$Walk", "go", "(LLassoDesk$Lasting;)V"⟩
abbrev m_Wa_go : q_M := (prog_6_method_2_code, 6, (Option.none : Option Jvm.ClassFile.FieldType), "LassoDesk$Walk", "go", [], none)
def y_Wa_exists : MethodName := ⟨"LassoDesk$Walk", "exists", "()Z"⟩
abbrev m_Wa_exists : q_M := (prog_6_method_3_code, 1, (Option.some Jvm.ClassFile.FieldType.boolean), "LassoDesk$Walk", "exists", [], none)
def y_Wa_stemLength : MethodName := ⟨"LassoDesk$Walk", "stemLength", "()I"⟩
abbrev m_Wa_stemLength : q_M := (prog_6_method_4_code, 1, (Option.some Jvm.ClassFile.FieldType.int), "LassoDesk$Walk", "stemLength", [], none)
def y_Wa_loopLength : MethodName := ⟨"LassoDesk$Walk", "loopLength", "()I"⟩
abbrev m_Wa_loopLength : q_M := (prog_6_method_5_code, 1, (Option.some Jvm.ClassFile.FieldType.int), "LassoDesk$Walk", "loopLength", [], none)
def y_Wa_size : MethodName := ⟨"LassoDesk$Walk", "size", "()I"⟩
abbrev m_Wa_size : q_M := (prog_6_method_6_code, 1, (Option.some Jvm.ClassFile.FieldType.int), "LassoDesk$Walk", "size", [], none)
def y_Wa_stateAt : MethodName := ⟨"LassoDesk$Walk", "stateAt", "(I)I"⟩
abbrev m_Wa_stateAt : q_M := (prog_6_method_7_code, 2, (Option.some Jvm.ClassFile.FieldType.int), "LassoDesk$Walk", "stateAt", [], none)
def y_Lw_type : MethodName := ⟨"LassoDeskLaw", "type", "(LLassoDesk;I[J)I"⟩
abbrev m_Lw_type : q_M := (method_3_code, 4, (Option.some Jvm.ClassFile.FieldType.int), "LassoDeskLaw", "type", [(0, 16, 19, 13)], none)
def y_Lw_formula : MethodName := ⟨"LassoDeskLaw", "formula", "(LLassoDesk;[J)I"⟩
abbrev m_Lw_formula : q_M := (method_4_code, 3, (Option.some Jvm.ClassFile.FieldType.int), "LassoDeskLaw", "formula", [(0, 8, 11, 13)], none)
def y_Lw_states : MethodName := ⟨"LassoDeskLaw", "states", "(LLassoDesk;[J)I"⟩
abbrev m_Lw_states : q_M := (method_5_code, 3, (Option.some Jvm.ClassFile.FieldType.int), "LassoDeskLaw", "states", [(0, 8, 11, 22)], none)
def y_Lw_isAt : MethodName := ⟨"LassoDeskLaw", "isAt", "(LLassoDesk;I[J)I"⟩
abbrev m_Lw_isAt : q_M := (method_6_code, 4, (Option.some Jvm.ClassFile.FieldType.int), "LassoDeskLaw", "isAt", [(0, 16, 19, 22), (0, 16, 22, 27)], none)
def y_Lw_leads : MethodName := ⟨"LassoDeskLaw", "leads", "(LLassoDesk;II[J)I"⟩
abbrev m_Lw_leads : q_M := (method_7_code, 5, (Option.some Jvm.ClassFile.FieldType.int), "LassoDeskLaw", "leads", [(0, 17, 20, 22), (0, 17, 24, 27)], none)
def y_Lw_lasts : MethodName := ⟨"LassoDeskLaw", "lasts", "(LLassoDesk;I[J)I"⟩
abbrev m_Lw_lasts : q_M := (method_8_code, 4, (Option.some Jvm.ClassFile.FieldType.int), "LassoDeskLaw", "lasts", [(0, 16, 19, 22), (0, 16, 22, 27)], none)
def y_Lw_lasting : MethodName := ⟨"LassoDeskLaw", "lasting", "(LLassoDesk;[J)I"⟩
abbrev m_Lw_lasting : q_M := (method_9_code, 3, (Option.some Jvm.ClassFile.FieldType.int), "LassoDeskLaw", "lasting", [(0, 8, 11, 22)], none)
def y_Lw_promises : MethodName := ⟨"LassoDeskLaw", "promises", "(LLassoDesk;[J)I"⟩
abbrev m_Lw_promises : q_M := (method_10_code, 3, (Option.some Jvm.ClassFile.FieldType.int), "LassoDeskLaw", "promises", [(0, 8, 11, 22)], none)
def y_Lw_can : MethodName := ⟨"LassoDeskLaw", "can", "(LLassoDesk;[J)I"⟩
abbrev m_Lw_can : q_M := (method_11_code, 3, (Option.some Jvm.ClassFile.FieldType.int), "LassoDeskLaw", "can", [(0, 15, 18, 22)], none)
def y_Lw_stem : MethodName := ⟨"LassoDeskLaw", "stem", "(LLassoDesk;[J)I"⟩
abbrev m_Lw_stem : q_M := (method_12_code, 3, (Option.some Jvm.ClassFile.FieldType.int), "LassoDeskLaw", "stem", [(0, 8, 11, 22)], none)
def y_Lw_loop : MethodName := ⟨"LassoDeskLaw", "loop", "(LLassoDesk;[J)I"⟩
abbrev m_Lw_loop : q_M := (method_13_code, 3, (Option.some Jvm.ClassFile.FieldType.int), "LassoDeskLaw", "loop", [(0, 8, 11, 22)], none)
def y_Lw_step : MethodName := ⟨"LassoDeskLaw", "step", "(LLassoDesk;I[J)I"⟩
abbrev m_Lw_step : q_M := (method_14_code, 4, (Option.some Jvm.ClassFile.FieldType.int), "LassoDeskLaw", "step", [(0, 9, 12, 22), (0, 9, 15, 27)], none)
def y_Lw_shape : MethodName := ⟨"LassoDeskLaw", "shape", "(LLassoDesk;II)I"⟩
abbrev m_Lw_shape : q_M := (method_15_code, 4, (Option.some Jvm.ClassFile.FieldType.int), "LassoDeskLaw", "shape", [(0, 6, 9, 13)], none)
def y_Lw_set : MethodName := ⟨"LassoDeskLaw", "set", "(LLassoDesk;II[J)I"⟩
abbrev m_Lw_set : q_M := (method_16_code, 5, (Option.some Jvm.ClassFile.FieldType.int), "LassoDeskLaw", "set", [(0, 10, 13, 27)], none)
def y_Lw_adopt : MethodName := ⟨"LassoDeskLaw", "adopt", "(LLassoDesk;[J)I"⟩
abbrev m_Lw_adopt : q_M := (method_17_code, 3, (Option.some Jvm.ClassFile.FieldType.int), "LassoDeskLaw", "adopt", [(0, 15, 18, 22)], none)
def y_Lw_letter : MethodName := ⟨"LassoDeskLaw", "letter", "(LLassoDesk;I[J)I"⟩
abbrev m_Lw_letter : q_M := (method_18_code, 4, (Option.some Jvm.ClassFile.FieldType.int), "LassoDeskLaw", "letter", [(0, 9, 12, 27)], none)
def y_Lw_holds : MethodName := ⟨"LassoDeskLaw", "holds", "(LLassoDesk;I[J)I"⟩
abbrev m_Lw_holds : q_M := (method_19_code, 4, (Option.some Jvm.ClassFile.FieldType.int), "LassoDeskLaw", "holds", [(0, 16, 19, 22), (0, 16, 22, 27)], none)
def y_Lw_law : MethodName := ⟨"LassoDeskLaw", "law", "([I)Z"⟩
abbrev m_Lw_law : q_M := (code, 7, ret, "LassoDeskLaw", "law", [], none)
def y_Ar_fill : MethodName := ⟨"java/util/Arrays", "fill", "([II)V"⟩
abbrev m_Ar_fill : q_M := (prog_16_method_103_code, 4, (Option.none : Option Jvm.ClassFile.FieldType), "java/util/Arrays", "fill", [], none)
def y_D_init : MethodName := ⟨"LassoDesk", "<init>", "()V"⟩
abbrev m_D_init : q_M := (prog_1_method_1_code, 1, (Option.none : Option Jvm.ClassFile.FieldType), "LassoDesk", "<init>", [], none)
def y_Mo_init : MethodName := ⟨"LassoDeskModel", "<init>", "()V"⟩
abbrev m_Mo_init : q_M := (prog_8_method_1_code, 1, (Option.none : Option Jvm.ClassFile.FieldType), "LassoDeskModel", "<init>", [], none)
def y_Fo_init : MethodName := ⟨"LassoDesk$Formula", "<init>", "()V"⟩
abbrev m_Fo_init : q_M := (prog_2_method_1_code, 1, (Option.none : Option Jvm.ClassFile.FieldType), "LassoDesk$Formula", "<init>", [], none)
def y_Gw_init : MethodName := ⟨"LassoDesk$GivenWord", "<init>", "()V"⟩
abbrev m_Gw_init : q_M := (prog_3_method_1_code, 1, (Option.none : Option Jvm.ClassFile.FieldType), "LassoDesk$GivenWord", "<init>", [], none)
def y_La_init : MethodName := ⟨"LassoDesk$Lasting", "<init>", "()V"⟩
abbrev m_La_init : q_M := (prog_4_method_1_code, 1, (Option.none : Option Jvm.ClassFile.FieldType), "LassoDesk$Lasting", "<init>", [], none)
def y_Li_init : MethodName := ⟨"LassoDesk$Line", "<init>", "()V"⟩
abbrev m_Li_init : q_M := (prog_5_method_1_code, 1, (Option.none : Option Jvm.ClassFile.FieldType), "LassoDesk$Line", "<init>", [], none)
def y_Wa_init : MethodName := ⟨"LassoDesk$Walk", "<init>", "()V"⟩
abbrev m_Wa_init : q_M := (prog_6_method_1_code, 1, (Option.none : Option Jvm.ClassFile.FieldType), "LassoDesk$Walk", "<init>", [], none)
end
section
/-! CALLS over the abstract walk: contracts (q_Ct), the invoking instruction (q_Inv), what comes back (q_res), and its three uses: returned, thrown on, caught. -/
def q_hd (y : MethodName) (M : q_M) : Cond := match M.2.2.2.2.2.1 with
  | [] => .code y M.1 M.2.1 M.2.2.1
  | h :: t => .codeWith y M.1 M.2.1 M.2.2.1 (h :: t)
theorem q_hd_good {y : MethodName} {M : q_M} : ((q_hd y M).onTables && (q_hd y M).keeps) = true := by
  unfold q_hd
  split <;> rfl
theorem q_hd_spec {y : MethodName} {M : q_M} {args : Array Value} {s : State} (h : (q_hd y M).before args s = true) : ∃ (mk : MethodId) (meth : Method) (c : Code), s.methodNamed? y = some mk ∧ s.vm.method? mk = some meth ∧ meth.code = some c ∧ c.code = M.1 ∧ c.maxLocals = M.2.1 ∧ c.exceptionTable.toList.map (fun h => (h.startPc, h.endPc, h.handlerPc, h.catchType)) = M.2.2.2.2.2.1 ∧ meth.sig.returnType = M.2.2.1 ∧ meth.locks = false ∧ parseMethodDescriptor y.desc = some meth.sig := by
  unfold q_hd at h
  split at h
  · rename_i heq
    obtain ⟨mk, hn⟩ := Cond.code_named h
    obtain ⟨meth, c, h1, h2, h3, h4, h5, h6, h7, h8⟩ := Cond.code_spec hn h
    refine ⟨mk, meth, c, hn, h1, h2, h3, h4, ?_, h5, h6, h8⟩
    have z0 : c.exceptionTable.size = 0 := by simpa [Array.isEmpty] using h7
    have z1 : c.exceptionTable.toList = [] := List.eq_nil_of_length_eq_zero (by simpa using z0)
    rw [heq, z1]
    rfl
  · rename_i a t heq
    obtain ⟨mk, meth, c, hn, h1, h2, h3, h4, h5, h6, h7, h8⟩ := Cond.codeWith_spec h
    exact ⟨mk, meth, c, hn, h1, h2, h3, h4, by rw [heq]; exact h5, h6, h7, h8⟩
def q_Pre (E : q_E) (M : q_M) (ws : List va_E) (as : List Value) (a : Array Value) (s : State) : Prop :=
  a = (as.map (q_cv (q_g E))).toArray ∧ q_S0 E ∧ q_St E s ∧ va_P (q_DD E) q_cl (q_wz (q_g E) ws) s.heap ∧ ∀ k, M.2.2.2.2.2.2 = some k → s.heap.size = (q_g E).1 + k
/-- the contract of method y (its facts: M), in the room rm, at the world ws, for the arguments as: the result r -/
def q_Ct (E : q_E) (y : MethodName) (M : q_M) (rm : Room) (ws : List va_E) (as : List Value) (r : q_R) : Prop :=
  MetFree (q_l E) y (headSpec [q_hd y M] rm) (q_Pre E M ws as) (fun _ _ _ _ _ => True) (fun _ s o t => q_Q E r s o t)
theorem q_Ct.of {E : q_E} {y : MethodName} {M : q_M} {rm : Room} {ws : List va_E} {as : List Value} {r : q_R} {lv : List (Nat × Value)} (hy : plainName y.cls = true) (hM : M.2.2.2.1 = y.cls ∧ M.2.2.2.2.1 = y.name) (hlv : lv_args 0 (as.map (q_cv (q_g E))) = q_lv (q_g E) lv) (hnl : (lg_sl (as.map (q_cv (q_g E)))).length ≤ M.2.1) (h : AW E rm M ws 0 0 0 lv [] r) : q_Ct E y M rm ws as r := by
  refine MetFree.of_bodyS (code := M.1) (maxLocals := M.2.1) (ret := M.2.2.1) hy ?_ ?_
  · intro args s m hp hn
    obtain ⟨mk, meth, c, hn', h1, h2, h3, h4, -, h6, h7, -⟩ := q_hd_spec (atoms_spec (ws := [q_hd y M]) hp _ (List.mem_singleton.mpr rfl))
    cases hn.symm.trans hn'
    exact ⟨meth, c, h1, h2, h3, h4, h6, h7⟩
  · intro p e s m args below meth c s₁ B hml hP _
    obtain ⟨rfl, h0, ht, hPw, hn0⟩ := hP
    obtain ⟨mk, meth', c', hn', h1, h2, h3, h4, h5, h6, h7, -⟩ := q_hd_spec (atoms_spec (ws := [q_hd y M]) B.pre _ (List.mem_singleton.mpr rfl))
    cases B.named.symm.trans hn'
    cases B.method.symm.trans h1
    have X := Stand.of_body B
    cases X.code.symm.trans h2
    have hh0 : s₁.heap = s.heap := by rw [B.state]; rfl
    have hC : q_Cx E M p s m meth c := ⟨h0, ht, B.exec, B.bytes, hml, B.returns, B.notSynchronized, h5, by rw [hM.1]; exact findClass_of_methodNamed B.named, by rw [hM.2]; exact (name_of_methodNamed B.named B.method).1, hn0⟩
    have hl := lv_entry (as.map (q_cv (q_g E))) (n := M.2.1) hnl
    rw [hlv] at hl
    have hw := h p e s m (as.map (q_cv (q_g E))).toArray below meth c s.heap [] _ hC hPw va_S.rf hl
    obtain ⟨t, a1, o, b1, b2, b3⟩ := hw s₁ hh0 X
    rw [lg_entry_eq]
    exact ⟨t, o, a1, b1, b2, b3⟩
def q_Inv (E : q_E) (R : Room) (M : q_M) (ws : List va_E) (pc : Nat) (y : MethodName) (as rest : List Value) : Prop :=
  ∀ (p : Program) (e : Env) (s : State) (m : MethodId) (args : Array Value) (below : List Frame) (meth : Method) (c : Code) (T : State) (locs : List Loc) (ce sl : Nat) (ls : Array Slot), q_Cx E M p s m meth c → Stand p (q_l E) e R s m args below meth c T locs ce sl → va_P (q_DD E) q_cl (q_wz (q_g E) ws) T.heap →
    ∃ (vm₁ : Vm) (mk : MethodId), s.methodNamed? y = some mk ∧ Stand p (q_l E) e R s m args below meth c (T.setVm vm₁) locs ce sl ∧ ∀ target, (∀ acts, Steps p.tables e below (doInvoke e ((T.setVm vm₁).setTop (F0 m pc ls (rest.map (q_cv (q_g E))))) acts mk (as.map (q_cv (q_g E))).toArray).1 target) → Steps p.tables e below (T.setTop (F0 m pc ls ((as.reverse ++ rest).map (q_cv (q_g E))))) target
section QI
variable {E : q_E} {R : Room} {M Y : q_M} {ws : List va_E} {pc : Nat} {y : MethodName} {as rest : List Value} {idx : Nat}
theorem q_invS (hd : decode M.1 pc = .ok (.invokestatic idx, 3)) (hl : Cond.methodLink M.2.2.2.1 idx y ∈ lw_tbl) (hs : Cond.static y ∈ lw_tbl) (hi : Cond.initialized y.cls ∈ lw_tbl) (hc : q_hd y Y ∈ lw_tbl) (hy : y.cls ≠ "java/lang/invoke/MethodHandle" ∧ y.cls ≠ "java/lang/invoke/VarHandle") (hlen : (parseMethodDescriptor y.desc).map (fun d => d.parameters.length) = some as.length) : q_Inv E R M ws pc y as rest := by
  intro p e s m args below meth c T locs ce sl ls hC X hP
  obtain ⟨h0, ht, hx, hb, hml, hr, hlk, hh, hown, hnm, hn0⟩ := id hC
  obtain ⟨mk, methM, cM, hnamed, hmethM, -, -, -, -, -, -, hsigM⟩ := q_hd_spec (q_w (args := args) h0 ht hc q_hd_good)
  have hstatic : methM.isStatic = true := Cond.static_spec hnamed hmethM (q_w (args := args) h0 ht hs rfl)
  obtain ⟨kP, hkP, -⟩ := className_of_methodNamed hnamed
  have hinitP : kP.init = .initialized := Cond.initialized_spec (findClass_of_methodNamed hnamed) hkP (q_w (args := args) h0 ht hi rfl)
  have hl2 : as.length = methM.sig.parameters.length := by rw [hsigM] at hlen; exact (Option.some.inj hlen).symm
  obtain ⟨vm₁, X₁, hstep₁⟩ := X.invokestatic hx hown (q_w h0 ht hl rfl) hnamed hmethM hstatic hkP hinitP hy (g := F0 m pc ls ((as.reverse ++ rest).map (q_cv (q_g E)))) rfl (argsL := as.map (q_cv (q_g E))) (rest := rest.map (q_cv (q_g E))) (by rw [List.length_map]; exact hl2) (by show (as.reverse ++ rest).map _ = _; rw [List.map_append, List.map_reverse]) (by rw [hb]; exact hd)
  exact ⟨vm₁, mk, hnamed, X₁, hstep₁⟩
theorem q_invSN {host : String} (hd : decode M.1 pc = .ok (.invokestatic idx, 3)) (hl : Cond.methodLinkNest M.2.2.2.1 idx y host ∈ lw_tbl) (hs : Cond.static y ∈ lw_tbl) (hi : Cond.initialized y.cls ∈ lw_tbl) (hc : q_hd y Y ∈ lw_tbl) (hy : y.cls ≠ "java/lang/invoke/MethodHandle" ∧ y.cls ≠ "java/lang/invoke/VarHandle") (hlen : (parseMethodDescriptor y.desc).map (fun d => d.parameters.length) = some as.length) : q_Inv E R M ws pc y as rest := by
  intro p e s m args below meth c T locs ce sl ls hC X hP
  obtain ⟨h0, ht, hx, hb, hml, hr, hlk, hh, hown, hnm, hn0⟩ := id hC
  obtain ⟨mk, methM, cM, hnamed, hmethM, -, -, -, -, -, -, hsigM⟩ := q_hd_spec (q_w (args := args) h0 ht hc q_hd_good)
  have hstatic : methM.isStatic = true := Cond.static_spec hnamed hmethM (q_w (args := args) h0 ht hs rfl)
  obtain ⟨kP, hkP, -⟩ := className_of_methodNamed hnamed
  have hinitP : kP.init = .initialized := Cond.initialized_spec (findClass_of_methodNamed hnamed) hkP (q_w (args := args) h0 ht hi rfl)
  have hl2 : as.length = methM.sig.parameters.length := by rw [hsigM] at hlen; exact (Option.some.inj hlen).symm
  obtain ⟨vm₁, X₁, hstep₁⟩ := X.invokestaticNest hx hown (q_wM (args := args) h0 ht hl) hnamed hmethM hstatic hkP hinitP hy (g := F0 m pc ls ((as.reverse ++ rest).map (q_cv (q_g E)))) rfl (argsL := as.map (q_cv (q_g E))) (rest := rest.map (q_cv (q_g E))) (by rw [List.length_map]; exact hl2) (by show (as.reverse ++ rest).map _ = _; rw [List.map_append, List.map_reverse]) (by rw [hb]; exact hd)
  exact ⟨vm₁, mk, hnamed, X₁, hstep₁⟩
theorem q_invV {q0 ci N : Nat} {fs : List Value} {T0 : u_T} (hd : decode M.1 pc = .ok (.invokevirtual idx, 3)) (hl : Cond.methodLink M.2.2.2.1 idx y ∈ lw_tbl) (hs : Cond.instanceMethod y ∈ lw_tbl) (hse : Cond.selects y.cls y y ∈ lw_tbl) (hc : q_hd y Y ∈ lw_tbl) (hy : y.cls ≠ "java/lang/invoke/MethodHandle" ∧ y.cls ≠ "java/lang/invoke/VarHandle") (hlen : (parseMethodDescriptor y.desc).map (fun d => d.parameters.length) = some as.length) (hq : q0 < 900) (he : ws[q0]? = some (.inr (ci, fs))) (hcl : q_cl[ci]? = some (y.cls, T0, N)) : q_Inv E R M ws pc y (.ref q0 :: as) rest := by
  intro p e s m args below meth c T locs ce sl ls hC X hP
  obtain ⟨h0, ht, hx, hb, hml, hr, hlk, hh, hown, hnm, hn0⟩ := id hC
  obtain ⟨mk, methM, cM, hnamed, hmethM, -, -, -, -, -, -, hsigM⟩ := q_hd_spec (q_w (args := args) h0 ht hc q_hd_good)
  obtain ⟨mk', methM', hnamed', hmethM', hstM, habM⟩ := Cond.instanceMethod_spec (q_w (args := args) h0 ht hs rfl)
  cases hnamed.symm.trans hnamed'
  cases hmethM.symm.trans hmethM'
  obtain ⟨cellB, hcell, hobj, hcls⟩ := va_recv (ht.K h0) hP hcl (q_wz_at he)
  obtain ⟨c2, r2, m2, q1, q2, q3, q4, kP, hkP, hkPi⟩ := Cond.selects_spec (q_w (args := args) h0 ht hse rfl)
  cases hcls.symm.trans q1
  cases (State.methodFound?_of_named hnamed hy).symm.trans q2
  cases hnamed.symm.trans q3
  have hselP : selectMethod e.platform s.vm cellB.cls mk = .method mk := by rw [Launch.admits_selectMethod X.admits]; exact q4
  have hl2 : as.length = methM.sig.parameters.length := by rw [hsigM] at hlen; exact (Option.some.inj hlen).symm
  have est : ((.ref q0 :: as).reverse ++ rest).map (q_cv (q_g E)) = (as.map (q_cv (q_g E))).reverse ++ .ref ((q_g E).1 + q0) :: rest.map (q_cv (q_g E)) := by
    simp [q_ref hq]
  have eas : (.ref q0 :: as).map (q_cv (q_g E)) = .ref ((q_g E).1 + q0) :: as.map (q_cv (q_g E)) := by
    simp [q_ref hq]
  obtain ⟨vm₁, X₁, hstep₁⟩ := X.invokevirtual hx hown (q_w h0 ht hl rfl) hnamed hmethM hstM hkP hkPi hy (a := (q_g E).1 + q0) (cell := cellB) hcell
    (fun z h => by rw [h] at hobj; cases hobj) hselP hmethM habM hkP hkPi (g := F0 m pc ls ((as.map (q_cv (q_g E))).reverse ++ .ref ((q_g E).1 + q0) :: rest.map (q_cv (q_g E)))) rfl (argsL := as.map (q_cv (q_g E))) (rest := rest.map (q_cv (q_g E))) (by rw [List.length_map]; exact hl2) rfl (by rw [hb]; exact hd)
  refine ⟨vm₁, mk, hnamed, X₁, fun target h => ?_⟩
  rw [est]
  rw [eas] at h
  exact hstep₁ target h
theorem q_invVN {q0 ci N : Nat} {fs : List Value} {T0 : u_T} {host : String} (hd : decode M.1 pc = .ok (.invokevirtual idx, 3)) (hl : Cond.methodLinkNest M.2.2.2.1 idx y host ∈ lw_tbl) (hs : Cond.instanceMethod y ∈ lw_tbl) (hse : Cond.selects y.cls y y ∈ lw_tbl) (hc : q_hd y Y ∈ lw_tbl) (hy : y.cls ≠ "java/lang/invoke/MethodHandle" ∧ y.cls ≠ "java/lang/invoke/VarHandle") (hlen : (parseMethodDescriptor y.desc).map (fun d => d.parameters.length) = some as.length) (hq : q0 < 900) (he : ws[q0]? = some (.inr (ci, fs))) (hcl : q_cl[ci]? = some (y.cls, T0, N)) : q_Inv E R M ws pc y (.ref q0 :: as) rest := by
  intro p e s m args below meth c T locs ce sl ls hC X hP
  obtain ⟨h0, ht, hx, hb, hml, hr, hlk, hh, hown, hnm, hn0⟩ := id hC
  obtain ⟨mk, methM, cM, hnamed, hmethM, -, -, -, -, -, -, hsigM⟩ := q_hd_spec (q_w (args := args) h0 ht hc q_hd_good)
  obtain ⟨mk', methM', hnamed', hmethM', hstM, habM⟩ := Cond.instanceMethod_spec (q_w (args := args) h0 ht hs rfl)
  cases hnamed.symm.trans hnamed'
  cases hmethM.symm.trans hmethM'
  obtain ⟨cellB, hcell, hobj, hcls⟩ := va_recv (ht.K h0) hP hcl (q_wz_at he)
  obtain ⟨c2, r2, m2, q1, q2, q3, q4, kP, hkP, hkPi⟩ := Cond.selects_spec (q_w (args := args) h0 ht hse rfl)
  cases hcls.symm.trans q1
  cases (State.methodFound?_of_named hnamed hy).symm.trans q2
  cases hnamed.symm.trans q3
  have hselP : selectMethod e.platform s.vm cellB.cls mk = .method mk := by rw [Launch.admits_selectMethod X.admits]; exact q4
  have hl2 : as.length = methM.sig.parameters.length := by rw [hsigM] at hlen; exact (Option.some.inj hlen).symm
  have est : ((.ref q0 :: as).reverse ++ rest).map (q_cv (q_g E)) = (as.map (q_cv (q_g E))).reverse ++ .ref ((q_g E).1 + q0) :: rest.map (q_cv (q_g E)) := by
    simp [q_ref hq]
  have eas : (.ref q0 :: as).map (q_cv (q_g E)) = .ref ((q_g E).1 + q0) :: as.map (q_cv (q_g E)) := by
    simp [q_ref hq]
  obtain ⟨vm₁, X₁, hstep₁⟩ := X.invokevirtualNest hx hown (q_wM (args := args) h0 ht hl) hnamed hmethM hstM hkP hkPi hy (a := (q_g E).1 + q0) (cell := cellB) hcell
    (fun z h => by rw [h] at hobj; cases hobj) hselP hmethM habM hkP hkPi (g := F0 m pc ls ((as.map (q_cv (q_g E))).reverse ++ .ref ((q_g E).1 + q0) :: rest.map (q_cv (q_g E)))) rfl (argsL := as.map (q_cv (q_g E))) (rest := rest.map (q_cv (q_g E))) (by rw [List.length_map]; exact hl2) rfl (by rw [hb]; exact hd)
  refine ⟨vm₁, mk, hnamed, X₁, fun target h => ?_⟩
  rw [est]
  rw [eas] at h
  exact hstep₁ target h
theorem q_invI {q0 mL : Nat} {bytes : ByteArray} (hd : decode M.1 pc = .ok (.invokespecial idx, 3)) (hl : Cond.methodLink M.2.2.2.1 idx y ∈ lw_tbl) (hs : Cond.instanceMethod y ∈ lw_tbl) (hc : Cond.code y bytes mL none ∈ lw_tbl) (hyi : y.name = "<init>") (hy : y.cls ≠ "java/lang/invoke/MethodHandle" ∧ y.cls ≠ "java/lang/invoke/VarHandle") (hlen : (parseMethodDescriptor y.desc).map (fun d => d.parameters.length) = some as.length) (hq : q0 < 900) : q_Inv E R M ws pc y (.ref q0 :: as) rest := by
  intro p e s m args below meth c T locs ce sl ls hC X hP
  obtain ⟨h0, ht, hx, hb, hml, hr, hlk, hh, hown, hnm, hn0⟩ := id hC
  have hpl : e.platform.magicAccessors = ({} : Platform).magicAccessors := by rw [X.admits.platform]
  have est : ((.ref q0 :: as).reverse ++ rest).map (q_cv (q_g E)) = (as.map (q_cv (q_g E))).reverse ++ .ref ((q_g E).1 + q0) :: rest.map (q_cv (q_g E)) := by
    simp [q_ref hq]
  have eas : (.ref q0 :: as).map (q_cv (q_g E)) = .ref ((q_g E).1 + q0) :: as.map (q_cv (q_g E)) := by
    simp [q_ref hq]
  obtain ⟨mk, methM, cM, kP, vm₁, hnamed, -, -, -, -, -, -, -, hW₁, hstep₁⟩ := Steps.initColdArgs (e := e) X.here hx X.warmed hpl hown hyi hy (q_w (args := args) h0 ht hl rfl) (q_w (args := args) h0 ht hs rfl) (q_w (args := args) h0 ht hc rfl)
    (f := F0 m pc ls ((as.map (q_cv (q_g E))).reverse ++ .ref ((q_g E).1 + q0) :: rest.map (q_cv (q_g E)))) rfl (a := (q_g E).1 + q0) (argsL := as.map (q_cv (q_g E))) (rest := rest.map (q_cv (q_g E))) (fun sig h => by rw [h] at hlen; rw [List.length_map]; exact (Option.some.inj hlen).symm) rfl (by rw [hb]; exact hd)
  refine ⟨vm₁, mk, hnamed, X.noted hW₁, fun target h => ?_⟩
  rw [est]
  rw [eas] at h
  exact hstep₁ target h
end QI
def q_resume (U : State) (g : JFrame) (o : Outcome) : State := match o with
  | .returned v => U.setTop { g with pc := g.pc + 3, stack := v.toList ++ g.stack }
  | .threw a => (U.setTop g).pushFrame (.throwing a)
set_option maxHeartbeats 4000000 in
theorem q_res {E : q_E} {R : Room} {M Y : q_M} {ws : List va_E} {pc ce sl : Nat} {y : MethodName} {as rest : List Value} {rm : Room} {r0 : q_R} (hM : q_Ct E y Y rm ws as r0) (hI : q_Inv E R M ws pc y as rest) (hcd : q_hd y Y ∈ lw_tbl) (hini : Cond.initialized y.cls ∈ lw_tbl)
    (hfr : rm.frames + 1 ≤ R.frames) (hlo : 8 + (Y.2.1 + 11) + rm.locals ≤ R.locals) (hce : ce + rm.cells ≤ R.cells) (hsl : sl + rm.slots ≤ R.slots) (hst : (rest.map fun v => v.category).sum ≤ 8) {ig : Instr} (hd : decode M.1 pc = .ok (ig, 3))
    (hy0 : Y.2.2.2.2.2.2 = none ∨ ∃ k0, M.2.2.2.2.2.2 = some k0 ∧ k0 + ce = ws.length ∧ Y.2.2.2.2.2.2 = some ws.length)
    {p : Program} {e : Env} {s : State} {m : MethodId} {args : Array Value} {below : List Frame} {meth : Method} {c : Code} {T : State} {locs : List Loc} {ls : Array Slot} (hC : q_Cx E M p s m meth c) (X : Stand p (q_l E) e R s m args below meth c T locs ce sl) (hP : va_P (q_DD E) q_cl (q_wz (q_g E) ws) T.heap) (hS : va_S (q_A (q_g E)) s.heap T.heap locs) (hls : ls.size = M.2.1) :
    ∃ (o : Outcome) (B : State) (Lc : List Loc), Stand p (q_l E) e R s m args below meth c B (locs ++ Lc) (ce + r0.2.2.1) (sl + r0.2.2.2) ∧ q_Out E r0.1 o s B ∧ va_P (q_DD E) q_cl (q_wz (q_g E) r0.2.1) B.heap ∧ va_S (q_A (q_g E)) s.heap B.heap (locs ++ Lc) ∧
      ∀ target, Steps p.tables e below (q_resume B (F0 m pc ls (rest.map (q_cv (q_g E)))) o) target → Steps p.tables e below (T.setTop (F0 m pc ls ((as.reverse ++ rest).map (q_cv (q_g E))))) target := by
  obtain ⟨h0, ht, hx, hb, hml, hr, hlk, hh, hown, hnm, hn0⟩ := id hC
  obtain ⟨vm₁, mk, hnamed, X₁, hstep⟩ := hI p e s m args below meth c T locs ce sl ls hC X hP
  have htU : q_St E (T.setVm vm₁) := ht.to hS rfl X₁.warmed
  obtain ⟨mk', methY, cY, hnY, hmY, hcY, -, hlY, -, -, -, -⟩ := q_hd_spec (q_w (args := (as.map (q_cv (q_g E))).toArray) h0 htU hcd q_hd_good)
  have hnU : (T.setVm vm₁).methodNamed? y = some mk := X₁.named hnamed
  cases hnU.symm.trans hnY
  obtain ⟨kY, hkY, -⟩ := className_of_methodNamed hnU
  have hinitY : kY.init = .initialized := Cond.initialized_spec (findClass_of_methodNamed hnU) hkY (q_w (args := #[]) h0 htU hini rfl)
  have hsz : T.heap.size ≤ s.heap.size + ce := X.heapSize
  have hPre : q_Pre E Y ws as (as.map (q_cv (q_g E))).toArray ((T.setVm vm₁).calling (F0 m pc ls (rest.map (q_cv (q_g E)))) mk (as.map (q_cv (q_g E))).toArray) := by
    refine ⟨rfl, h0, htU, hP, fun k hk => ?_⟩
    rcases hy0 with hy0 | ⟨k0, hk0, hce0, hyk⟩
    · rw [hy0] at hk; cases hk
    · rw [hyk] at hk
      cases hk
      exact q_exact ht hP hS (hn0 _ hk0) hce0 hsz
  have hw0 : ((rest.map (q_cv (q_g E))).map fun v => v.category).sum ≤ 8 := by
    rw [List.map_map]
    have e0 : ((fun v : Value => v.category) ∘ q_cv (q_g E)) = fun v => v.category := by
      funext v
      exact q_cv_cat _ v
    rw [e0]
    exact hst
  generalize hg : F0 m pc ls (rest.map (q_cv (q_g E))) = g at *
  have hgm : g.method = m := by rw [← hg]
  have hgs : g.locals.size = c.maxLocals := by rw [← hg, hml]; exact hls
  have hgd : decode c.code g.pc = .ok (ig, 3) := by rw [← hg, hb]; exact hd
  have hgw : 2 * g.monitorRoom + (g.stack.map fun v => v.category).sum ≤ 8 := by
    rw [← hg]
    show 2 * 0 + _ ≤ 8
    simpa using hw0
  generalize ha : (as.map (q_cv (q_g E))).toArray = a at *
  have h : At (T.setVm vm₁) g.method c below := by rw [hgm]; exact X₁.here
  have happ : (headSpec [q_hd y Y] rm).appliesLoose y e.platform ((T.setVm vm₁).calling g mk a) = true :=
    Spec.appliesLoose_calling (g := g) h hgd hnU hkY hinitY
      (X₁.room_calling (g := g) (R' := rm) hgs hmY hcY hfr (by rw [hlY]; omega) hce hsl) (atoms_intro (ws := [q_hd y Y]) (fun w hw => by
        rw [List.mem_singleton.mp hw]
        exact q_w h0 htU hcd q_hd_good))
  obtain ⟨mid, hmid⟩ := h.above
  have hfr0 : ((T.setVm vm₁).setTop g).frames = (.java g :: mid) ++ below := by rw [State.frames_setTop' g h.top, hmid]; rfl
  obtain ⟨o, s₂, hsteps, -, hend, hq⟩ := Steps.callFree hM p X.admits X.cas X.clock (acts := []) hfr0 happ hPre trivial
  have hq' : q_Q E r0 ((T.setVm vm₁).calling g mk a) o s₂ := hq
  rw [State.frames_setTop' g h.top] at hend
  obtain ⟨hout, hP2, hF2, hW₂, L, hsame0, hL⟩ := hq'
  obtain ⟨e2, q2, q3, q4, q5, q6⟩ := hsame0
  have e3 : s₂ = ({ ((T.setVm vm₁).calling g mk a).setFrames s₂.frames with heap := s₂.heap, slotsUsed := s₂.slotsUsed } : State).setVm s₂.vm := by
    have : s₂ = ({ s₂ with vm := ((T.setVm vm₁).calling g mk a).vm } : State).setVm s₂.vm := rfl
    rw [e2] at this
    exact this
  have hW' : (T.setVm vm₁).WarmedH s₂.vm := hW₂
  generalize hU : T.setVm vm₁ = U at *
  obtain ⟨g₀, hg0⟩ := Option.isSome_iff_exists.mp h.top
  obtain ⟨r, hr0⟩ := State.topJava?_eq_some.mp hg0
  have hr' : (({ U with heap := s₂.heap, slotsUsed := s₂.slotsUsed } : State).setVm s₂.vm).frames = .java g₀ :: r := hr0
  have hsame : U.sameButNew ({ U with heap := s₂.heap, slotsUsed := s₂.slotsUsed } : State) L r0.2.2.1 r0.2.2.2 := by
    refine ⟨?_, q2, q3, q4, q5, q6⟩
    obtain ⟨t, ht', -⟩ := State.frames_cons hr0
    show ({ U with heap := s₂.heap, slotsUsed := s₂.slotsUsed } : State) = { U.setFrames U.frames with heap := s₂.heap, slotsUsed := s₂.slotsUsed }
    rw [State.setFrames_self ht']
  have hUh : U.heap = T.heap := by rw [← hU]; rfl
  have hFU : va_F (q_A (q_g E)) U s₂ := hF2
  have hres : s₂ = q_resume (({ U with heap := s₂.heap, slotsUsed := s₂.slotsUsed } : State).setVm s₂.vm) g o := by
    cases o with
    | returned v =>
      obtain ⟨c₂, i₂, len₂, hc₂, hd₂, hf₂⟩ := hend
      have hcc : c₂ = c := by
        have h1 : s₂.code? g.method = U.code? g.method := by
          rw [State.code?_eq, State.code?_eq, hW'.alike.method?]
        exact Option.some.inj (hc₂.symm.trans (h1.trans h.code))
      subst hcc
      have hlen : len₂ = 3 := by rw [hgd] at hd₂; cases hd₂; rfl
      subst hlen
      refine e3.trans ?_
      show _ = (({ U with heap := s₂.heap, slotsUsed := s₂.slotsUsed } : State).setVm s₂.vm).setTop { g with pc := g.pc + 3, stack := v.toList ++ g.stack }
      rw [hf₂, State.calling_eq h.top, State.setFrames_setFrames, State.setTop_of_frames _ hr', hr0]
      rfl
    | threw v =>
      have hf₂ : s₂.frames = .throwing v :: .java g :: U.frames.tail := hend
      refine e3.trans ?_
      show _ = ((({ U with heap := s₂.heap, slotsUsed := s₂.slotsUsed } : State).setVm s₂.vm).setTop g).pushFrame (.throwing v)
      rw [hf₂, State.calling_eq h.top, State.setFrames_setFrames, State.pushFrame, State.frames_setTop _ hr', State.setTop_of_frames _ hr', State.setFrames_setFrames, hr0]
      rfl
  subst hgm
  refine ⟨o, ({ U with heap := s₂.heap, slotsUsed := s₂.slotsUsed } : State).setVm s₂.vm, L,
    ⟨X.admits, X.cas, X.clock, X.frames, X.room, X.hears, X.method, X.code, (X₁.here.setHeapUsed s₂.heap s₂.slotsUsed).setVm hW'.alike, X₁.tail, State.WarmedH.trans X₁.warmed hW', X₁.limits, X₁.bytes, X₁.same.trans (hsame.setVm s.vm)⟩, ?_, hP2, ?_, fun target hT => hstep target (fun acts => ?_)⟩
  · cases hx0 : r0.1 with
    | inl v => rw [hx0] at hout; exact hout
    | inr k =>
      rw [hx0] at hout
      obtain ⟨a', cell, g1, g3, g4, g5, g6⟩ := hout
      refine ⟨a', cell, g1, g3, g4, ?_, ?_⟩
      · have : U.vm.findClass (q_ex k) = some cell.cls := g5
        rwa [X₁.warmed.alike.findClass] at this
      · have : U.vm.assignable cell.cls cell.cls = true := g6
        rwa [X₁.warmed.alike.assignable] at this
  · refine ⟨Nat.le_trans hS.1 (by rw [← hUh]; exact hFU.1), fun q h1 h2 => ?_, fun l hl => ?_⟩
    · have h3 : q < U.heap.size := by rw [hUh]; exact Nat.lt_of_lt_of_le h1 hS.1
      exact (hFU.2 q h3 h2).trans (by rw [hUh]; exact hS.2.1 q h1 h2)
    · rcases List.mem_append.mp hl with h1 | h1
      · exact hS.2.2 l h1
      · exact hL l h1
  · rw [doInvoke_state]
    rw [← hres] at hT
    exact hsteps.trans hT
section QK
variable {E : q_E} {R : Room} {M Y : q_M} {ws ws' : List va_E} {pc ce sl mc ms : Nat} {y : MethodName} {as rest : List Value} {rm : Room} {r : q_R} {lv : List (Nat × Value)} {ig : Instr}
theorem q_call {v : Option Value} (n : Nat) (hM : q_Ct E y Y rm ws as (.inl v, ws', mc, ms)) (hI : q_Inv E R M ws pc y as rest) (hk : q_hd y Y ∈ lw_tbl ∧ Cond.initialized y.cls ∈ lw_tbl) (hro : rm.frames + 1 ≤ R.frames ∧ 8 + (Y.2.1 + 11) + rm.locals ≤ R.locals ∧ ce + rm.cells ≤ R.cells ∧ sl + rm.slots ≤ R.slots) (hst : (rest.map fun v => v.category).sum ≤ 8) (hd : decode M.1 pc = .ok (ig, 3)) (hn : pc + 3 = n)
    (hy0 : Y.2.2.2.2.2.2 = none ∨ ∃ k0, M.2.2.2.2.2.2 = some k0 ∧ k0 + ce = ws.length ∧ Y.2.2.2.2.2.2 = some ws.length)
    (k : AW E R M ws' (ce + mc) (sl + ms) n lv (v.toList ++ rest) r) : AW E R M ws ce sl pc lv (as.reverse ++ rest) r := by
  subst hn
  intro p e s m args below meth c H locs ls hC hP hS hl T hT X
  subst hT
  obtain ⟨o, B, Lc, XB, ho, hPB, hSB, hgo⟩ := q_res hM hI hk.1 hk.2 hro.1 hro.2.1 hro.2.2.1 hro.2.2.2 hst hd hy0 hC X hP hS hl.1
  have ho' : o = .returned (v.map (q_cv (q_g E))) := ho
  subst ho'
  obtain ⟨t, a1, b1⟩ := k p e s m args below meth c B.heap (locs ++ Lc) ls hC hPB hSB hl B rfl XB
  refine ⟨t, hgo t ?_, b1⟩
  have e1 : q_resume B (F0 m pc ls (rest.map (q_cv (q_g E)))) (.returned (v.map (q_cv (q_g E)))) = B.setTop (F0 m (pc + 3) ls ((v.toList ++ rest).map (q_cv (q_g E)))) := by cases v <;> rfl
  rw [e1]
  exact a1
theorem q_callT {kx mc' ms' : Nat} (hM : q_Ct E y Y rm ws as (.inr kx, ws', mc, ms)) (hI : q_Inv E R M ws pc y as rest) (hk : q_hd y Y ∈ lw_tbl ∧ Cond.initialized y.cls ∈ lw_tbl) (hro : rm.frames + 1 ≤ R.frames ∧ 8 + (Y.2.1 + 11) + rm.locals ≤ R.locals ∧ ce + rm.cells ≤ R.cells ∧ sl + rm.slots ≤ R.slots) (hst : (rest.map fun v => v.category).sum ≤ 8) (hd : decode M.1 pc = .ok (ig, 3))
    (hy0 : Y.2.2.2.2.2.2 = none ∨ ∃ k0, M.2.2.2.2.2.2 = some k0 ∧ k0 + ce = ws.length ∧ Y.2.2.2.2.2.2 = some ws.length)
    (hno : ∀ h ∈ M.2.2.2.2.2.1, (decide (h.1 ≤ pc) && decide (pc < h.2.1)) = false) (hmc : ce + mc ≤ mc') (hms : sl + ms ≤ ms') : AW E R M ws ce sl pc lv (as.reverse ++ rest) (.inr kx, ws', mc', ms') := by
  intro p e s m args below meth c H locs ls hC hP hS hl T hT X
  subst hT
  obtain ⟨h0, ht, hx, hb, hml, hr, hlk, hh, hown, hnm, hn0⟩ := id hC
  obtain ⟨o, B, Lc, XB, ho, hPB, hSB, hgo⟩ := q_res hM hI hk.1 hk.2 hro.1 hro.2.1 hro.2.2.1 hro.2.2.2 hst hd hy0 hC X hP hS hl.1
  obtain ⟨a, cell, rfl, g3, g4, g5, g6⟩ := ho
  have hout : ∀ x ∈ c.exceptionTable.toList, covers x pc = false := fun x hx0 => hno _ (by rw [← hh]; exact List.mem_map.mpr ⟨x, hx0, rfl⟩)
  obtain ⟨hw, hrun, hend, hWm, hsm⟩ := XB.leaveThrown a (g := F0 m pc ls (rest.map (q_cv (q_g E)))) rfl rfl rfl hout (hlocks := hlk)
  exact ⟨_, hgo _ hw, _, hrun, hend, ⟨a, cell, rfl, g3, g4, g5, g6⟩, hPB, hSB.F rfl, hWm, locs ++ Lc, hsm.mono hmc hms, hSB.2.2⟩
end QK
end
section
theorem k_D_type : q_hd y_D_type m_D_type ∈ lw_tbl ∧ Cond.initialized y_D_type.cls ∈ lw_tbl := ⟨q_tb 183 (by decide +kernel), q_tb 1 (by decide +kernel)⟩
theorem ms_D_type : Cond.instanceMethod y_D_type ∈ lw_tbl ∧ Cond.selects y_D_type.cls y_D_type y_D_type ∈ lw_tbl := ⟨q_tb 181 (by decide +kernel), q_tb 182 (by decide +kernel)⟩
theorem k_D_formula : q_hd y_D_formula m_D_formula ∈ lw_tbl ∧ Cond.initialized y_D_formula.cls ∈ lw_tbl := ⟨q_tb 271 (by decide +kernel), q_tb 1 (by decide +kernel)⟩
theorem ms_D_formula : Cond.instanceMethod y_D_formula ∈ lw_tbl ∧ Cond.selects y_D_formula.cls y_D_formula y_D_formula ∈ lw_tbl := ⟨q_tb 269 (by decide +kernel), q_tb 270 (by decide +kernel)⟩
theorem k_D_states : q_hd y_D_states m_D_states ∈ lw_tbl ∧ Cond.initialized y_D_states.cls ∈ lw_tbl := ⟨q_tb 331 (by decide +kernel), q_tb 1 (by decide +kernel)⟩
theorem ms_D_states : Cond.instanceMethod y_D_states ∈ lw_tbl ∧ Cond.selects y_D_states.cls y_D_states y_D_states ∈ lw_tbl := ⟨q_tb 329 (by decide +kernel), q_tb 330 (by decide +kernel)⟩
theorem k_D_isAt : q_hd y_D_isAt m_D_isAt ∈ lw_tbl ∧ Cond.initialized y_D_isAt.cls ∈ lw_tbl := ⟨q_tb 363 (by decide +kernel), q_tb 1 (by decide +kernel)⟩
theorem ms_D_isAt : Cond.instanceMethod y_D_isAt ∈ lw_tbl ∧ Cond.selects y_D_isAt.cls y_D_isAt y_D_isAt ∈ lw_tbl := ⟨q_tb 361 (by decide +kernel), q_tb 362 (by decide +kernel)⟩
theorem k_D_leads : q_hd y_D_leads m_D_leads ∈ lw_tbl ∧ Cond.initialized y_D_leads.cls ∈ lw_tbl := ⟨q_tb 405 (by decide +kernel), q_tb 1 (by decide +kernel)⟩
theorem ms_D_leads : Cond.instanceMethod y_D_leads ∈ lw_tbl ∧ Cond.selects y_D_leads.cls y_D_leads y_D_leads ∈ lw_tbl := ⟨q_tb 403 (by decide +kernel), q_tb 404 (by decide +kernel)⟩
theorem k_D_lasts : q_hd y_D_lasts m_D_lasts ∈ lw_tbl ∧ Cond.initialized y_D_lasts.cls ∈ lw_tbl := ⟨q_tb 416 (by decide +kernel), q_tb 1 (by decide +kernel)⟩
theorem ms_D_lasts : Cond.instanceMethod y_D_lasts ∈ lw_tbl ∧ Cond.selects y_D_lasts.cls y_D_lasts y_D_lasts ∈ lw_tbl := ⟨q_tb 414 (by decide +kernel), q_tb 415 (by decide +kernel)⟩
theorem k_D_lasting : q_hd y_D_lasting m_D_lasting ∈ lw_tbl ∧ Cond.initialized y_D_lasting.cls ∈ lw_tbl := ⟨q_tb 507 (by decide +kernel), q_tb 1 (by decide +kernel)⟩
theorem ms_D_lasting : Cond.instanceMethod y_D_lasting ∈ lw_tbl ∧ Cond.selects y_D_lasting.cls y_D_lasting y_D_lasting ∈ lw_tbl := ⟨q_tb 505 (by decide +kernel), q_tb 506 (by decide +kernel)⟩
theorem k_D_promises : q_hd y_D_promises m_D_promises ∈ lw_tbl ∧ Cond.initialized y_D_promises.cls ∈ lw_tbl := ⟨q_tb 518 (by decide +kernel), q_tb 1 (by decide +kernel)⟩
theorem ms_D_promises : Cond.instanceMethod y_D_promises ∈ lw_tbl ∧ Cond.selects y_D_promises.cls y_D_promises y_D_promises ∈ lw_tbl := ⟨q_tb 516 (by decide +kernel), q_tb 517 (by decide +kernel)⟩
theorem k_D_can : q_hd y_D_can m_D_can ∈ lw_tbl ∧ Cond.initialized y_D_can.cls ∈ lw_tbl := ⟨q_tb 526 (by decide +kernel), q_tb 1 (by decide +kernel)⟩
theorem ms_D_can : Cond.instanceMethod y_D_can ∈ lw_tbl ∧ Cond.selects y_D_can.cls y_D_can y_D_can ∈ lw_tbl := ⟨q_tb 524 (by decide +kernel), q_tb 525 (by decide +kernel)⟩
theorem k_D_stem : q_hd y_D_stem m_D_stem ∈ lw_tbl ∧ Cond.initialized y_D_stem.cls ∈ lw_tbl := ⟨q_tb 537 (by decide +kernel), q_tb 1 (by decide +kernel)⟩
theorem ms_D_stem : Cond.instanceMethod y_D_stem ∈ lw_tbl ∧ Cond.selects y_D_stem.cls y_D_stem y_D_stem ∈ lw_tbl := ⟨q_tb 535 (by decide +kernel), q_tb 536 (by decide +kernel)⟩
theorem k_D_loop : q_hd y_D_loop m_D_loop ∈ lw_tbl ∧ Cond.initialized y_D_loop.cls ∈ lw_tbl := ⟨q_tb 548 (by decide +kernel), q_tb 1 (by decide +kernel)⟩
theorem ms_D_loop : Cond.instanceMethod y_D_loop ∈ lw_tbl ∧ Cond.selects y_D_loop.cls y_D_loop y_D_loop ∈ lw_tbl := ⟨q_tb 546 (by decide +kernel), q_tb 547 (by decide +kernel)⟩
theorem k_D_step : q_hd y_D_step m_D_step ∈ lw_tbl ∧ Cond.initialized y_D_step.cls ∈ lw_tbl := ⟨q_tb 559 (by decide +kernel), q_tb 1 (by decide +kernel)⟩
theorem ms_D_step : Cond.instanceMethod y_D_step ∈ lw_tbl ∧ Cond.selects y_D_step.cls y_D_step y_D_step ∈ lw_tbl := ⟨q_tb 557 (by decide +kernel), q_tb 558 (by decide +kernel)⟩
theorem k_D_shape : q_hd y_D_shape m_D_shape ∈ lw_tbl ∧ Cond.initialized y_D_shape.cls ∈ lw_tbl := ⟨q_tb 577 (by decide +kernel), q_tb 1 (by decide +kernel)⟩
theorem ms_D_shape : Cond.instanceMethod y_D_shape ∈ lw_tbl ∧ Cond.selects y_D_shape.cls y_D_shape y_D_shape ∈ lw_tbl := ⟨q_tb 575 (by decide +kernel), q_tb 576 (by decide +kernel)⟩
theorem k_D_set : q_hd y_D_set m_D_set ∈ lw_tbl ∧ Cond.initialized y_D_set.cls ∈ lw_tbl := ⟨q_tb 596 (by decide +kernel), q_tb 1 (by decide +kernel)⟩
theorem ms_D_set : Cond.instanceMethod y_D_set ∈ lw_tbl ∧ Cond.selects y_D_set.cls y_D_set y_D_set ∈ lw_tbl := ⟨q_tb 594 (by decide +kernel), q_tb 595 (by decide +kernel)⟩
theorem k_D_adopt : q_hd y_D_adopt m_D_adopt ∈ lw_tbl ∧ Cond.initialized y_D_adopt.cls ∈ lw_tbl := ⟨q_tb 609 (by decide +kernel), q_tb 1 (by decide +kernel)⟩
theorem ms_D_adopt : Cond.instanceMethod y_D_adopt ∈ lw_tbl ∧ Cond.selects y_D_adopt.cls y_D_adopt y_D_adopt ∈ lw_tbl := ⟨q_tb 607 (by decide +kernel), q_tb 608 (by decide +kernel)⟩
theorem k_D_letter : q_hd y_D_letter m_D_letter ∈ lw_tbl ∧ Cond.initialized y_D_letter.cls ∈ lw_tbl := ⟨q_tb 624 (by decide +kernel), q_tb 1 (by decide +kernel)⟩
theorem ms_D_letter : Cond.instanceMethod y_D_letter ∈ lw_tbl ∧ Cond.selects y_D_letter.cls y_D_letter y_D_letter ∈ lw_tbl := ⟨q_tb 622 (by decide +kernel), q_tb 623 (by decide +kernel)⟩
theorem k_D_holds : q_hd y_D_holds m_D_holds ∈ lw_tbl ∧ Cond.initialized y_D_holds.cls ∈ lw_tbl := ⟨q_tb 644 (by decide +kernel), q_tb 1 (by decide +kernel)⟩
theorem ms_D_holds : Cond.instanceMethod y_D_holds ∈ lw_tbl ∧ Cond.selects y_D_holds.cls y_D_holds y_D_holds ∈ lw_tbl := ⟨q_tb 642 (by decide +kernel), q_tb 643 (by decide +kernel)⟩
theorem k_D_requireFormula : q_hd y_D_requireFormula m_D_requireFormula ∈ lw_tbl ∧ Cond.initialized y_D_requireFormula.cls ∈ lw_tbl := ⟨q_tb 335 (by decide +kernel), q_tb 1 (by decide +kernel)⟩
theorem ms_D_requireFormula : Cond.instanceMethod y_D_requireFormula ∈ lw_tbl ∧ Cond.selects y_D_requireFormula.cls y_D_requireFormula y_D_requireFormula ∈ lw_tbl := ⟨q_tb 334 (by decide +kernel), q_ts (n := 8) 6 (by decide +kernel)⟩
theorem k_D_requireState : q_hd y_D_requireState m_D_requireState ∈ lw_tbl ∧ Cond.initialized y_D_requireState.cls ∈ lw_tbl := ⟨q_tb 367 (by decide +kernel), q_tb 1 (by decide +kernel)⟩
theorem ms_D_requireState : Cond.instanceMethod y_D_requireState ∈ lw_tbl ∧ Cond.selects y_D_requireState.cls y_D_requireState y_D_requireState ∈ lw_tbl := ⟨q_tb 366 (by decide +kernel), q_ts (n := 8) 7 (by decide +kernel)⟩
theorem k_D_requirePlace : q_hd y_D_requirePlace m_D_requirePlace ∈ lw_tbl ∧ Cond.initialized y_D_requirePlace.cls ∈ lw_tbl := ⟨q_tb 628 (by decide +kernel), q_tb 1 (by decide +kernel)⟩
theorem ms_D_requirePlace : Cond.instanceMethod y_D_requirePlace ∈ lw_tbl ∧ Cond.selects y_D_requirePlace.cls y_D_requirePlace y_D_requirePlace ∈ lw_tbl := ⟨q_tb 627 (by decide +kernel), q_ts (n := 8) 19 (by decide +kernel)⟩
theorem k_D_settle : q_hd y_D_settle m_D_settle ∈ lw_tbl ∧ Cond.initialized y_D_settle.cls ∈ lw_tbl := ⟨q_tb 420 (by decide +kernel), q_tb 1 (by decide +kernel)⟩
theorem ms_D_settle : Cond.instanceMethod y_D_settle ∈ lw_tbl ∧ Cond.selects y_D_settle.cls y_D_settle y_D_settle ∈ lw_tbl := ⟨q_tb 419 (by decide +kernel), q_ts (n := 8) 9 (by decide +kernel)⟩
theorem k_D_hasBit : q_hd y_D_hasBit m_D_hasBit ∈ lw_tbl ∧ Cond.initialized y_D_hasBit.cls ∈ lw_tbl := ⟨q_tb 394 (by decide +kernel), q_tb 1 (by decide +kernel)⟩
theorem ms_D_hasBit : Cond.static y_D_hasBit ∈ lw_tbl := q_tb 393 (by decide +kernel)
theorem k_D_isTemporal : q_hd y_D_isTemporal m_D_isTemporal ∈ lw_tbl ∧ Cond.initialized y_D_isTemporal.cls ∈ lw_tbl := ⟨q_tb 290 (by decide +kernel), q_tb 1 (by decide +kernel)⟩
theorem ms_D_isTemporal : Cond.static y_D_isTemporal ∈ lw_tbl := q_tb 289 (by decide +kernel)
theorem k_Mo_thrown : q_hd y_Mo_thrown m_Mo_thrown ∈ lw_tbl ∧ Cond.initialized y_Mo_thrown.cls ∈ lw_tbl := ⟨q_tb 803 (by decide +kernel), q_tb 7 (by decide +kernel)⟩
theorem ms_Mo_thrown : Cond.instanceMethod y_Mo_thrown ∈ lw_tbl ∧ Cond.selects y_Mo_thrown.cls y_Mo_thrown y_Mo_thrown ∈ lw_tbl := ⟨q_tb 801 (by decide +kernel), q_tb 802 (by decide +kernel)⟩
theorem k_Mo_type : q_hd y_Mo_type m_Mo_type ∈ lw_tbl ∧ Cond.initialized y_Mo_type.cls ∈ lw_tbl := ⟨q_tb 807 (by decide +kernel), q_tb 7 (by decide +kernel)⟩
theorem ms_Mo_type : Cond.instanceMethod y_Mo_type ∈ lw_tbl ∧ Cond.selects y_Mo_type.cls y_Mo_type y_Mo_type ∈ lw_tbl := ⟨q_tb 805 (by decide +kernel), q_tb 806 (by decide +kernel)⟩
theorem k_Mo_tightness : q_hd y_Mo_tightness m_Mo_tightness ∈ lw_tbl ∧ Cond.initialized y_Mo_tightness.cls ∈ lw_tbl := ⟨q_tb 839 (by decide +kernel), q_tb 7 (by decide +kernel)⟩
theorem ms_Mo_tightness : Cond.static y_Mo_tightness ∈ lw_tbl := q_tb 838 (by decide +kernel)
theorem k_Mo_isTemporal : q_hd y_Mo_isTemporal m_Mo_isTemporal ∈ lw_tbl ∧ Cond.initialized y_Mo_isTemporal.cls ∈ lw_tbl := ⟨q_tb 832 (by decide +kernel), q_tb 7 (by decide +kernel)⟩
theorem ms_Mo_isTemporal : Cond.static y_Mo_isTemporal ∈ lw_tbl := q_tb 831 (by decide +kernel)
theorem k_Mo_part : q_hd y_Mo_part m_Mo_part ∈ lw_tbl ∧ Cond.initialized y_Mo_part.cls ∈ lw_tbl := ⟨q_tb 822 (by decide +kernel), q_tb 7 (by decide +kernel)⟩
theorem ms_Mo_part : Cond.instanceMethod y_Mo_part ∈ lw_tbl ∧ Cond.selects y_Mo_part.cls y_Mo_part y_Mo_part ∈ lw_tbl := ⟨q_tb 821 (by decide +kernel), q_ts (n := 40) 22 (by decide +kernel)⟩
theorem k_Mo_taken : q_hd y_Mo_taken m_Mo_taken ∈ lw_tbl ∧ Cond.initialized y_Mo_taken.cls ∈ lw_tbl := ⟨q_tb 843 (by decide +kernel), q_tb 7 (by decide +kernel)⟩
theorem ms_Mo_taken : Cond.instanceMethod y_Mo_taken ∈ lw_tbl ∧ Cond.selects y_Mo_taken.cls y_Mo_taken y_Mo_taken ∈ lw_tbl := ⟨q_tb 842 (by decide +kernel), q_ts (n := 40) 25 (by decide +kernel)⟩
theorem k_Mo_settle : q_hd y_Mo_settle m_Mo_settle ∈ lw_tbl ∧ Cond.initialized y_Mo_settle.cls ∈ lw_tbl := ⟨q_tb 836 (by decide +kernel), q_tb 7 (by decide +kernel)⟩
theorem ms_Mo_settle : Cond.instanceMethod y_Mo_settle ∈ lw_tbl ∧ Cond.selects y_Mo_settle.cls y_Mo_settle y_Mo_settle ∈ lw_tbl := ⟨q_tb 835 (by decide +kernel), q_ts (n := 40) 24 (by decide +kernel)⟩
theorem k_Mo_push : q_hd y_Mo_push m_Mo_push ∈ lw_tbl ∧ Cond.initialized y_Mo_push.cls ∈ lw_tbl := ⟨q_tb 829 (by decide +kernel), q_tb 7 (by decide +kernel)⟩
theorem ms_Mo_push : Cond.instanceMethod y_Mo_push ∈ lw_tbl ∧ Cond.selects y_Mo_push.cls y_Mo_push y_Mo_push ∈ lw_tbl := ⟨q_tb 828 (by decide +kernel), q_ts (n := 40) 23 (by decide +kernel)⟩
theorem k_Mo_leafOf : q_hd y_Mo_leafOf m_Mo_leafOf ∈ lw_tbl ∧ Cond.initialized y_Mo_leafOf.cls ∈ lw_tbl := ⟨q_tb 818 (by decide +kernel), q_tb 7 (by decide +kernel)⟩
theorem ms_Mo_leafOf : Cond.static y_Mo_leafOf ∈ lw_tbl := q_tb 817 (by decide +kernel)
theorem k_Mo_prefixOf : q_hd y_Mo_prefixOf m_Mo_prefixOf ∈ lw_tbl ∧ Cond.initialized y_Mo_prefixOf.cls ∈ lw_tbl := ⟨q_tb 825 (by decide +kernel), q_tb 7 (by decide +kernel)⟩
theorem ms_Mo_prefixOf : Cond.static y_Mo_prefixOf ∈ lw_tbl := q_tb 824 (by decide +kernel)
theorem k_Mo_signOf : q_hd y_Mo_signOf m_Mo_signOf ∈ lw_tbl ∧ Cond.initialized y_Mo_signOf.cls ∈ lw_tbl := ⟨q_tb 846 (by decide +kernel), q_tb 7 (by decide +kernel)⟩
theorem ms_Mo_signOf : Cond.static y_Mo_signOf ∈ lw_tbl := q_tb 845 (by decide +kernel)
theorem k_Mo_reads : q_hd y_Mo_reads m_Mo_reads ∈ lw_tbl ∧ Cond.initialized y_Mo_reads.cls ∈ lw_tbl := ⟨q_tb 815 (by decide +kernel), q_tb 7 (by decide +kernel)⟩
theorem ms_Mo_reads : Cond.instanceMethod y_Mo_reads ∈ lw_tbl ∧ Cond.selects y_Mo_reads.cls y_Mo_reads y_Mo_reads ∈ lw_tbl := ⟨q_tb 814 (by decide +kernel), q_ts (n := 40) 21 (by decide +kernel)⟩
theorem k_Mo_formula : q_hd y_Mo_formula m_Mo_formula ∈ lw_tbl ∧ Cond.initialized y_Mo_formula.cls ∈ lw_tbl := ⟨q_tb 811 (by decide +kernel), q_tb 7 (by decide +kernel)⟩
theorem ms_Mo_formula : Cond.instanceMethod y_Mo_formula ∈ lw_tbl ∧ Cond.selects y_Mo_formula.cls y_Mo_formula y_Mo_formula ∈ lw_tbl := ⟨q_tb 809 (by decide +kernel), q_tb 810 (by decide +kernel)⟩
theorem k_Mo_count : q_hd y_Mo_count m_Mo_count ∈ lw_tbl ∧ Cond.initialized y_Mo_count.cls ∈ lw_tbl := ⟨q_tb 850 (by decide +kernel), q_tb 7 (by decide +kernel)⟩
theorem ms_Mo_count : Cond.instanceMethod y_Mo_count ∈ lw_tbl ∧ Cond.selects y_Mo_count.cls y_Mo_count y_Mo_count ∈ lw_tbl := ⟨q_tb 849 (by decide +kernel), q_ts (n := 40) 26 (by decide +kernel)⟩
theorem k_Mo_valueOf : q_hd y_Mo_valueOf m_Mo_valueOf ∈ lw_tbl ∧ Cond.initialized y_Mo_valueOf.cls ∈ lw_tbl := ⟨q_tb 858 (by decide +kernel), q_tb 7 (by decide +kernel)⟩
theorem ms_Mo_valueOf : Cond.instanceMethod y_Mo_valueOf ∈ lw_tbl ∧ Cond.selects y_Mo_valueOf.cls y_Mo_valueOf y_Mo_valueOf ∈ lw_tbl := ⟨q_tb 857 (by decide +kernel), q_ts (n := 40) 28 (by decide +kernel)⟩
theorem k_Mo_look : q_hd y_Mo_look m_Mo_look ∈ lw_tbl ∧ Cond.initialized y_Mo_look.cls ∈ lw_tbl := ⟨q_tb 854 (by decide +kernel), q_tb 7 (by decide +kernel)⟩
theorem ms_Mo_look : Cond.instanceMethod y_Mo_look ∈ lw_tbl ∧ Cond.selects y_Mo_look.cls y_Mo_look y_Mo_look ∈ lw_tbl := ⟨q_tb 853 (by decide +kernel), q_ts (n := 40) 27 (by decide +kernel)⟩
theorem k_Mo_goes : q_hd y_Mo_goes m_Mo_goes ∈ lw_tbl ∧ Cond.initialized y_Mo_goes.cls ∈ lw_tbl := ⟨q_tb 899 (by decide +kernel), q_tb 7 (by decide +kernel)⟩
theorem ms_Mo_goes : Cond.instanceMethod y_Mo_goes ∈ lw_tbl ∧ Cond.selects y_Mo_goes.cls y_Mo_goes y_Mo_goes ∈ lw_tbl := ⟨q_tb 898 (by decide +kernel), q_ts (n := 40) 38 (by decide +kernel)⟩
theorem k_Mo_noteSome : q_hd y_Mo_noteSome m_Mo_noteSome ∈ lw_tbl ∧ Cond.initialized y_Mo_noteSome.cls ∈ lw_tbl := ⟨q_tb 870 (by decide +kernel), q_tb 7 (by decide +kernel)⟩
theorem ms_Mo_noteSome : Cond.instanceMethod y_Mo_noteSome ∈ lw_tbl ∧ Cond.selects y_Mo_noteSome.cls y_Mo_noteSome y_Mo_noteSome ∈ lw_tbl := ⟨q_tb 869 (by decide +kernel), q_ts (n := 40) 31 (by decide +kernel)⟩
theorem k_Mo_leadsToOne : q_hd y_Mo_leadsToOne m_Mo_leadsToOne ∈ lw_tbl ∧ Cond.initialized y_Mo_leadsToOne.cls ∈ lw_tbl := ⟨q_tb 874 (by decide +kernel), q_tb 7 (by decide +kernel)⟩
theorem ms_Mo_leadsToOne : Cond.instanceMethod y_Mo_leadsToOne ∈ lw_tbl ∧ Cond.selects y_Mo_leadsToOne.cls y_Mo_leadsToOne y_Mo_leadsToOne ∈ lw_tbl := ⟨q_tb 873 (by decide +kernel), q_ts (n := 40) 32 (by decide +kernel)⟩
theorem k_Mo_countSteps : q_hd y_Mo_countSteps m_Mo_countSteps ∈ lw_tbl ∧ Cond.initialized y_Mo_countSteps.cls ∈ lw_tbl := ⟨q_tb 866 (by decide +kernel), q_tb 7 (by decide +kernel)⟩
theorem ms_Mo_countSteps : Cond.instanceMethod y_Mo_countSteps ∈ lw_tbl ∧ Cond.selects y_Mo_countSteps.cls y_Mo_countSteps y_Mo_countSteps ∈ lw_tbl := ⟨q_tb 865 (by decide +kernel), q_ts (n := 40) 30 (by decide +kernel)⟩
theorem k_Mo_takeOut : q_hd y_Mo_takeOut m_Mo_takeOut ∈ lw_tbl ∧ Cond.initialized y_Mo_takeOut.cls ∈ lw_tbl := ⟨q_tb 862 (by decide +kernel), q_tb 7 (by decide +kernel)⟩
theorem ms_Mo_takeOut : Cond.instanceMethod y_Mo_takeOut ∈ lw_tbl ∧ Cond.selects y_Mo_takeOut.cls y_Mo_takeOut y_Mo_takeOut ∈ lw_tbl := ⟨q_tb 861 (by decide +kernel), q_ts (n := 40) 29 (by decide +kernel)⟩
theorem k_Mo_isDue : q_hd y_Mo_isDue m_Mo_isDue ∈ lw_tbl ∧ Cond.initialized y_Mo_isDue.cls ∈ lw_tbl := ⟨q_tb 890 (by decide +kernel), q_tb 7 (by decide +kernel)⟩
theorem ms_Mo_isDue : Cond.instanceMethod y_Mo_isDue ∈ lw_tbl ∧ Cond.selects y_Mo_isDue.cls y_Mo_isDue y_Mo_isDue ∈ lw_tbl := ⟨q_tb 889 (by decide +kernel), q_ts (n := 40) 36 (by decide +kernel)⟩
theorem k_Mo_dutyAt : q_hd y_Mo_dutyAt m_Mo_dutyAt ∈ lw_tbl ∧ Cond.initialized y_Mo_dutyAt.cls ∈ lw_tbl := ⟨q_tb 886 (by decide +kernel), q_tb 7 (by decide +kernel)⟩
theorem ms_Mo_dutyAt : Cond.instanceMethod y_Mo_dutyAt ∈ lw_tbl ∧ Cond.selects y_Mo_dutyAt.cls y_Mo_dutyAt y_Mo_dutyAt ∈ lw_tbl := ⟨q_tb 885 (by decide +kernel), q_ts (n := 40) 35 (by decide +kernel)⟩
theorem k_Mo_nextOf : q_hd y_Mo_nextOf m_Mo_nextOf ∈ lw_tbl ∧ Cond.initialized y_Mo_nextOf.cls ∈ lw_tbl := ⟨q_tb 894 (by decide +kernel), q_tb 7 (by decide +kernel)⟩
theorem ms_Mo_nextOf : Cond.instanceMethod y_Mo_nextOf ∈ lw_tbl ∧ Cond.selects y_Mo_nextOf.cls y_Mo_nextOf y_Mo_nextOf ∈ lw_tbl := ⟨q_tb 893 (by decide +kernel), q_ts (n := 40) 37 (by decide +kernel)⟩
theorem k_Mo_firstState : q_hd y_Mo_firstState m_Mo_firstState ∈ lw_tbl ∧ Cond.initialized y_Mo_firstState.cls ∈ lw_tbl := ⟨q_tb 882 (by decide +kernel), q_tb 7 (by decide +kernel)⟩
theorem ms_Mo_firstState : Cond.instanceMethod y_Mo_firstState ∈ lw_tbl ∧ Cond.selects y_Mo_firstState.cls y_Mo_firstState y_Mo_firstState ∈ lw_tbl := ⟨q_tb 881 (by decide +kernel), q_ts (n := 40) 34 (by decide +kernel)⟩
theorem k_Mo_goWalk : q_hd y_Mo_goWalk m_Mo_goWalk ∈ lw_tbl ∧ Cond.initialized y_Mo_goWalk.cls ∈ lw_tbl := ⟨q_tb 878 (by decide +kernel), q_tb 7 (by decide +kernel)⟩
theorem ms_Mo_goWalk : Cond.instanceMethod y_Mo_goWalk ∈ lw_tbl ∧ Cond.selects y_Mo_goWalk.cls y_Mo_goWalk y_Mo_goWalk ∈ lw_tbl := ⟨q_tb 877 (by decide +kernel), q_ts (n := 40) 33 (by decide +kernel)⟩
theorem k_Mo_refused : q_hd y_Mo_refused m_Mo_refused ∈ lw_tbl ∧ Cond.initialized y_Mo_refused.cls ∈ lw_tbl := ⟨q_tb 907 (by decide +kernel), q_tb 7 (by decide +kernel)⟩
theorem ms_Mo_refused : Cond.instanceMethod y_Mo_refused ∈ lw_tbl ∧ Cond.selects y_Mo_refused.cls y_Mo_refused y_Mo_refused ∈ lw_tbl := ⟨q_tb 906 (by decide +kernel), q_ts (n := 40) 39 (by decide +kernel)⟩
theorem k_Mo_isState : q_hd y_Mo_isState m_Mo_isState ∈ lw_tbl ∧ Cond.initialized y_Mo_isState.cls ∈ lw_tbl := ⟨q_tb 915 (by decide +kernel), q_tb 7 (by decide +kernel)⟩
theorem ms_Mo_isState : Cond.instanceMethod y_Mo_isState ∈ lw_tbl ∧ Cond.selects y_Mo_isState.cls y_Mo_isState y_Mo_isState ∈ lw_tbl := ⟨q_tb 914 (by decide +kernel), q_ts (n := 40) 40 (by decide +kernel)⟩
theorem k_Mo_states : q_hd y_Mo_states m_Mo_states ∈ lw_tbl ∧ Cond.initialized y_Mo_states.cls ∈ lw_tbl := ⟨q_tb 903 (by decide +kernel), q_tb 7 (by decide +kernel)⟩
theorem ms_Mo_states : Cond.instanceMethod y_Mo_states ∈ lw_tbl ∧ Cond.selects y_Mo_states.cls y_Mo_states y_Mo_states ∈ lw_tbl := ⟨q_tb 901 (by decide +kernel), q_tb 902 (by decide +kernel)⟩
theorem k_Mo_isAt : q_hd y_Mo_isAt m_Mo_isAt ∈ lw_tbl ∧ Cond.initialized y_Mo_isAt.cls ∈ lw_tbl := ⟨q_tb 911 (by decide +kernel), q_tb 7 (by decide +kernel)⟩
theorem ms_Mo_isAt : Cond.instanceMethod y_Mo_isAt ∈ lw_tbl ∧ Cond.selects y_Mo_isAt.cls y_Mo_isAt y_Mo_isAt ∈ lw_tbl := ⟨q_tb 909 (by decide +kernel), q_tb 910 (by decide +kernel)⟩
theorem k_Mo_leads : q_hd y_Mo_leads m_Mo_leads ∈ lw_tbl ∧ Cond.initialized y_Mo_leads.cls ∈ lw_tbl := ⟨q_tb 919 (by decide +kernel), q_tb 7 (by decide +kernel)⟩
theorem ms_Mo_leads : Cond.instanceMethod y_Mo_leads ∈ lw_tbl ∧ Cond.selects y_Mo_leads.cls y_Mo_leads y_Mo_leads ∈ lw_tbl := ⟨q_tb 917 (by decide +kernel), q_tb 918 (by decide +kernel)⟩
theorem k_Mo_lasts : q_hd y_Mo_lasts m_Mo_lasts ∈ lw_tbl ∧ Cond.initialized y_Mo_lasts.cls ∈ lw_tbl := ⟨q_tb 923 (by decide +kernel), q_tb 7 (by decide +kernel)⟩
theorem ms_Mo_lasts : Cond.instanceMethod y_Mo_lasts ∈ lw_tbl ∧ Cond.selects y_Mo_lasts.cls y_Mo_lasts y_Mo_lasts ∈ lw_tbl := ⟨q_tb 921 (by decide +kernel), q_tb 922 (by decide +kernel)⟩
theorem k_Mo_lasting : q_hd y_Mo_lasting m_Mo_lasting ∈ lw_tbl ∧ Cond.initialized y_Mo_lasting.cls ∈ lw_tbl := ⟨q_tb 927 (by decide +kernel), q_tb 7 (by decide +kernel)⟩
theorem ms_Mo_lasting : Cond.instanceMethod y_Mo_lasting ∈ lw_tbl ∧ Cond.selects y_Mo_lasting.cls y_Mo_lasting y_Mo_lasting ∈ lw_tbl := ⟨q_tb 925 (by decide +kernel), q_tb 926 (by decide +kernel)⟩
theorem k_Mo_promises : q_hd y_Mo_promises m_Mo_promises ∈ lw_tbl ∧ Cond.initialized y_Mo_promises.cls ∈ lw_tbl := ⟨q_tb 931 (by decide +kernel), q_tb 7 (by decide +kernel)⟩
theorem ms_Mo_promises : Cond.instanceMethod y_Mo_promises ∈ lw_tbl ∧ Cond.selects y_Mo_promises.cls y_Mo_promises y_Mo_promises ∈ lw_tbl := ⟨q_tb 929 (by decide +kernel), q_tb 930 (by decide +kernel)⟩
theorem k_Mo_can : q_hd y_Mo_can m_Mo_can ∈ lw_tbl ∧ Cond.initialized y_Mo_can.cls ∈ lw_tbl := ⟨q_tb 935 (by decide +kernel), q_tb 7 (by decide +kernel)⟩
theorem ms_Mo_can : Cond.instanceMethod y_Mo_can ∈ lw_tbl ∧ Cond.selects y_Mo_can.cls y_Mo_can y_Mo_can ∈ lw_tbl := ⟨q_tb 933 (by decide +kernel), q_tb 934 (by decide +kernel)⟩
theorem k_Mo_stem : q_hd y_Mo_stem m_Mo_stem ∈ lw_tbl ∧ Cond.initialized y_Mo_stem.cls ∈ lw_tbl := ⟨q_tb 939 (by decide +kernel), q_tb 7 (by decide +kernel)⟩
theorem ms_Mo_stem : Cond.instanceMethod y_Mo_stem ∈ lw_tbl ∧ Cond.selects y_Mo_stem.cls y_Mo_stem y_Mo_stem ∈ lw_tbl := ⟨q_tb 937 (by decide +kernel), q_tb 938 (by decide +kernel)⟩
theorem k_Mo_loop : q_hd y_Mo_loop m_Mo_loop ∈ lw_tbl ∧ Cond.initialized y_Mo_loop.cls ∈ lw_tbl := ⟨q_tb 943 (by decide +kernel), q_tb 7 (by decide +kernel)⟩
theorem ms_Mo_loop : Cond.instanceMethod y_Mo_loop ∈ lw_tbl ∧ Cond.selects y_Mo_loop.cls y_Mo_loop y_Mo_loop ∈ lw_tbl := ⟨q_tb 941 (by decide +kernel), q_tb 942 (by decide +kernel)⟩
theorem k_Mo_step : q_hd y_Mo_step m_Mo_step ∈ lw_tbl ∧ Cond.initialized y_Mo_step.cls ∈ lw_tbl := ⟨q_tb 947 (by decide +kernel), q_tb 7 (by decide +kernel)⟩
theorem ms_Mo_step : Cond.instanceMethod y_Mo_step ∈ lw_tbl ∧ Cond.selects y_Mo_step.cls y_Mo_step y_Mo_step ∈ lw_tbl := ⟨q_tb 945 (by decide +kernel), q_tb 946 (by decide +kernel)⟩
theorem k_Mo_shape : q_hd y_Mo_shape m_Mo_shape ∈ lw_tbl ∧ Cond.initialized y_Mo_shape.cls ∈ lw_tbl := ⟨q_tb 951 (by decide +kernel), q_tb 7 (by decide +kernel)⟩
theorem ms_Mo_shape : Cond.instanceMethod y_Mo_shape ∈ lw_tbl ∧ Cond.selects y_Mo_shape.cls y_Mo_shape y_Mo_shape ∈ lw_tbl := ⟨q_tb 949 (by decide +kernel), q_tb 950 (by decide +kernel)⟩
theorem k_Mo_set : q_hd y_Mo_set m_Mo_set ∈ lw_tbl ∧ Cond.initialized y_Mo_set.cls ∈ lw_tbl := ⟨q_tb 955 (by decide +kernel), q_tb 7 (by decide +kernel)⟩
theorem ms_Mo_set : Cond.instanceMethod y_Mo_set ∈ lw_tbl ∧ Cond.selects y_Mo_set.cls y_Mo_set y_Mo_set ∈ lw_tbl := ⟨q_tb 953 (by decide +kernel), q_tb 954 (by decide +kernel)⟩
theorem k_Mo_adopt : q_hd y_Mo_adopt m_Mo_adopt ∈ lw_tbl ∧ Cond.initialized y_Mo_adopt.cls ∈ lw_tbl := ⟨q_tb 959 (by decide +kernel), q_tb 7 (by decide +kernel)⟩
theorem ms_Mo_adopt : Cond.instanceMethod y_Mo_adopt ∈ lw_tbl ∧ Cond.selects y_Mo_adopt.cls y_Mo_adopt y_Mo_adopt ∈ lw_tbl := ⟨q_tb 957 (by decide +kernel), q_tb 958 (by decide +kernel)⟩
theorem k_Mo_placeOf : q_hd y_Mo_placeOf m_Mo_placeOf ∈ lw_tbl ∧ Cond.initialized y_Mo_placeOf.cls ∈ lw_tbl := ⟨q_tb 967 (by decide +kernel), q_tb 7 (by decide +kernel)⟩
theorem ms_Mo_placeOf : Cond.instanceMethod y_Mo_placeOf ∈ lw_tbl ∧ Cond.selects y_Mo_placeOf.cls y_Mo_placeOf y_Mo_placeOf ∈ lw_tbl := ⟨q_tb 966 (by decide +kernel), q_ts (n := 40) 41 (by decide +kernel)⟩
theorem k_Mo_letter : q_hd y_Mo_letter m_Mo_letter ∈ lw_tbl ∧ Cond.initialized y_Mo_letter.cls ∈ lw_tbl := ⟨q_tb 963 (by decide +kernel), q_tb 7 (by decide +kernel)⟩
theorem ms_Mo_letter : Cond.instanceMethod y_Mo_letter ∈ lw_tbl ∧ Cond.selects y_Mo_letter.cls y_Mo_letter y_Mo_letter ∈ lw_tbl := ⟨q_tb 961 (by decide +kernel), q_tb 962 (by decide +kernel)⟩
theorem k_Mo_spread : q_hd y_Mo_spread m_Mo_spread ∈ lw_tbl ∧ Cond.initialized y_Mo_spread.cls ∈ lw_tbl := ⟨q_tb 975 (by decide +kernel), q_tb 7 (by decide +kernel)⟩
theorem ms_Mo_spread : Cond.instanceMethod y_Mo_spread ∈ lw_tbl ∧ Cond.selects y_Mo_spread.cls y_Mo_spread y_Mo_spread ∈ lw_tbl := ⟨q_tb 974 (by decide +kernel), q_ts (n := 40) 42 (by decide +kernel)⟩
theorem k_Mo_holds : q_hd y_Mo_holds m_Mo_holds ∈ lw_tbl ∧ Cond.initialized y_Mo_holds.cls ∈ lw_tbl := ⟨q_tb 971 (by decide +kernel), q_tb 7 (by decide +kernel)⟩
theorem ms_Mo_holds : Cond.instanceMethod y_Mo_holds ∈ lw_tbl ∧ Cond.selects y_Mo_holds.cls y_Mo_holds y_Mo_holds ∈ lw_tbl := ⟨q_tb 969 (by decide +kernel), q_tb 970 (by decide +kernel)⟩
theorem k_Fo_clear : q_hd y_Fo_clear m_Fo_clear ∈ lw_tbl ∧ Cond.initialized y_Fo_clear.cls ∈ lw_tbl := ⟨q_tb 279 (by decide +kernel), q_tb 6 (by decide +kernel)⟩
theorem ms_Fo_clear : Cond.instanceMethod y_Fo_clear ∈ lw_tbl ∧ Cond.selects y_Fo_clear.cls y_Fo_clear y_Fo_clear ∈ lw_tbl := ⟨q_tb 277 (by decide +kernel), q_tb 278 (by decide +kernel)⟩
theorem k_Fo_add : q_hd y_Fo_add m_Fo_add ∈ lw_tbl ∧ Cond.initialized y_Fo_add.cls ∈ lw_tbl := ⟨q_tb 302 (by decide +kernel), q_tb 6 (by decide +kernel)⟩
theorem ms_Fo_add : Cond.instanceMethod y_Fo_add ∈ lw_tbl ∧ Cond.selects y_Fo_add.cls y_Fo_add y_Fo_add ∈ lw_tbl := ⟨q_tb 300 (by decide +kernel), q_tb 301 (by decide +kernel)⟩
theorem k_Fo_listPromises : q_hd y_Fo_listPromises m_Fo_listPromises ∈ lw_tbl ∧ Cond.initialized y_Fo_listPromises.cls ∈ lw_tbl := ⟨q_tb 314 (by decide +kernel), q_tb 6 (by decide +kernel)⟩
theorem ms_Fo_listPromises : Cond.instanceMethod y_Fo_listPromises ∈ lw_tbl ∧ Cond.selects y_Fo_listPromises.cls y_Fo_listPromises y_Fo_listPromises ∈ lw_tbl := ⟨q_tb 312 (by decide +kernel), q_tb 313 (by decide +kernel)⟩
theorem k_Fo_size : q_hd y_Fo_size m_Fo_size ∈ lw_tbl ∧ Cond.initialized y_Fo_size.cls ∈ lw_tbl := ⟨q_tb 323 (by decide +kernel), q_tb 6 (by decide +kernel)⟩
theorem ms_Fo_size : Cond.instanceMethod y_Fo_size ∈ lw_tbl ∧ Cond.selects y_Fo_size.cls y_Fo_size y_Fo_size ∈ lw_tbl := ⟨q_tb 321 (by decide +kernel), q_tb 322 (by decide +kernel)⟩
theorem k_Fo_stateCount : q_hd y_Fo_stateCount m_Fo_stateCount ∈ lw_tbl ∧ Cond.initialized y_Fo_stateCount.cls ∈ lw_tbl := ⟨q_tb 355 (by decide +kernel), q_tb 6 (by decide +kernel)⟩
theorem ms_Fo_stateCount : Cond.instanceMethod y_Fo_stateCount ∈ lw_tbl ∧ Cond.selects y_Fo_stateCount.cls y_Fo_stateCount y_Fo_stateCount ∈ lw_tbl := ⟨q_tb 353 (by decide +kernel), q_tb 354 (by decide +kernel)⟩
theorem k_Fo_promiseCount : q_hd y_Fo_promiseCount m_Fo_promiseCount ∈ lw_tbl ∧ Cond.initialized y_Fo_promiseCount.cls ∈ lw_tbl := ⟨q_tb 433 (by decide +kernel), q_tb 6 (by decide +kernel)⟩
theorem ms_Fo_promiseCount : Cond.instanceMethod y_Fo_promiseCount ∈ lw_tbl ∧ Cond.selects y_Fo_promiseCount.cls y_Fo_promiseCount y_Fo_promiseCount ∈ lw_tbl := ⟨q_tb 431 (by decide +kernel), q_tb 432 (by decide +kernel)⟩
theorem k_Fo_isWholeIn : q_hd y_Fo_isWholeIn m_Fo_isWholeIn ∈ lw_tbl ∧ Cond.initialized y_Fo_isWholeIn.cls ∈ lw_tbl := ⟨q_tb 398 (by decide +kernel), q_tb 6 (by decide +kernel)⟩
theorem ms_Fo_isWholeIn : Cond.instanceMethod y_Fo_isWholeIn ∈ lw_tbl ∧ Cond.selects y_Fo_isWholeIn.cls y_Fo_isWholeIn y_Fo_isWholeIn ∈ lw_tbl := ⟨q_tb 396 (by decide +kernel), q_tb 397 (by decide +kernel)⟩
theorem k_Fo_partsAt : q_hd y_Fo_partsAt m_Fo_partsAt ∈ lw_tbl ∧ Cond.initialized y_Fo_partsAt.cls ∈ lw_tbl := ⟨q_tb 387 (by decide +kernel), q_tb 6 (by decide +kernel)⟩
theorem ms_Fo_partsAt : Cond.instanceMethod y_Fo_partsAt ∈ lw_tbl ∧ Cond.selects y_Fo_partsAt.cls y_Fo_partsAt y_Fo_partsAt ∈ lw_tbl := ⟨q_tb 385 (by decide +kernel), q_tb 386 (by decide +kernel)⟩
theorem k_Fo_isPartAt : q_hd y_Fo_isPartAt m_Fo_isPartAt ∈ lw_tbl ∧ Cond.initialized y_Fo_isPartAt.cls ∈ lw_tbl := ⟨q_tb 391 (by decide +kernel), q_tb 6 (by decide +kernel)⟩
theorem ms_Fo_isPartAt : Cond.instanceMethod y_Fo_isPartAt ∈ lw_tbl ∧ Cond.selects y_Fo_isPartAt.cls y_Fo_isPartAt y_Fo_isPartAt ∈ lw_tbl := ⟨q_tb 390 (by decide +kernel), q_ts (n := 10) 8 (by decide +kernel)⟩
theorem k_Fo_expectedBefore : q_hd y_Fo_expectedBefore m_Fo_expectedBefore ∈ lw_tbl ∧ Cond.initialized y_Fo_expectedBefore.cls ∈ lw_tbl := ⟨q_tb 409 (by decide +kernel), q_tb 6 (by decide +kernel)⟩
theorem ms_Fo_expectedBefore : Cond.instanceMethod y_Fo_expectedBefore ∈ lw_tbl ∧ Cond.selects y_Fo_expectedBefore.cls y_Fo_expectedBefore y_Fo_expectedBefore ∈ lw_tbl := ⟨q_tb 407 (by decide +kernel), q_tb 408 (by decide +kernel)⟩
theorem k_Fo_openIn : q_hd y_Fo_openIn m_Fo_openIn ∈ lw_tbl ∧ Cond.initialized y_Fo_openIn.cls ∈ lw_tbl := ⟨q_tb 447 (by decide +kernel), q_tb 6 (by decide +kernel)⟩
theorem ms_Fo_openIn : Cond.instanceMethod y_Fo_openIn ∈ lw_tbl ∧ Cond.selects y_Fo_openIn.cls y_Fo_openIn y_Fo_openIn ∈ lw_tbl := ⟨q_tb 445 (by decide +kernel), q_tb 446 (by decide +kernel)⟩
theorem k_Fo_keptIn : q_hd y_Fo_keptIn m_Fo_keptIn ∈ lw_tbl ∧ Cond.initialized y_Fo_keptIn.cls ∈ lw_tbl := ⟨q_tb 439 (by decide +kernel), q_tb 6 (by decide +kernel)⟩
theorem ms_Fo_keptIn : Cond.instanceMethod y_Fo_keptIn ∈ lw_tbl ∧ Cond.selects y_Fo_keptIn.cls y_Fo_keptIn y_Fo_keptIn ∈ lw_tbl := ⟨q_tb 437 (by decide +kernel), q_tb 438 (by decide +kernel)⟩
theorem k_Fo_isForOnce : q_hd y_Fo_isForOnce m_Fo_isForOnce ∈ lw_tbl ∧ Cond.initialized y_Fo_isForOnce.cls ∈ lw_tbl := ⟨q_tb 443 (by decide +kernel), q_tb 6 (by decide +kernel)⟩
theorem ms_Fo_isForOnce : Cond.instanceMethod y_Fo_isForOnce ∈ lw_tbl ∧ Cond.selects y_Fo_isForOnce.cls y_Fo_isForOnce y_Fo_isForOnce ∈ lw_tbl := ⟨q_tb 442 (by decide +kernel), q_ts (n := 10) 11 (by decide +kernel)⟩
theorem k_Fo_placesOn : q_hd y_Fo_placesOn m_Fo_placesOn ∈ lw_tbl ∧ Cond.initialized y_Fo_placesOn.cls ∈ lw_tbl := ⟨q_tb 648 (by decide +kernel), q_tb 6 (by decide +kernel)⟩
theorem ms_Fo_placesOn : Cond.instanceMethod y_Fo_placesOn ∈ lw_tbl ∧ Cond.selects y_Fo_placesOn.cls y_Fo_placesOn y_Fo_placesOn ∈ lw_tbl := ⟨q_tb 646 (by decide +kernel), q_tb 647 (by decide +kernel)⟩
theorem k_Fo_partPlaces : q_hd y_Fo_partPlaces m_Fo_partPlaces ∈ lw_tbl ∧ Cond.initialized y_Fo_partPlaces.cls ∈ lw_tbl := ⟨q_tb 652 (by decide +kernel), q_tb 6 (by decide +kernel)⟩
theorem ms_Fo_partPlaces : Cond.instanceMethod y_Fo_partPlaces ∈ lw_tbl ∧ Cond.selects y_Fo_partPlaces.cls y_Fo_partPlaces y_Fo_partPlaces ∈ lw_tbl := ⟨q_tb 651 (by decide +kernel), q_ts (n := 10) 20 (by decide +kernel)⟩
theorem k_Gw_fits : q_hd y_Gw_fits m_Gw_fits ∈ lw_tbl ∧ Cond.initialized y_Gw_fits.cls ∈ lw_tbl := ⟨q_tb 580 (by decide +kernel), q_tb 5 (by decide +kernel)⟩
theorem ms_Gw_fits : Cond.static y_Gw_fits ∈ lw_tbl := q_tb 579 (by decide +kernel)
theorem k_Gw_size : q_hd y_Gw_size m_Gw_size ∈ lw_tbl ∧ Cond.initialized y_Gw_size.cls ∈ lw_tbl := ⟨q_tb 589 (by decide +kernel), q_tb 5 (by decide +kernel)⟩
theorem ms_Gw_size : Cond.instanceMethod y_Gw_size ∈ lw_tbl ∧ Cond.selects y_Gw_size.cls y_Gw_size y_Gw_size ∈ lw_tbl := ⟨q_tb 587 (by decide +kernel), q_tb 588 (by decide +kernel)⟩
theorem k_Gw_reshape : q_hd y_Gw_reshape m_Gw_reshape ∈ lw_tbl ∧ Cond.initialized y_Gw_reshape.cls ∈ lw_tbl := ⟨q_tb 585 (by decide +kernel), q_tb 5 (by decide +kernel)⟩
theorem ms_Gw_reshape : Cond.instanceMethod y_Gw_reshape ∈ lw_tbl ∧ Cond.selects y_Gw_reshape.cls y_Gw_reshape y_Gw_reshape ∈ lw_tbl := ⟨q_tb 583 (by decide +kernel), q_tb 584 (by decide +kernel)⟩
theorem k_Gw_replace : q_hd y_Gw_replace m_Gw_replace ∈ lw_tbl ∧ Cond.initialized y_Gw_replace.cls ∈ lw_tbl := ⟨q_tb 602 (by decide +kernel), q_tb 5 (by decide +kernel)⟩
theorem ms_Gw_replace : Cond.instanceMethod y_Gw_replace ∈ lw_tbl ∧ Cond.selects y_Gw_replace.cls y_Gw_replace y_Gw_replace ∈ lw_tbl := ⟨q_tb 600 (by decide +kernel), q_tb 601 (by decide +kernel)⟩
theorem k_Gw_take : q_hd y_Gw_take m_Gw_take ∈ lw_tbl ∧ Cond.initialized y_Gw_take.cls ∈ lw_tbl := ⟨q_tb 613 (by decide +kernel), q_tb 5 (by decide +kernel)⟩
theorem ms_Gw_take : Cond.instanceMethod y_Gw_take ∈ lw_tbl ∧ Cond.selects y_Gw_take.cls y_Gw_take y_Gw_take ∈ lw_tbl := ⟨q_tb 611 (by decide +kernel), q_tb 612 (by decide +kernel)⟩
theorem k_Gw_indexOf : q_hd y_Gw_indexOf m_Gw_indexOf ∈ lw_tbl ∧ Cond.initialized y_Gw_indexOf.cls ∈ lw_tbl := ⟨q_tb 637 (by decide +kernel), q_tb 5 (by decide +kernel)⟩
theorem ms_Gw_indexOf : Cond.instanceMethod y_Gw_indexOf ∈ lw_tbl ∧ Cond.selects y_Gw_indexOf.cls y_Gw_indexOf y_Gw_indexOf ∈ lw_tbl := ⟨q_tb 635 (by decide +kernel), q_tb 636 (by decide +kernel)⟩
theorem k_Gw_letterAt : q_hd y_Gw_letterAt m_Gw_letterAt ∈ lw_tbl ∧ Cond.initialized y_Gw_letterAt.cls ∈ lw_tbl := ⟨q_tb 633 (by decide +kernel), q_tb 5 (by decide +kernel)⟩
theorem ms_Gw_letterAt : Cond.instanceMethod y_Gw_letterAt ∈ lw_tbl ∧ Cond.selects y_Gw_letterAt.cls y_Gw_letterAt y_Gw_letterAt ∈ lw_tbl := ⟨q_tb 631 (by decide +kernel), q_tb 632 (by decide +kernel)⟩
theorem k_Gw_allPlaces : q_hd y_Gw_allPlaces m_Gw_allPlaces ∈ lw_tbl ∧ Cond.initialized y_Gw_allPlaces.cls ∈ lw_tbl := ⟨q_tb 656 (by decide +kernel), q_tb 5 (by decide +kernel)⟩
theorem ms_Gw_allPlaces : Cond.instanceMethod y_Gw_allPlaces ∈ lw_tbl ∧ Cond.selects y_Gw_allPlaces.cls y_Gw_allPlaces y_Gw_allPlaces ∈ lw_tbl := ⟨q_tb 654 (by decide +kernel), q_tb 655 (by decide +kernel)⟩
theorem k_Gw_placesWith : q_hd y_Gw_placesWith m_Gw_placesWith ∈ lw_tbl ∧ Cond.initialized y_Gw_placesWith.cls ∈ lw_tbl := ⟨q_tb 660 (by decide +kernel), q_tb 5 (by decide +kernel)⟩
theorem ms_Gw_placesWith : Cond.instanceMethod y_Gw_placesWith ∈ lw_tbl ∧ Cond.selects y_Gw_placesWith.cls y_Gw_placesWith y_Gw_placesWith ∈ lw_tbl := ⟨q_tb 658 (by decide +kernel), q_tb 659 (by decide +kernel)⟩
theorem k_Gw_placesBefore : q_hd y_Gw_placesBefore m_Gw_placesBefore ∈ lw_tbl ∧ Cond.initialized y_Gw_placesBefore.cls ∈ lw_tbl := ⟨q_tb 665 (by decide +kernel), q_tb 5 (by decide +kernel)⟩
theorem ms_Gw_placesBefore : Cond.instanceMethod y_Gw_placesBefore ∈ lw_tbl ∧ Cond.selects y_Gw_placesBefore.cls y_Gw_placesBefore y_Gw_placesBefore ∈ lw_tbl := ⟨q_tb 663 (by decide +kernel), q_tb 664 (by decide +kernel)⟩
theorem k_Gw_placesUntil : q_hd y_Gw_placesUntil m_Gw_placesUntil ∈ lw_tbl ∧ Cond.initialized y_Gw_placesUntil.cls ∈ lw_tbl := ⟨q_tb 669 (by decide +kernel), q_tb 5 (by decide +kernel)⟩
theorem ms_Gw_placesUntil : Cond.instanceMethod y_Gw_placesUntil ∈ lw_tbl ∧ Cond.selects y_Gw_placesUntil.cls y_Gw_placesUntil y_Gw_placesUntil ∈ lw_tbl := ⟨q_tb 667 (by decide +kernel), q_tb 668 (by decide +kernel)⟩
theorem k_La_find : q_hd y_La_find m_La_find ∈ lw_tbl ∧ Cond.initialized y_La_find.cls ∈ lw_tbl := ⟨q_tb 424 (by decide +kernel), q_tb 3 (by decide +kernel)⟩
theorem ms_La_find : Cond.instanceMethod y_La_find ∈ lw_tbl ∧ Cond.selects y_La_find.cls y_La_find y_La_find ∈ lw_tbl := ⟨q_tb 422 (by decide +kernel), q_tb 423 (by decide +kernel)⟩
theorem k_La_lookAtStates : q_hd y_La_lookAtStates m_La_lookAtStates ∈ lw_tbl ∧ Cond.initialized y_La_lookAtStates.cls ∈ lw_tbl := ⟨q_tb 428 (by decide +kernel), q_tb 3 (by decide +kernel)⟩
theorem ms_La_lookAtStates : Cond.instanceMethod y_La_lookAtStates ∈ lw_tbl ∧ Cond.selects y_La_lookAtStates.cls y_La_lookAtStates y_La_lookAtStates ∈ lw_tbl := ⟨q_tb 427 (by decide +kernel), q_ts (n := 10) 10 (by decide +kernel)⟩
theorem k_La_sweepDeadEnds : q_hd y_La_sweepDeadEnds m_La_sweepDeadEnds ∈ lw_tbl ∧ Cond.initialized y_La_sweepDeadEnds.cls ∈ lw_tbl := ⟨q_tb 452 (by decide +kernel), q_tb 3 (by decide +kernel)⟩
theorem ms_La_sweepDeadEnds : Cond.instanceMethod y_La_sweepDeadEnds ∈ lw_tbl ∧ Cond.selects y_La_sweepDeadEnds.cls y_La_sweepDeadEnds y_La_sweepDeadEnds ∈ lw_tbl := ⟨q_tb 451 (by decide +kernel), q_ts (n := 10) 12 (by decide +kernel)⟩
theorem k_La_sweepUnkept : q_hd y_La_sweepUnkept m_La_sweepUnkept ∈ lw_tbl ∧ Cond.initialized y_La_sweepUnkept.cls ∈ lw_tbl := ⟨q_tb 469 (by decide +kernel), q_tb 3 (by decide +kernel)⟩
theorem ms_La_sweepUnkept : Cond.instanceMethod y_La_sweepUnkept ∈ lw_tbl ∧ Cond.selects y_La_sweepUnkept.cls y_La_sweepUnkept y_La_sweepUnkept ∈ lw_tbl := ⟨q_tb 468 (by decide +kernel), q_ts (n := 10) 16 (by decide +kernel)⟩
theorem k_La_takeAway : q_hd y_La_takeAway m_La_takeAway ∈ lw_tbl ∧ Cond.initialized y_La_takeAway.cls ∈ lw_tbl := ⟨q_tb 457 (by decide +kernel), q_tb 3 (by decide +kernel)⟩
theorem ms_La_takeAway : Cond.instanceMethod y_La_takeAway ∈ lw_tbl ∧ Cond.selects y_La_takeAway.cls y_La_takeAway y_La_takeAway ∈ lw_tbl := ⟨q_tb 456 (by decide +kernel), q_ts (n := 10) 13 (by decide +kernel)⟩
theorem k_La_countSteps : q_hd y_La_countSteps m_La_countSteps ∈ lw_tbl ∧ Cond.initialized y_La_countSteps.cls ∈ lw_tbl := ⟨q_tb 461 (by decide +kernel), q_tb 3 (by decide +kernel)⟩
theorem ms_La_countSteps : Cond.instanceMethod y_La_countSteps ∈ lw_tbl ∧ Cond.selects y_La_countSteps.cls y_La_countSteps y_La_countSteps ∈ lw_tbl := ⟨q_tb 460 (by decide +kernel), q_ts (n := 10) 14 (by decide +kernel)⟩
theorem k_La_reachBefore : q_hd y_La_reachBefore m_La_reachBefore ∈ lw_tbl ∧ Cond.initialized y_La_reachBefore.cls ∈ lw_tbl := ⟨q_tb 465 (by decide +kernel), q_tb 3 (by decide +kernel)⟩
theorem ms_La_reachBefore : Cond.instanceMethod y_La_reachBefore ∈ lw_tbl ∧ Cond.selects y_La_reachBefore.cls y_La_reachBefore y_La_reachBefore ∈ lw_tbl := ⟨q_tb 464 (by decide +kernel), q_ts (n := 10) 15 (by decide +kernel)⟩
theorem k_La_stepsFrom : q_hd y_La_stepsFrom m_La_stepsFrom ∈ lw_tbl ∧ Cond.initialized y_La_stepsFrom.cls ∈ lw_tbl := ⟨q_tb 473 (by decide +kernel), q_tb 3 (by decide +kernel)⟩
theorem ms_La_stepsFrom : Cond.instanceMethod y_La_stepsFrom ∈ lw_tbl ∧ Cond.selects y_La_stepsFrom.cls y_La_stepsFrom y_La_stepsFrom ∈ lw_tbl := ⟨q_tb 472 (by decide +kernel), q_ts (n := 10) 17 (by decide +kernel)⟩
theorem k_La_has : q_hd y_La_has m_La_has ∈ lw_tbl ∧ Cond.initialized y_La_has.cls ∈ lw_tbl := ⟨q_tb 500 (by decide +kernel), q_tb 3 (by decide +kernel)⟩
theorem ms_La_has : Cond.instanceMethod y_La_has ∈ lw_tbl ∧ Cond.selects y_La_has.cls y_La_has y_La_has ∈ lw_tbl := ⟨q_tb 498 (by decide +kernel), q_tb 499 (by decide +kernel)⟩
theorem k_La_size : q_hd y_La_size m_La_size ∈ lw_tbl ∧ Cond.initialized y_La_size.cls ∈ lw_tbl := ⟨q_tb 511 (by decide +kernel), q_tb 3 (by decide +kernel)⟩
theorem ms_La_size : Cond.instanceMethod y_La_size ∈ lw_tbl ∧ Cond.selects y_La_size.cls y_La_size y_La_size ∈ lw_tbl := ⟨q_tb 509 (by decide +kernel), q_tb 510 (by decide +kernel)⟩
theorem k_La_leastWhole : q_hd y_La_leastWhole m_La_leastWhole ∈ lw_tbl ∧ Cond.initialized y_La_leastWhole.cls ∈ lw_tbl := ⟨q_tb 484 (by decide +kernel), q_tb 3 (by decide +kernel)⟩
theorem ms_La_leastWhole : Cond.instanceMethod y_La_leastWhole ∈ lw_tbl ∧ Cond.selects y_La_leastWhole.cls y_La_leastWhole y_La_leastWhole ∈ lw_tbl := ⟨q_tb 482 (by decide +kernel), q_tb 483 (by decide +kernel)⟩
theorem k_La_dutyFrom : q_hd y_La_dutyFrom m_La_dutyFrom ∈ lw_tbl ∧ Cond.initialized y_La_dutyFrom.cls ∈ lw_tbl := ⟨q_tb 488 (by decide +kernel), q_tb 3 (by decide +kernel)⟩
theorem ms_La_dutyFrom : Cond.instanceMethod y_La_dutyFrom ∈ lw_tbl ∧ Cond.selects y_La_dutyFrom.cls y_La_dutyFrom y_La_dutyFrom ∈ lw_tbl := ⟨q_tb 486 (by decide +kernel), q_tb 487 (by decide +kernel)⟩
theorem k_La_nextFrom : q_hd y_La_nextFrom m_La_nextFrom ∈ lw_tbl ∧ Cond.initialized y_La_nextFrom.cls ∈ lw_tbl := ⟨q_tb 492 (by decide +kernel), q_tb 3 (by decide +kernel)⟩
theorem ms_La_nextFrom : Cond.instanceMethod y_La_nextFrom ∈ lw_tbl ∧ Cond.selects y_La_nextFrom.cls y_La_nextFrom y_La_nextFrom ∈ lw_tbl := ⟨q_tb 490 (by decide +kernel), q_tb 491 (by decide +kernel)⟩
theorem k_La_isNearer : q_hd y_La_isNearer m_La_isNearer ∈ lw_tbl ∧ Cond.initialized y_La_isNearer.cls ∈ lw_tbl := ⟨q_tb 496 (by decide +kernel), q_tb 3 (by decide +kernel)⟩
theorem ms_La_isNearer : Cond.instanceMethod y_La_isNearer ∈ lw_tbl ∧ Cond.selects y_La_isNearer.cls y_La_isNearer y_La_isNearer ∈ lw_tbl := ⟨q_tb 495 (by decide +kernel), q_ts (n := 10) 18 (by decide +kernel)⟩
theorem k_Li_countTyped : q_hd y_Li_countTyped m_Li_countTyped ∈ lw_tbl ∧ Cond.initialized y_Li_countTyped.cls ∈ lw_tbl := ⟨q_tb 186 (by decide +kernel), q_tb 2 (by decide +kernel)⟩
theorem ms_Li_countTyped : Cond.static y_Li_countTyped ∈ lw_tbl := q_tb 185 (by decide +kernel)
theorem k_Li_areVisible : q_hd y_Li_areVisible m_Li_areVisible ∈ lw_tbl ∧ Cond.initialized y_Li_areVisible.cls ∈ lw_tbl := ⟨q_tb 192 (by decide +kernel), q_tb 2 (by decide +kernel)⟩
theorem ms_Li_areVisible : Cond.static y_Li_areVisible ∈ lw_tbl := q_tb 191 (by decide +kernel)
theorem k_Li_byteOf : q_hd y_Li_byteOf m_Li_byteOf ∈ lw_tbl ∧ Cond.initialized y_Li_byteOf.cls ∈ lw_tbl := ⟨q_tb 189 (by decide +kernel), q_tb 2 (by decide +kernel)⟩
theorem ms_Li_byteOf : Cond.static y_Li_byteOf ∈ lw_tbl := q_tb 188 (by decide +kernel)
theorem k_Li_append : q_hd y_Li_append m_Li_append ∈ lw_tbl ∧ Cond.initialized y_Li_append.cls ∈ lw_tbl := ⟨q_tb 264 (by decide +kernel), q_tb 2 (by decide +kernel)⟩
theorem ms_Li_append : Cond.instanceMethod y_Li_append ∈ lw_tbl ∧ Cond.selects y_Li_append.cls y_Li_append y_Li_append ∈ lw_tbl := ⟨q_tb 262 (by decide +kernel), q_tb 263 (by decide +kernel)⟩
theorem k_Li_clear : q_hd y_Li_clear m_Li_clear ∈ lw_tbl ∧ Cond.initialized y_Li_clear.cls ∈ lw_tbl := ⟨q_tb 318 (by decide +kernel), q_tb 2 (by decide +kernel)⟩
theorem ms_Li_clear : Cond.instanceMethod y_Li_clear ∈ lw_tbl ∧ Cond.selects y_Li_clear.cls y_Li_clear y_Li_clear ∈ lw_tbl := ⟨q_tb 316 (by decide +kernel), q_tb 317 (by decide +kernel)⟩
theorem k_Li_signAt : q_hd y_Li_signAt m_Li_signAt ∈ lw_tbl ∧ Cond.initialized y_Li_signAt.cls ∈ lw_tbl := ⟨q_tb 287 (by decide +kernel), q_tb 2 (by decide +kernel)⟩
theorem ms_Li_signAt : Cond.instanceMethod y_Li_signAt ∈ lw_tbl ∧ Cond.selects y_Li_signAt.cls y_Li_signAt y_Li_signAt ∈ lw_tbl := ⟨q_tb 286 (by decide +kernel), q_ts (n := 3) 2 (by decide +kernel)⟩
theorem k_Li_temporalsBefore : q_hd y_Li_temporalsBefore m_Li_temporalsBefore ∈ lw_tbl ∧ Cond.initialized y_Li_temporalsBefore.cls ∈ lw_tbl := ⟨q_tb 283 (by decide +kernel), q_tb 2 (by decide +kernel)⟩
theorem ms_Li_temporalsBefore : Cond.instanceMethod y_Li_temporalsBefore ∈ lw_tbl ∧ Cond.selects y_Li_temporalsBefore.cls y_Li_temporalsBefore y_Li_temporalsBefore ∈ lw_tbl := ⟨q_tb 282 (by decide +kernel), q_ts (n := 3) 1 (by decide +kernel)⟩
theorem k_Li_readInto : q_hd y_Li_readInto m_Li_readInto ∈ lw_tbl ∧ Cond.initialized y_Li_readInto.cls ∈ lw_tbl := ⟨q_tb 275 (by decide +kernel), q_tb 2 (by decide +kernel)⟩
theorem ms_Li_readInto : Cond.instanceMethod y_Li_readInto ∈ lw_tbl ∧ Cond.selects y_Li_readInto.cls y_Li_readInto y_Li_readInto ∈ lw_tbl := ⟨q_tb 273 (by decide +kernel), q_tb 274 (by decide +kernel)⟩
theorem k_Li_readLevel : q_hd y_Li_readLevel m_Li_readLevel ∈ lw_tbl ∧ Cond.initialized y_Li_readLevel.cls ∈ lw_tbl := ⟨q_tb 294 (by decide +kernel), q_tb 2 (by decide +kernel)⟩
theorem ms_Li_readLevel : Cond.instanceMethod y_Li_readLevel ∈ lw_tbl ∧ Cond.selects y_Li_readLevel.cls y_Li_readLevel y_Li_readLevel ∈ lw_tbl := ⟨q_tb 293 (by decide +kernel), q_ts (n := 3) 3 (by decide +kernel)⟩
theorem k_Li_readSimple : q_hd y_Li_readSimple m_Li_readSimple ∈ lw_tbl ∧ Cond.initialized y_Li_readSimple.cls ∈ lw_tbl := ⟨q_tb 298 (by decide +kernel), q_tb 2 (by decide +kernel)⟩
theorem ms_Li_readSimple : Cond.instanceMethod y_Li_readSimple ∈ lw_tbl ∧ Cond.selects y_Li_readSimple.cls y_Li_readSimple y_Li_readSimple ∈ lw_tbl := ⟨q_tb 297 (by decide +kernel), q_ts (n := 3) 4 (by decide +kernel)⟩
theorem k_Li_readBracket : q_hd y_Li_readBracket m_Li_readBracket ∈ lw_tbl ∧ Cond.initialized y_Li_readBracket.cls ∈ lw_tbl := ⟨q_tb 307 (by decide +kernel), q_tb 2 (by decide +kernel)⟩
theorem ms_Li_readBracket : Cond.instanceMethod y_Li_readBracket ∈ lw_tbl ∧ Cond.selects y_Li_readBracket.cls y_Li_readBracket y_Li_readBracket ∈ lw_tbl := ⟨q_tb 306 (by decide +kernel), q_ts (n := 3) 5 (by decide +kernel)⟩
theorem k_Li_levelJoinedBy : q_hd y_Li_levelJoinedBy m_Li_levelJoinedBy ∈ lw_tbl ∧ Cond.initialized y_Li_levelJoinedBy.cls ∈ lw_tbl := ⟨q_tb 310 (by decide +kernel), q_tb 2 (by decide +kernel)⟩
theorem ms_Li_levelJoinedBy : Cond.static y_Li_levelJoinedBy ∈ lw_tbl := q_tb 309 (by decide +kernel)
theorem k_Wa_go : q_hd y_Wa_go m_Wa_go ∈ lw_tbl ∧ Cond.initialized y_Wa_go.cls ∈ lw_tbl := ⟨q_tb 477 (by decide +kernel), q_tb 4 (by decide +kernel)⟩
theorem ms_Wa_go : Cond.instanceMethod y_Wa_go ∈ lw_tbl ∧ Cond.selects y_Wa_go.cls y_Wa_go y_Wa_go ∈ lw_tbl := ⟨q_tb 475 (by decide +kernel), q_tb 476 (by decide +kernel)⟩
theorem k_Wa_exists : q_hd y_Wa_exists m_Wa_exists ∈ lw_tbl ∧ Cond.initialized y_Wa_exists.cls ∈ lw_tbl := ⟨q_tb 530 (by decide +kernel), q_tb 4 (by decide +kernel)⟩
theorem ms_Wa_exists : Cond.instanceMethod y_Wa_exists ∈ lw_tbl ∧ Cond.selects y_Wa_exists.cls y_Wa_exists y_Wa_exists ∈ lw_tbl := ⟨q_tb 528 (by decide +kernel), q_tb 529 (by decide +kernel)⟩
theorem k_Wa_stemLength : q_hd y_Wa_stemLength m_Wa_stemLength ∈ lw_tbl ∧ Cond.initialized y_Wa_stemLength.cls ∈ lw_tbl := ⟨q_tb 541 (by decide +kernel), q_tb 4 (by decide +kernel)⟩
theorem ms_Wa_stemLength : Cond.instanceMethod y_Wa_stemLength ∈ lw_tbl ∧ Cond.selects y_Wa_stemLength.cls y_Wa_stemLength y_Wa_stemLength ∈ lw_tbl := ⟨q_tb 539 (by decide +kernel), q_tb 540 (by decide +kernel)⟩
theorem k_Wa_loopLength : q_hd y_Wa_loopLength m_Wa_loopLength ∈ lw_tbl ∧ Cond.initialized y_Wa_loopLength.cls ∈ lw_tbl := ⟨q_tb 552 (by decide +kernel), q_tb 4 (by decide +kernel)⟩
theorem ms_Wa_loopLength : Cond.instanceMethod y_Wa_loopLength ∈ lw_tbl ∧ Cond.selects y_Wa_loopLength.cls y_Wa_loopLength y_Wa_loopLength ∈ lw_tbl := ⟨q_tb 550 (by decide +kernel), q_tb 551 (by decide +kernel)⟩
theorem k_Wa_size : q_hd y_Wa_size m_Wa_size ∈ lw_tbl ∧ Cond.initialized y_Wa_size.cls ∈ lw_tbl := ⟨q_tb 564 (by decide +kernel), q_tb 4 (by decide +kernel)⟩
theorem ms_Wa_size : Cond.instanceMethod y_Wa_size ∈ lw_tbl ∧ Cond.selects y_Wa_size.cls y_Wa_size y_Wa_size ∈ lw_tbl := ⟨q_tb 562 (by decide +kernel), q_tb 563 (by decide +kernel)⟩
theorem k_Wa_stateAt : q_hd y_Wa_stateAt m_Wa_stateAt ∈ lw_tbl ∧ Cond.initialized y_Wa_stateAt.cls ∈ lw_tbl := ⟨q_tb 570 (by decide +kernel), q_tb 4 (by decide +kernel)⟩
theorem ms_Wa_stateAt : Cond.instanceMethod y_Wa_stateAt ∈ lw_tbl ∧ Cond.selects y_Wa_stateAt.cls y_Wa_stateAt y_Wa_stateAt ∈ lw_tbl := ⟨q_tb 568 (by decide +kernel), q_tb 569 (by decide +kernel)⟩
theorem k_Lw_type : q_hd y_Lw_type m_Lw_type ∈ lw_tbl ∧ Cond.initialized y_Lw_type.cls ∈ lw_tbl := ⟨q_tb 178 (by decide +kernel), q_tb 0 (by decide +kernel)⟩
theorem ms_Lw_type : Cond.static y_Lw_type ∈ lw_tbl := q_tb 177 (by decide +kernel)
theorem k_Lw_formula : q_hd y_Lw_formula m_Lw_formula ∈ lw_tbl ∧ Cond.initialized y_Lw_formula.cls ∈ lw_tbl := ⟨q_tb 267 (by decide +kernel), q_tb 0 (by decide +kernel)⟩
theorem ms_Lw_formula : Cond.static y_Lw_formula ∈ lw_tbl := q_tb 266 (by decide +kernel)
theorem k_Lw_states : q_hd y_Lw_states m_Lw_states ∈ lw_tbl ∧ Cond.initialized y_Lw_states.cls ∈ lw_tbl := ⟨q_tb 326 (by decide +kernel), q_tb 0 (by decide +kernel)⟩
theorem ms_Lw_states : Cond.static y_Lw_states ∈ lw_tbl := q_tb 325 (by decide +kernel)
theorem k_Lw_isAt : q_hd y_Lw_isAt m_Lw_isAt ∈ lw_tbl ∧ Cond.initialized y_Lw_isAt.cls ∈ lw_tbl := ⟨q_tb 358 (by decide +kernel), q_tb 0 (by decide +kernel)⟩
theorem ms_Lw_isAt : Cond.static y_Lw_isAt ∈ lw_tbl := q_tb 357 (by decide +kernel)
theorem k_Lw_leads : q_hd y_Lw_leads m_Lw_leads ∈ lw_tbl ∧ Cond.initialized y_Lw_leads.cls ∈ lw_tbl := ⟨q_tb 401 (by decide +kernel), q_tb 0 (by decide +kernel)⟩
theorem ms_Lw_leads : Cond.static y_Lw_leads ∈ lw_tbl := q_tb 400 (by decide +kernel)
theorem k_Lw_lasts : q_hd y_Lw_lasts m_Lw_lasts ∈ lw_tbl ∧ Cond.initialized y_Lw_lasts.cls ∈ lw_tbl := ⟨q_tb 412 (by decide +kernel), q_tb 0 (by decide +kernel)⟩
theorem ms_Lw_lasts : Cond.static y_Lw_lasts ∈ lw_tbl := q_tb 411 (by decide +kernel)
theorem k_Lw_lasting : q_hd y_Lw_lasting m_Lw_lasting ∈ lw_tbl ∧ Cond.initialized y_Lw_lasting.cls ∈ lw_tbl := ⟨q_tb 503 (by decide +kernel), q_tb 0 (by decide +kernel)⟩
theorem ms_Lw_lasting : Cond.static y_Lw_lasting ∈ lw_tbl := q_tb 502 (by decide +kernel)
theorem k_Lw_promises : q_hd y_Lw_promises m_Lw_promises ∈ lw_tbl ∧ Cond.initialized y_Lw_promises.cls ∈ lw_tbl := ⟨q_tb 514 (by decide +kernel), q_tb 0 (by decide +kernel)⟩
theorem ms_Lw_promises : Cond.static y_Lw_promises ∈ lw_tbl := q_tb 513 (by decide +kernel)
theorem k_Lw_can : q_hd y_Lw_can m_Lw_can ∈ lw_tbl ∧ Cond.initialized y_Lw_can.cls ∈ lw_tbl := ⟨q_tb 522 (by decide +kernel), q_tb 0 (by decide +kernel)⟩
theorem ms_Lw_can : Cond.static y_Lw_can ∈ lw_tbl := q_tb 521 (by decide +kernel)
theorem k_Lw_stem : q_hd y_Lw_stem m_Lw_stem ∈ lw_tbl ∧ Cond.initialized y_Lw_stem.cls ∈ lw_tbl := ⟨q_tb 533 (by decide +kernel), q_tb 0 (by decide +kernel)⟩
theorem ms_Lw_stem : Cond.static y_Lw_stem ∈ lw_tbl := q_tb 532 (by decide +kernel)
theorem k_Lw_loop : q_hd y_Lw_loop m_Lw_loop ∈ lw_tbl ∧ Cond.initialized y_Lw_loop.cls ∈ lw_tbl := ⟨q_tb 544 (by decide +kernel), q_tb 0 (by decide +kernel)⟩
theorem ms_Lw_loop : Cond.static y_Lw_loop ∈ lw_tbl := q_tb 543 (by decide +kernel)
theorem k_Lw_step : q_hd y_Lw_step m_Lw_step ∈ lw_tbl ∧ Cond.initialized y_Lw_step.cls ∈ lw_tbl := ⟨q_tb 555 (by decide +kernel), q_tb 0 (by decide +kernel)⟩
theorem ms_Lw_step : Cond.static y_Lw_step ∈ lw_tbl := q_tb 554 (by decide +kernel)
theorem k_Lw_shape : q_hd y_Lw_shape m_Lw_shape ∈ lw_tbl ∧ Cond.initialized y_Lw_shape.cls ∈ lw_tbl := ⟨q_tb 573 (by decide +kernel), q_tb 0 (by decide +kernel)⟩
theorem ms_Lw_shape : Cond.static y_Lw_shape ∈ lw_tbl := q_tb 572 (by decide +kernel)
theorem k_Lw_set : q_hd y_Lw_set m_Lw_set ∈ lw_tbl ∧ Cond.initialized y_Lw_set.cls ∈ lw_tbl := ⟨q_tb 592 (by decide +kernel), q_tb 0 (by decide +kernel)⟩
theorem ms_Lw_set : Cond.static y_Lw_set ∈ lw_tbl := q_tb 591 (by decide +kernel)
theorem k_Lw_adopt : q_hd y_Lw_adopt m_Lw_adopt ∈ lw_tbl ∧ Cond.initialized y_Lw_adopt.cls ∈ lw_tbl := ⟨q_tb 605 (by decide +kernel), q_tb 0 (by decide +kernel)⟩
theorem ms_Lw_adopt : Cond.static y_Lw_adopt ∈ lw_tbl := q_tb 604 (by decide +kernel)
theorem k_Lw_letter : q_hd y_Lw_letter m_Lw_letter ∈ lw_tbl ∧ Cond.initialized y_Lw_letter.cls ∈ lw_tbl := ⟨q_tb 620 (by decide +kernel), q_tb 0 (by decide +kernel)⟩
theorem ms_Lw_letter : Cond.static y_Lw_letter ∈ lw_tbl := q_tb 619 (by decide +kernel)
theorem k_Lw_holds : q_hd y_Lw_holds m_Lw_holds ∈ lw_tbl ∧ Cond.initialized y_Lw_holds.cls ∈ lw_tbl := ⟨q_tb 640 (by decide +kernel), q_tb 0 (by decide +kernel)⟩
theorem ms_Lw_holds : Cond.static y_Lw_holds ∈ lw_tbl := q_tb 639 (by decide +kernel)
theorem k_Ar_fill : q_hd y_Ar_fill m_Ar_fill ∈ lw_tbl ∧ Cond.initialized y_Ar_fill.cls ∈ lw_tbl := ⟨q_tb 480 (by decide +kernel), q_tb 14 (by decide +kernel)⟩
theorem ms_Ar_fill : Cond.static y_Ar_fill ∈ lw_tbl := q_tb 479 (by decide +kernel)
theorem k_D_init : q_hd y_D_init m_D_init ∈ lw_tbl ∧ Cond.initialized y_D_init.cls ∈ lw_tbl := ⟨q_tb 19 (by decide +kernel), q_tb 1 (by decide +kernel)⟩
theorem k_Mo_init : q_hd y_Mo_init m_Mo_init ∈ lw_tbl ∧ Cond.initialized y_Mo_init.cls ∈ lw_tbl := ⟨q_tb 677 (by decide +kernel), q_tb 7 (by decide +kernel)⟩
theorem k_Fo_init : q_hd y_Fo_init m_Fo_init ∈ lw_tbl ∧ Cond.initialized y_Fo_init.cls ∈ lw_tbl := ⟨q_tb 118 (by decide +kernel), q_tb 6 (by decide +kernel)⟩
theorem k_Gw_init : q_hd y_Gw_init m_Gw_init ∈ lw_tbl ∧ Cond.initialized y_Gw_init.cls ∈ lw_tbl := ⟨q_tb 102 (by decide +kernel), q_tb 5 (by decide +kernel)⟩
theorem k_La_init : q_hd y_La_init m_La_init ∈ lw_tbl ∧ Cond.initialized y_La_init.cls ∈ lw_tbl := ⟨q_tb 44 (by decide +kernel), q_tb 3 (by decide +kernel)⟩
theorem k_Li_init : q_hd y_Li_init m_Li_init ∈ lw_tbl ∧ Cond.initialized y_Li_init.cls ∈ lw_tbl := ⟨q_tb 27 (by decide +kernel), q_tb 2 (by decide +kernel)⟩
theorem k_Wa_init : q_hd y_Wa_init m_Wa_init ∈ lw_tbl ∧ Cond.initialized y_Wa_init.cls ∈ lw_tbl := ⟨q_tb 83 (by decide +kernel), q_tb 4 (by decide +kernel)⟩
end
section
theorem fl_D_12 : q_FL "LassoDesk" 12 0 0 := ⟨_, _, _, rfl, by decide, q_tb 151 (by decide +kernel)⟩
theorem fl_D_19 : q_FL "LassoDesk" 19 0 1 := ⟨_, _, _, rfl, by decide, q_tb 152 (by decide +kernel)⟩
theorem fl_D_26 : q_FL "LassoDesk" 26 0 2 := ⟨_, _, _, rfl, by decide, q_tb 153 (by decide +kernel)⟩
theorem fl_D_33 : q_FL "LassoDesk" 33 0 3 := ⟨_, _, _, rfl, by decide, q_tb 154 (by decide +kernel)⟩
theorem fl_D_40 : q_FL "LassoDesk" 40 0 4 := ⟨_, _, _, rfl, by decide, q_tb 155 (by decide +kernel)⟩
theorem fl_D_44 : q_FL "LassoDesk" 44 0 5 := ⟨_, _, _, rfl, by decide, q_tb 156 (by decide +kernel)⟩
theorem fl_D_47 : q_FL "LassoDesk" 47 0 6 := ⟨_, _, _, rfl, by decide, q_tb 157 (by decide +kernel)⟩
theorem fl_D_51 : q_FL "LassoDesk" 51 0 7 := ⟨_, _, _, rfl, by decide, q_tb 158 (by decide +kernel)⟩
theorem fl_Fo_9 : q_FL "LassoDesk$Formula" 9 2 0 := ⟨_, _, _, rfl, by decide, q_tb 120 (by decide +kernel)⟩
theorem fl_Fo_15 : q_FL "LassoDesk$Formula" 15 2 1 := ⟨_, _, _, rfl, by decide, q_tb 121 (by decide +kernel)⟩
theorem fl_Fo_18 : q_FL "LassoDesk$Formula" 18 2 2 := ⟨_, _, _, rfl, by decide, q_tb 122 (by decide +kernel)⟩
theorem fl_Fo_21 : q_FL "LassoDesk$Formula" 21 2 3 := ⟨_, _, _, rfl, by decide, q_tb 123 (by decide +kernel)⟩
theorem fl_Fo_24 : q_FL "LassoDesk$Formula" 24 2 4 := ⟨_, _, _, rfl, by decide, q_tb 124 (by decide +kernel)⟩
theorem fl_Fo_27 : q_FL "LassoDesk$Formula" 27 2 5 := ⟨_, _, _, rfl, by decide, q_tb 125 (by decide +kernel)⟩
theorem fl_Fo_30 : q_FL "LassoDesk$Formula" 30 2 6 := ⟨_, _, _, rfl, by decide, q_tb 126 (by decide +kernel)⟩
theorem fl_Fo_33 : q_FL "LassoDesk$Formula" 33 2 7 := ⟨_, _, _, rfl, by decide, q_tb 127 (by decide +kernel)⟩
theorem fl_Fo_37 : q_FL "LassoDesk$Formula" 37 2 8 := ⟨_, _, _, rfl, by decide, q_tb 128 (by decide +kernel)⟩
theorem fl_Fo_40 : q_FL "LassoDesk$Formula" 40 2 9 := ⟨_, _, _, rfl, by decide, q_tb 129 (by decide +kernel)⟩
theorem fl_Gw_9 : q_FL "LassoDesk$GivenWord" 9 5 0 := ⟨_, _, _, rfl, by decide, q_tb 104 (by decide +kernel)⟩
theorem fl_Gw_15 : q_FL "LassoDesk$GivenWord" 15 5 1 := ⟨_, _, _, rfl, by decide, q_tb 105 (by decide +kernel)⟩
theorem fl_Gw_19 : q_FL "LassoDesk$GivenWord" 19 5 2 := ⟨_, _, _, rfl, by decide, q_tb 106 (by decide +kernel)⟩
theorem fl_La_9 : q_FL "LassoDesk$Lasting" 9 3 0 := ⟨_, _, _, rfl, by decide, q_tb 46 (by decide +kernel)⟩
theorem fl_La_15 : q_FL "LassoDesk$Lasting" 15 3 1 := ⟨_, _, _, rfl, by decide, q_tb 47 (by decide +kernel)⟩
theorem fl_La_18 : q_FL "LassoDesk$Lasting" 18 3 2 := ⟨_, _, _, rfl, by decide, q_tb 48 (by decide +kernel)⟩
theorem fl_La_21 : q_FL "LassoDesk$Lasting" 21 3 3 := ⟨_, _, _, rfl, by decide, q_tb 49 (by decide +kernel)⟩
theorem fl_La_25 : q_FL "LassoDesk$Lasting" 25 3 4 := ⟨_, _, _, rfl, by decide, q_tb 50 (by decide +kernel)⟩
theorem fl_La_28 : q_FL "LassoDesk$Lasting" 28 3 5 := ⟨_, _, _, rfl, by decide, q_tb 51 (by decide +kernel)⟩
theorem fl_La_31 : q_FL "LassoDesk$Lasting" 31 3 6 := ⟨_, _, _, rfl, by decide, q_tb 52 (by decide +kernel)⟩
theorem fl_La_34 : q_FL "LassoDesk$Lasting" 34 3 7 := ⟨_, _, _, rfl, by decide, q_tb 53 (by decide +kernel)⟩
theorem fl_La_38 : q_FL "LassoDesk$Lasting" 38 3 8 := ⟨_, _, _, rfl, by decide, q_tb 54 (by decide +kernel)⟩
theorem fl_La_41 : q_FL "LassoDesk$Lasting" 41 3 9 := ⟨_, _, _, rfl, by decide, q_tb 55 (by decide +kernel)⟩
theorem fl_Li_9 : q_FL "LassoDesk$Line" 9 1 0 := ⟨_, _, _, rfl, by decide, q_tb 29 (by decide +kernel)⟩
theorem fl_Li_15 : q_FL "LassoDesk$Line" 15 1 1 := ⟨_, _, _, rfl, by decide, q_tb 30 (by decide +kernel)⟩
theorem fl_Li_19 : q_FL "LassoDesk$Line" 19 1 2 := ⟨_, _, _, rfl, by decide, q_tb 31 (by decide +kernel)⟩
theorem fl_Wa_11 : q_FL "LassoDesk$Walk" 11 4 0 := ⟨_, _, _, rfl, by decide, q_tb 85 (by decide +kernel)⟩
theorem fl_Wa_15 : q_FL "LassoDesk$Walk" 15 4 1 := ⟨_, _, _, rfl, by decide, q_tb 86 (by decide +kernel)⟩
theorem fl_Wa_18 : q_FL "LassoDesk$Walk" 18 4 2 := ⟨_, _, _, rfl, by decide, q_tb 87 (by decide +kernel)⟩
theorem fl_Wa_22 : q_FL "LassoDesk$Walk" 22 4 3 := ⟨_, _, _, rfl, by decide, q_tb 88 (by decide +kernel)⟩
theorem fl_Mo_7 : q_FL "LassoDeskModel" 7 6 1 := ⟨_, _, _, rfl, by decide, q_tb 680 (by decide +kernel)⟩
theorem fl_Mo_13 : q_FL "LassoDeskModel" 13 6 5 := ⟨_, _, _, rfl, by decide, q_tb 684 (by decide +kernel)⟩
theorem fl_Mo_16 : q_FL "LassoDeskModel" 16 6 6 := ⟨_, _, _, rfl, by decide, q_tb 685 (by decide +kernel)⟩
theorem fl_Mo_19 : q_FL "LassoDeskModel" 19 6 7 := ⟨_, _, _, rfl, by decide, q_tb 686 (by decide +kernel)⟩
theorem fl_Mo_22 : q_FL "LassoDeskModel" 22 6 8 := ⟨_, _, _, rfl, by decide, q_tb 687 (by decide +kernel)⟩
theorem fl_Mo_25 : q_FL "LassoDeskModel" 25 6 10 := ⟨_, _, _, rfl, by decide, q_tb 689 (by decide +kernel)⟩
theorem fl_Mo_28 : q_FL "LassoDeskModel" 28 6 12 := ⟨_, _, _, rfl, by decide, q_tb 691 (by decide +kernel)⟩
theorem fl_Mo_31 : q_FL "LassoDeskModel" 31 6 14 := ⟨_, _, _, rfl, by decide, q_tb 693 (by decide +kernel)⟩
theorem fl_Mo_34 : q_FL "LassoDeskModel" 34 6 15 := ⟨_, _, _, rfl, by decide, q_tb 694 (by decide +kernel)⟩
theorem fl_Mo_37 : q_FL "LassoDeskModel" 37 6 16 := ⟨_, _, _, rfl, by decide, q_tb 695 (by decide +kernel)⟩
theorem fl_Mo_40 : q_FL "LassoDeskModel" 40 6 17 := ⟨_, _, _, rfl, by decide, q_tb 696 (by decide +kernel)⟩
theorem fl_Mo_43 : q_FL "LassoDeskModel" 43 6 19 := ⟨_, _, _, rfl, by decide, q_tb 698 (by decide +kernel)⟩
theorem fl_Mo_46 : q_FL "LassoDeskModel" 46 6 21 := ⟨_, _, _, rfl, by decide, q_tb 700 (by decide +kernel)⟩
theorem fl_Mo_49 : q_FL "LassoDeskModel" 49 6 23 := ⟨_, _, _, rfl, by decide, q_tb 702 (by decide +kernel)⟩
theorem fl_Mo_52 : q_FL "LassoDeskModel" 52 6 24 := ⟨_, _, _, rfl, by decide, q_tb 703 (by decide +kernel)⟩
theorem fl_Mo_56 : q_FL "LassoDeskModel" 56 6 25 := ⟨_, _, _, rfl, by decide, q_tb 704 (by decide +kernel)⟩
theorem fl_Mo_59 : q_FL "LassoDeskModel" 59 6 26 := ⟨_, _, _, rfl, by decide, q_tb 705 (by decide +kernel)⟩
theorem fl_Mo_62 : q_FL "LassoDeskModel" 62 6 27 := ⟨_, _, _, rfl, by decide, q_tb 706 (by decide +kernel)⟩
theorem fl_Mo_65 : q_FL "LassoDeskModel" 65 6 28 := ⟨_, _, _, rfl, by decide, q_tb 707 (by decide +kernel)⟩
theorem fl_Mo_68 : q_FL "LassoDeskModel" 68 6 29 := ⟨_, _, _, rfl, by decide, q_tb 708 (by decide +kernel)⟩
theorem fl_Mo_71 : q_FL "LassoDeskModel" 71 6 30 := ⟨_, _, _, rfl, by decide, q_tb 709 (by decide +kernel)⟩
theorem fl_Mo_74 : q_FL "LassoDeskModel" 74 6 31 := ⟨_, _, _, rfl, by decide, q_tb 710 (by decide +kernel)⟩
theorem fl_Mo_77 : q_FL "LassoDeskModel" 77 6 34 := ⟨_, _, _, rfl, by decide, q_tb 713 (by decide +kernel)⟩
theorem fl_Mo_80 : q_FL "LassoDeskModel" 80 6 35 := ⟨_, _, _, rfl, by decide, q_tb 714 (by decide +kernel)⟩
theorem fl_Mo_83 : q_FL "LassoDeskModel" 83 6 38 := ⟨_, _, _, rfl, by decide, q_tb 717 (by decide +kernel)⟩
theorem fl_Mo_86 : q_FL "LassoDeskModel" 86 6 39 := ⟨_, _, _, rfl, by decide, q_tb 718 (by decide +kernel)⟩
theorem fl_Mo_89 : q_FL "LassoDeskModel" 89 6 37 := ⟨_, _, _, rfl, by decide, q_tb 716 (by decide +kernel)⟩
theorem fl_Mo_93 : q_FL "LassoDeskModel" 93 6 0 := ⟨_, _, _, rfl, by decide, q_tb 679 (by decide +kernel)⟩
theorem fl_Mo_96 : q_FL "LassoDeskModel" 96 6 2 := ⟨_, _, _, rfl, by decide, q_tb 681 (by decide +kernel)⟩
theorem fl_Mo_99 : q_FL "LassoDeskModel" 99 6 13 := ⟨_, _, _, rfl, by decide, q_tb 692 (by decide +kernel)⟩
theorem fl_Mo_102 : q_FL "LassoDeskModel" 102 6 20 := ⟨_, _, _, rfl, by decide, q_tb 699 (by decide +kernel)⟩
theorem fl_Mo_105 : q_FL "LassoDeskModel" 105 6 22 := ⟨_, _, _, rfl, by decide, q_tb 701 (by decide +kernel)⟩
theorem fl_Mo_120 : q_FL "LassoDeskModel" 120 6 18 := ⟨_, _, _, rfl, by decide, q_tb 697 (by decide +kernel)⟩
theorem fl_Mo_146 : q_FL "LassoDeskModel" 146 6 3 := ⟨_, _, _, rfl, by decide, q_tb 682 (by decide +kernel)⟩
theorem fl_Mo_150 : q_FL "LassoDeskModel" 150 6 4 := ⟨_, _, _, rfl, by decide, q_tb 683 (by decide +kernel)⟩
theorem fl_Mo_153 : q_FL "LassoDeskModel" 153 6 9 := ⟨_, _, _, rfl, by decide, q_tb 688 (by decide +kernel)⟩
theorem fl_Mo_156 : q_FL "LassoDeskModel" 156 6 11 := ⟨_, _, _, rfl, by decide, q_tb 690 (by decide +kernel)⟩
theorem fl_Mo_192 : q_FL "LassoDeskModel" 192 6 32 := ⟨_, _, _, rfl, by decide, q_tb 711 (by decide +kernel)⟩
theorem fl_Mo_195 : q_FL "LassoDeskModel" 195 6 33 := ⟨_, _, _, rfl, by decide, q_tb 712 (by decide +kernel)⟩
theorem fl_Mo_215 : q_FL "LassoDeskModel" 215 6 36 := ⟨_, _, _, rfl, by decide, q_tb 715 (by decide +kernel)⟩
theorem ml_D_54 : Cond.methodLink "LassoDesk" 54 y_Li_countTyped ∈ lw_tbl := q_tb 184 (by decide +kernel)
theorem ml_D_58 : Cond.methodLink "LassoDesk" 58 y_Li_areVisible ∈ lw_tbl := q_tb 190 (by decide +kernel)
theorem ml_D_69 : Cond.methodLink "LassoDesk" 69 y_Li_append ∈ lw_tbl := q_tb 261 (by decide +kernel)
theorem ml_D_72 : Cond.methodLink "LassoDesk" 72 y_Li_readInto ∈ lw_tbl := q_tb 272 (by decide +kernel)
theorem ml_D_76 : Cond.methodLink "LassoDesk" 76 y_Li_clear ∈ lw_tbl := q_tb 315 (by decide +kernel)
theorem ml_D_81 : Cond.methodLink "LassoDesk" 81 y_Fo_size ∈ lw_tbl := q_tb 320 (by decide +kernel)
theorem ml_D_85 : Cond.methodLink "LassoDesk" 85 y_D_requireFormula ∈ lw_tbl := q_tb 332 (by decide +kernel)
theorem ml_D_88 : Cond.methodLink "LassoDesk" 88 y_Fo_stateCount ∈ lw_tbl := q_tb 352 (by decide +kernel)
theorem ml_D_91 : Cond.methodLink "LassoDesk" 91 y_D_requireState ∈ lw_tbl := q_tb 364 (by decide +kernel)
theorem ml_D_95 : Cond.methodLink "LassoDesk" 95 y_Fo_partsAt ∈ lw_tbl := q_tb 384 (by decide +kernel)
theorem ml_D_98 : Cond.methodLink "LassoDesk" 98 y_Fo_isWholeIn ∈ lw_tbl := q_tb 395 (by decide +kernel)
theorem ml_D_102 : Cond.methodLink "LassoDesk" 102 y_Fo_expectedBefore ∈ lw_tbl := q_tb 406 (by decide +kernel)
theorem ml_D_105 : Cond.methodLink "LassoDesk" 105 y_D_settle ∈ lw_tbl := q_tb 417 (by decide +kernel)
theorem ml_D_108 : Cond.methodLink "LassoDesk" 108 y_La_has ∈ lw_tbl := q_tb 497 (by decide +kernel)
theorem ml_D_111 : Cond.methodLink "LassoDesk" 111 y_La_size ∈ lw_tbl := q_tb 508 (by decide +kernel)
theorem ml_D_112 : Cond.methodLink "LassoDesk" 112 y_Fo_promiseCount ∈ lw_tbl := q_tb 519 (by decide +kernel)
theorem ml_D_115 : Cond.methodLink "LassoDesk" 115 y_Wa_exists ∈ lw_tbl := q_tb 527 (by decide +kernel)
theorem ml_D_119 : Cond.methodLink "LassoDesk" 119 y_Wa_stemLength ∈ lw_tbl := q_tb 538 (by decide +kernel)
theorem ml_D_122 : Cond.methodLink "LassoDesk" 122 y_Wa_loopLength ∈ lw_tbl := q_tb 549 (by decide +kernel)
theorem ml_D_130 : Cond.methodLink "LassoDesk" 130 y_Wa_size ∈ lw_tbl := q_tb 561 (by decide +kernel)
theorem ml_D_136 : Cond.methodLink "LassoDesk" 136 y_Wa_stateAt ∈ lw_tbl := q_tb 567 (by decide +kernel)
theorem ml_D_139 : Cond.methodLink "LassoDesk" 139 y_Gw_fits ∈ lw_tbl := q_tb 578 (by decide +kernel)
theorem ml_D_144 : Cond.methodLink "LassoDesk" 144 y_Gw_reshape ∈ lw_tbl := q_tb 582 (by decide +kernel)
theorem ml_D_148 : Cond.methodLink "LassoDesk" 148 y_Gw_size ∈ lw_tbl := q_tb 597 (by decide +kernel)
theorem ml_D_151 : Cond.methodLink "LassoDesk" 151 y_Gw_replace ∈ lw_tbl := q_tb 599 (by decide +kernel)
theorem ml_D_155 : Cond.methodLink "LassoDesk" 155 y_Gw_take ∈ lw_tbl := q_tb 610 (by decide +kernel)
theorem ml_D_159 : Cond.methodLink "LassoDesk" 159 y_D_requirePlace ∈ lw_tbl := q_tb 625 (by decide +kernel)
theorem ml_D_162 : Cond.methodLink "LassoDesk" 162 y_Gw_letterAt ∈ lw_tbl := q_tb 630 (by decide +kernel)
theorem ml_D_165 : Cond.methodLink "LassoDesk" 165 y_Fo_placesOn ∈ lw_tbl := q_tb 645 (by decide +kernel)
theorem ml_D_169 : Cond.methodLink "LassoDesk" 169 y_Gw_indexOf ∈ lw_tbl := q_tb 671 (by decide +kernel)
theorem ml_D_172 : Cond.methodLink "LassoDesk" 172 y_D_hasBit ∈ lw_tbl := q_tb 672 (by decide +kernel)
theorem ml_D_181 : Cond.methodLink "LassoDesk" 181 y_La_find ∈ lw_tbl := q_tb 421 (by decide +kernel)
theorem ml_D_185 : Cond.methodLink "LassoDesk" 185 y_Wa_go ∈ lw_tbl := q_tb 474 (by decide +kernel)
theorem ml_Fo_43 : Cond.methodLinkNest "LassoDesk$Formula" 43 y_D_isTemporal "LassoDesk" ∈ lw_tbl := q_tb 303 (by decide +kernel)
theorem ml_Fo_47 : Cond.methodLinkNest "LassoDesk$Formula" 47 y_D_hasBit "LassoDesk" ∈ lw_tbl := q_tb 392 (by decide +kernel)
theorem ml_Fo_51 : Cond.methodLink "LassoDesk$Formula" 51 y_Fo_isPartAt ∈ lw_tbl := q_tb 388 (by decide +kernel)
theorem ml_Fo_55 : Cond.methodLink "LassoDesk$Formula" 55 y_Fo_isForOnce ∈ lw_tbl := q_tb 440 (by decide +kernel)
theorem ml_Fo_58 : Cond.methodLink "LassoDesk$Formula" 58 y_Fo_partPlaces ∈ lw_tbl := q_tb 649 (by decide +kernel)
theorem ml_Fo_62 : Cond.methodLink "LassoDesk$Formula" 62 y_Gw_allPlaces ∈ lw_tbl := q_tb 653 (by decide +kernel)
theorem ml_Fo_68 : Cond.methodLink "LassoDesk$Formula" 68 y_Gw_placesWith ∈ lw_tbl := q_tb 657 (by decide +kernel)
theorem ml_Fo_72 : Cond.methodLink "LassoDesk$Formula" 72 y_Gw_placesBefore ∈ lw_tbl := q_tb 662 (by decide +kernel)
theorem ml_Fo_75 : Cond.methodLink "LassoDesk$Formula" 75 y_Gw_placesUntil ∈ lw_tbl := q_tb 666 (by decide +kernel)
theorem ml_Gw_22 : Cond.methodLink "LassoDesk$GivenWord" 22 y_Gw_size ∈ lw_tbl := q_tb 586 (by decide +kernel)
theorem ml_Gw_26 : Cond.methodLink "LassoDesk$GivenWord" 26 y_Wa_stemLength ∈ lw_tbl := q_tb 614 (by decide +kernel)
theorem ml_Gw_30 : Cond.methodLink "LassoDesk$GivenWord" 30 y_Wa_loopLength ∈ lw_tbl := q_tb 615 (by decide +kernel)
theorem ml_Gw_32 : Cond.methodLink "LassoDesk$GivenWord" 32 y_Gw_reshape ∈ lw_tbl := q_tb 616 (by decide +kernel)
theorem ml_Gw_36 : Cond.methodLink "LassoDesk$GivenWord" 36 y_Wa_stateAt ∈ lw_tbl := q_tb 617 (by decide +kernel)
theorem ml_Gw_40 : Cond.methodLink "LassoDesk$GivenWord" 40 y_Gw_indexOf ∈ lw_tbl := q_tb 634 (by decide +kernel)
theorem ml_Gw_43 : Cond.methodLinkNest "LassoDesk$GivenWord" 43 y_D_hasBit "LassoDesk" ∈ lw_tbl := q_tb 661 (by decide +kernel)
theorem ml_Gw_47 : Cond.methodLink "LassoDesk$GivenWord" 47 y_Gw_placesBefore ∈ lw_tbl := q_tb 670 (by decide +kernel)
theorem ml_La_44 : Cond.methodLink "LassoDesk$Lasting" 44 y_La_lookAtStates ∈ lw_tbl := q_tb 425 (by decide +kernel)
theorem ml_La_48 : Cond.methodLink "LassoDesk$Lasting" 48 y_La_sweepDeadEnds ∈ lw_tbl := q_tb 449 (by decide +kernel)
theorem ml_La_51 : Cond.methodLink "LassoDesk$Lasting" 51 y_La_countSteps ∈ lw_tbl := q_tb 458 (by decide +kernel)
theorem ml_La_55 : Cond.methodLink "LassoDesk$Lasting" 55 y_La_sweepUnkept ∈ lw_tbl := q_tb 466 (by decide +kernel)
theorem ml_La_58 : Cond.methodLink "LassoDesk$Lasting" 58 y_Fo_stateCount ∈ lw_tbl := q_tb 429 (by decide +kernel)
theorem ml_La_64 : Cond.methodLink "LassoDesk$Lasting" 64 y_Fo_promiseCount ∈ lw_tbl := q_tb 430 (by decide +kernel)
theorem ml_La_67 : Cond.methodLink "LassoDesk$Lasting" 67 y_Fo_partsAt ∈ lw_tbl := q_tb 434 (by decide +kernel)
theorem ml_La_71 : Cond.methodLink "LassoDesk$Lasting" 71 y_Fo_expectedBefore ∈ lw_tbl := q_tb 435 (by decide +kernel)
theorem ml_La_74 : Cond.methodLink "LassoDesk$Lasting" 74 y_Fo_keptIn ∈ lw_tbl := q_tb 436 (by decide +kernel)
theorem ml_La_77 : Cond.methodLink "LassoDesk$Lasting" 77 y_Fo_openIn ∈ lw_tbl := q_tb 444 (by decide +kernel)
theorem ml_La_80 : Cond.methodLink "LassoDesk$Lasting" 80 y_Fo_isWholeIn ∈ lw_tbl := q_tb 448 (by decide +kernel)
theorem ml_La_84 : Cond.methodLinkNest "LassoDesk$Lasting" 84 y_D_hasBit "LassoDesk" ∈ lw_tbl := q_tb 453 (by decide +kernel)
theorem ml_La_88 : Cond.methodLink "LassoDesk$Lasting" 88 y_La_takeAway ∈ lw_tbl := q_tb 454 (by decide +kernel)
theorem ml_La_91 : Cond.methodLink "LassoDesk$Lasting" 91 y_La_stepsFrom ∈ lw_tbl := q_tb 470 (by decide +kernel)
theorem ml_La_95 : Cond.methodLink "LassoDesk$Lasting" 95 y_La_reachBefore ∈ lw_tbl := q_tb 462 (by decide +kernel)
theorem ml_La_99 : Cond.methodLink "LassoDesk$Lasting" 99 y_La_isNearer ∈ lw_tbl := q_tb 493 (by decide +kernel)
theorem ml_Li_22 : Cond.methodLink "LassoDesk$Line" 22 y_Li_byteOf ∈ lw_tbl := q_tb 187 (by decide +kernel)
theorem ml_Li_26 : Cond.methodLink "LassoDesk$Line" 26 y_Li_signAt ∈ lw_tbl := q_tb 284 (by decide +kernel)
theorem ml_Li_30 : Cond.methodLinkNest "LassoDesk$Line" 30 y_D_isTemporal "LassoDesk" ∈ lw_tbl := q_tb 288 (by decide +kernel)
theorem ml_Li_34 : Cond.methodLink "LassoDesk$Line" 34 y_Fo_clear ∈ lw_tbl := q_tb 276 (by decide +kernel)
theorem ml_Li_39 : Cond.methodLink "LassoDesk$Line" 39 y_Li_temporalsBefore ∈ lw_tbl := q_tb 280 (by decide +kernel)
theorem ml_Li_42 : Cond.methodLink "LassoDesk$Line" 42 y_Li_readLevel ∈ lw_tbl := q_tb 291 (by decide +kernel)
theorem ml_Li_46 : Cond.methodLink "LassoDesk$Line" 46 y_Fo_listPromises ∈ lw_tbl := q_tb 311 (by decide +kernel)
theorem ml_Li_49 : Cond.methodLink "LassoDesk$Line" 49 y_Li_readSimple ∈ lw_tbl := q_tb 295 (by decide +kernel)
theorem ml_Li_53 : Cond.methodLink "LassoDesk$Line" 53 y_Li_levelJoinedBy ∈ lw_tbl := q_tb 308 (by decide +kernel)
theorem ml_Li_56 : Cond.methodLink "LassoDesk$Line" 56 y_Fo_add ∈ lw_tbl := q_tb 299 (by decide +kernel)
theorem ml_Li_60 : Cond.methodLink "LassoDesk$Line" 60 y_Li_readBracket ∈ lw_tbl := q_tb 304 (by decide +kernel)
theorem ml_Wa_25 : Cond.methodLink "LassoDesk$Walk" 25 y_Ar_fill ∈ lw_tbl := q_tb 478 (by decide +kernel)
theorem ml_Wa_31 : Cond.methodLink "LassoDesk$Walk" 31 y_La_leastWhole ∈ lw_tbl := q_tb 481 (by decide +kernel)
theorem ml_Wa_37 : Cond.methodLink "LassoDesk$Walk" 37 y_La_dutyFrom ∈ lw_tbl := q_tb 485 (by decide +kernel)
theorem ml_Wa_41 : Cond.methodLink "LassoDesk$Walk" 41 y_La_nextFrom ∈ lw_tbl := q_tb 489 (by decide +kernel)
theorem ml_Wa_44 : Cond.methodLink "LassoDesk$Walk" 44 y_Wa_exists ∈ lw_tbl := q_tb 565 (by decide +kernel)
theorem ml_Lw_7 : Cond.methodLink "LassoDeskLaw" 7 y_D_type ∈ lw_tbl := q_tb 180 (by decide +kernel)
theorem ml_Lw_15 : Cond.methodLink "LassoDeskLaw" 15 y_D_formula ∈ lw_tbl := q_tb 268 (by decide +kernel)
theorem ml_Lw_19 : Cond.methodLink "LassoDeskLaw" 19 y_D_states ∈ lw_tbl := q_tb 328 (by decide +kernel)
theorem ml_Lw_24 : Cond.methodLink "LassoDeskLaw" 24 y_D_isAt ∈ lw_tbl := q_tb 360 (by decide +kernel)
theorem ml_Lw_29 : Cond.methodLink "LassoDeskLaw" 29 y_D_leads ∈ lw_tbl := q_tb 402 (by decide +kernel)
theorem ml_Lw_33 : Cond.methodLink "LassoDeskLaw" 33 y_D_lasts ∈ lw_tbl := q_tb 413 (by decide +kernel)
theorem ml_Lw_36 : Cond.methodLink "LassoDeskLaw" 36 y_D_lasting ∈ lw_tbl := q_tb 504 (by decide +kernel)
theorem ml_Lw_39 : Cond.methodLink "LassoDeskLaw" 39 y_D_promises ∈ lw_tbl := q_tb 515 (by decide +kernel)
theorem ml_Lw_42 : Cond.methodLink "LassoDeskLaw" 42 y_D_can ∈ lw_tbl := q_tb 523 (by decide +kernel)
theorem ml_Lw_46 : Cond.methodLink "LassoDeskLaw" 46 y_D_stem ∈ lw_tbl := q_tb 534 (by decide +kernel)
theorem ml_Lw_49 : Cond.methodLink "LassoDeskLaw" 49 y_D_loop ∈ lw_tbl := q_tb 545 (by decide +kernel)
theorem ml_Lw_52 : Cond.methodLink "LassoDeskLaw" 52 y_D_step ∈ lw_tbl := q_tb 556 (by decide +kernel)
theorem ml_Lw_56 : Cond.methodLink "LassoDeskLaw" 56 y_D_shape ∈ lw_tbl := q_tb 574 (by decide +kernel)
theorem ml_Lw_60 : Cond.methodLink "LassoDeskLaw" 60 y_D_set ∈ lw_tbl := q_tb 593 (by decide +kernel)
theorem ml_Lw_64 : Cond.methodLink "LassoDeskLaw" 64 y_D_adopt ∈ lw_tbl := q_tb 606 (by decide +kernel)
theorem ml_Lw_67 : Cond.methodLink "LassoDeskLaw" 67 y_D_letter ∈ lw_tbl := q_tb 621 (by decide +kernel)
theorem ml_Lw_70 : Cond.methodLink "LassoDeskLaw" 70 y_D_holds ∈ lw_tbl := q_tb 641 (by decide +kernel)
theorem ml_Mo_108 : Cond.methodLink "LassoDeskModel" 108 y_Mo_tightness ∈ lw_tbl := q_tb 837 (by decide +kernel)
theorem ml_Mo_112 : Cond.methodLink "LassoDeskModel" 112 y_Mo_taken ∈ lw_tbl := q_tb 840 (by decide +kernel)
theorem ml_Mo_116 : Cond.methodLink "LassoDeskModel" 116 y_Mo_part ∈ lw_tbl := q_tb 819 (by decide +kernel)
theorem ml_Mo_123 : Cond.methodLink "LassoDeskModel" 123 y_Mo_isTemporal ∈ lw_tbl := q_tb 830 (by decide +kernel)
theorem ml_Mo_127 : Cond.methodLink "LassoDeskModel" 127 y_Mo_leafOf ∈ lw_tbl := q_tb 816 (by decide +kernel)
theorem ml_Mo_130 : Cond.methodLink "LassoDeskModel" 130 y_Mo_prefixOf ∈ lw_tbl := q_tb 823 (by decide +kernel)
theorem ml_Mo_133 : Cond.methodLink "LassoDeskModel" 133 y_Mo_push ∈ lw_tbl := q_tb 826 (by decide +kernel)
theorem ml_Mo_137 : Cond.methodLink "LassoDeskModel" 137 y_Mo_settle ∈ lw_tbl := q_tb 833 (by decide +kernel)
theorem ml_Mo_140 : Cond.methodLink "LassoDeskModel" 140 y_Mo_signOf ∈ lw_tbl := q_tb 844 (by decide +kernel)
theorem ml_Mo_143 : Cond.methodLink "LassoDeskModel" 143 y_Mo_reads ∈ lw_tbl := q_tb 812 (by decide +kernel)
theorem ml_Mo_159 : Cond.methodLink "LassoDeskModel" 159 y_Mo_count ∈ lw_tbl := q_tb 847 (by decide +kernel)
theorem ml_Mo_162 : Cond.methodLink "LassoDeskModel" 162 y_Mo_look ∈ lw_tbl := q_tb 851 (by decide +kernel)
theorem ml_Mo_165 : Cond.methodLink "LassoDeskModel" 165 y_Mo_takeOut ∈ lw_tbl := q_tb 859 (by decide +kernel)
theorem ml_Mo_168 : Cond.methodLink "LassoDeskModel" 168 y_Mo_goWalk ∈ lw_tbl := q_tb 875 (by decide +kernel)
theorem ml_Mo_171 : Cond.methodLink "LassoDeskModel" 171 y_Mo_valueOf ∈ lw_tbl := q_tb 855 (by decide +kernel)
theorem ml_Mo_175 : Cond.methodLink "LassoDeskModel" 175 y_Mo_noteSome ∈ lw_tbl := q_tb 867 (by decide +kernel)
theorem ml_Mo_178 : Cond.methodLink "LassoDeskModel" 178 y_Mo_leadsToOne ∈ lw_tbl := q_tb 871 (by decide +kernel)
theorem ml_Mo_181 : Cond.methodLink "LassoDeskModel" 181 y_Mo_countSteps ∈ lw_tbl := q_tb 863 (by decide +kernel)
theorem ml_Mo_184 : Cond.methodLink "LassoDeskModel" 184 y_Mo_isDue ∈ lw_tbl := q_tb 887 (by decide +kernel)
theorem ml_Mo_189 : Cond.methodLink "LassoDeskModel" 189 y_Mo_goes ∈ lw_tbl := q_tb 896 (by decide +kernel)
theorem ml_Mo_198 : Cond.methodLink "LassoDeskModel" 198 y_Mo_firstState ∈ lw_tbl := q_tb 879 (by decide +kernel)
theorem ml_Mo_201 : Cond.methodLink "LassoDeskModel" 201 y_Mo_dutyAt ∈ lw_tbl := q_tb 883 (by decide +kernel)
theorem ml_Mo_205 : Cond.methodLink "LassoDeskModel" 205 y_Mo_nextOf ∈ lw_tbl := q_tb 891 (by decide +kernel)
theorem ml_Mo_208 : Cond.methodLink "LassoDeskModel" 208 y_Mo_refused ∈ lw_tbl := q_tb 904 (by decide +kernel)
theorem ml_Mo_212 : Cond.methodLink "LassoDeskModel" 212 y_Mo_isState ∈ lw_tbl := q_tb 912 (by decide +kernel)
theorem ml_Mo_218 : Cond.methodLink "LassoDeskModel" 218 y_Mo_placeOf ∈ lw_tbl := q_tb 964 (by decide +kernel)
theorem ml_Mo_221 : Cond.methodLink "LassoDeskModel" 221 y_Mo_spread ∈ lw_tbl := q_tb 972 (by decide +kernel)
end
section
/-! THE WORLD AS IT STANDS ONCE IT IS MADE: c, d: the places of the formula that holds and of the draft; x: the law's answer cell, and a number for each place and slot. Rows of the abstract walk over it, each with the equation of the method's function. -/
abbrev q_W : Type := Int64 × (Nat → Nat → Int32)
def q_wr (x : q_W) (p k : Nat) (v : Int32) : q_W := (x.1, fun p' => if p' = p then upd (x.2 p) k v else x.2 p')
def q_ld (x : q_W) (p n : Nat) (i : Int32) : Option Int32 := if i < 0 ∨ n ≤ i.toNatClampNeg then none else some (x.2 p i.toNatClampNeg)
def q_sto (x : q_W) (p n : Nat) (i v : Int32) : Option q_W := if i < 0 ∨ n ≤ i.toNatClampNeg then none else some (q_wr x p i.toNatClampNeg v)
def q_let {α β : Type} (a : α) (f : α → β) : β := f a
theorem q_ite {c : Prop} [Decidable c] {α : Type} {A B r : α} {P : Prop} (h : (if c then A else B) = r) (f : c → A = r → P) (g : ¬ c → B = r → P) : P := by
  by_cases hc : c
  · rw [if_pos hc] at h
    exact f hc h
  · rw [if_neg hc] at h
    exact g hc h
theorem q_ai {x a b : Int32} (h : a = b) : x + a = x + b := by rw [h]
def q_fu : Nat := 3000
def q_rm (n : Nat) : Room := { frames := n, cells := 1, slots := 6, locals := 64 * n }
theorem q_ro {n n' k : Nat} (h : n' < n) (hk : k ≤ 45) : (q_rm n').frames + 1 ≤ (q_rm n).frames ∧ 8 + (k + 11) + (q_rm n').locals ≤ (q_rm n).locals ∧ 0 + (q_rm n').cells ≤ (q_rm n).cells ∧ 0 + (q_rm n').slots ≤ (q_rm n).slots := by
  simp only [q_rm]
  omega
def q_cells (E : q_E) (c d : Nat) (x : q_W) : List va_E := (List.range q_NT).map fun p => q_mk E c d x.1 p (x.2 p)
theorem q_cells_at {E : q_E} {c d : Nat} {x : q_W} {p : Nat} (h : p < q_NT) : (q_cells E c d x)[p]? = some (q_mk E c d x.1 p (x.2 p)) := by
  simp [q_cells, h]
theorem q_cells_set {E : q_E} {c d : Nat} {x : q_W} {p k : Nat} {v : Int32} {e : va_E} (h : q_mk E c d x.1 p (upd (x.2 p) k v) = e) : (q_cells E c d x).set p e = q_cells E c d (q_wr x p k v) := by
  apply List.ext_getElem?
  intro j
  by_cases hj : p = j
  · subst hj
    by_cases hp : p < q_NT
    · rw [q_cells_at hp, List.getElem?_set_self (by simp [q_cells, hp])]
      simp [q_wr, h]
    · simp [q_cells, hp]
  · rw [List.getElem?_set_ne hj]
    by_cases hp : j < q_NT
    · rw [q_cells_at hp, q_cells_at hp]
      simp [q_wr, Ne.symm hj]
    · simp [q_cells, hp]
theorem q_cells_out {E : q_E} {c d : Nat} {x : q_W} {z : Int64} {e : va_E} (h : q_mk E c d z q_PO (x.2 q_PO) = e) : (q_cells E c d x).set q_PO e = q_cells E c d (z, x.2) := by
  apply List.ext_getElem?
  intro j
  by_cases hj : q_PO = j
  · subst hj
    rw [q_cells_at (by decide), List.getElem?_set_self (by simp [q_cells, q_NT, q_PO])]
    rw [← h]
  · rw [List.getElem?_set_ne hj]
    by_cases hp : j < q_NT
    · rw [q_cells_at hp, q_cells_at hp]
      exact congrArg some (q_mk_out (Ne.symm hj))
    · simp [q_cells, hp]
theorem q_cells_cd {E : q_E} {c d c' d' : Nat} {x : q_W} {e : va_E} (h : q_mk E c' d' x.1 0 (x.2 0) = e) : (q_cells E c d x).set 0 e = q_cells E c' d' x := by
  apply List.ext_getElem?
  intro j
  by_cases hj : 0 = j
  · subst hj
    rw [q_cells_at (by decide), List.getElem?_set_self (by simp [q_cells, q_NT])]
    rw [← h]
  · rw [List.getElem?_set_ne hj]
    by_cases hp : j < q_NT
    · rw [q_cells_at hp, q_cells_at hp]
      exact congrArg some (q_mk_cd (Ne.symm hj))
    · simp [q_cells, hp]
abbrev q_rP (E : q_E) (c d : Nat) (x : q_W) (v : Int32) : q_R := (.inl (some (.int v)), q_cells E c d x, 0, 0)
abbrev q_rS (E : q_E) (c d : Nat) (ρ : Int32 × q_W) : q_R := (.inl (some (.int ρ.1)), q_cells E c d ρ.2, 0, 0)
abbrev q_rV (E : q_E) (c d : Nat) (ρ : q_W) : q_R := (.inl none, q_cells E c d ρ, 0, 0)
def q_rT (E : q_E) (c d : Nat) (vd : Bool) (ρ : (Int32 ⊕ Nat) × q_W) : q_R := match ρ.1 with
  | .inl v => (.inl (bif vd then none else some (.int v)), q_cells E c d ρ.2, 0, 0)
  | .inr k => (.inr k, q_cells E c d ρ.2, 1, 6)
abbrev q_rPT (E : q_E) (c d : Nat) (vd : Bool) (x : q_W) (ρ : Int32 ⊕ Nat) : q_R := q_rT E c d vd (ρ, x)
abbrev q_rTF (E : q_E) (ρ : (Int32 ⊕ Nat) × (Nat × Nat × q_W)) : q_R := q_rT E ρ.2.1 ρ.2.2.1 false (ρ.1, ρ.2.2.2)
abbrev q_rL (E : q_E) (c d : Nat) (ρ : Int32 × q_W) : q_R := (.inl (some (.int ρ.1)), q_cells E c d ρ.2, 1, 6)
abbrev q_rSF (E : q_E) (ρ : Int32 × (Nat × Nat × q_W)) : q_R := (.inl (some (.int ρ.1)), q_cells E ρ.2.1 ρ.2.2.1 ρ.2.2.2, 1, 6)
/-- a callee that may throw: what it throws goes on -/
def q_thb {α : Type} (F : Option ((Int32 ⊕ Nat) × α)) (K : Int32 → α → Option ((Int32 ⊕ Nat) × α)) : Option ((Int32 ⊕ Nat) × α) := match F with
  | none => none
  | some (.inl v, x) => K v x
  | some (.inr k, x) => some (.inr k, x)
def q_tp {α : Type} (F : Option (Int32 ⊕ Nat)) (x : α) (K : Int32 → Option ((Int32 ⊕ Nat) × α)) : Option ((Int32 ⊕ Nat) × α) := match F with
  | none => none
  | some (.inl v) => K v
  | some (.inr k) => some (.inr k, x)
def q_tpp (F : Option (Int32 ⊕ Nat)) (K : Int32 → Option (Int32 ⊕ Nat)) : Option (Int32 ⊕ Nat) := match F with
  | none => none
  | some (.inl v) => K v
  | some (.inr k) => some (.inr k)
section QX
variable {E : q_E} {R : Room} {M Y : q_M} {c d ce sl pc : Nat} {x : q_W} {lv : List (Nat × Value)} {st : List Value} {r : q_R} {β : Type} {ρ : β}
theorem q_xtop {z : Int32} {K : Int32 → Option β} {ws : List va_E} (h : q_let z K = some ρ) (k : ∀ v, v = z → K v = some ρ → AW E R M ws ce sl pc lv (.int v :: st) r) : AW E R M ws ce sl pc lv (.int z :: st) r := k z rfl h
theorem q_xget {idx ci f q0 : Nat} {fs : List Value} {v : Value} (n : Nat) (hd : decode M.1 pc = .ok (.getfield idx, 3)) (hn : pc + 3 = n) (hf : q_FL M.2.2.2.1 idx ci f) (hq : q0 < q_NT) (he : q_mk E c d x.1 q0 (x.2 q0) = .inr (ci, fs)) (hv : fs[f]? = some v) (k : AW E R M (q_cells E c d x) ce sl n lv (v :: st) r) : AW E R M (q_cells E c d x) ce sl pc lv (.ref q0 :: st) r :=
  q_get n hd hn hf (Nat.lt_trans hq (by decide)) ((q_cells_at hq).trans (congrArg some he)) hv k
theorem q_xput {idx ci f q0 : Nat} {fs : List Value} {z : Int32} {ty : FieldType} {K : q_W → Option β} (n : Nat) (hd : decode M.1 pc = .ok (.putfield idx, 3)) (hn : pc + 3 = n) (hf : q_FL M.2.2.2.1 idx ci f) (hq : q0 < q_NT) (he : q_mk E c d x.1 q0 (x.2 q0) = .inr (ci, fs)) (hty : q_fty ci f = some (ty, false)) (hna : narrow ty (.int z) = .int z) (hfit : fits ty (.int z) = true) (hl0 : f < fs.length) (hu : ∀ u, q_mk E c d x.1 q0 (upd (x.2 q0) f u) = .inr (ci, fs.set f (.int u))) (h : q_let (q_wr x q0 f z) K = some ρ) (k : ∀ x', x' = q_wr x q0 f z → K x' = some ρ → AW E R M (q_cells E c d x') ce sl n lv st r) : AW E R M (q_cells E c d x) ce sl pc lv (.int z :: .ref q0 :: st) r :=
  q_put n hd hn hf (Nat.lt_trans hq (by decide)) ((q_cells_at hq).trans (congrArg some he)) hty hna hfit hl0 (q_cells_set (hu z)) (k _ rfl h)
theorem q_xputc {idx : Nat} {u : Nat} (n : Nat) (hd : decode M.1 pc = .ok (.putfield idx, 3)) (hn : pc + 3 = n) (hf : q_FL M.2.2.2.1 idx 0 4) (hty : q_fty 0 4 = some (.object "LassoDesk$Formula", false)) (k : AW E R M (q_cells E u d x) ce sl n lv st r) : AW E R M (q_cells E c d x) ce sl pc lv (.ref u :: .ref 0 :: st) r :=
  q_put n hd hn hf (by decide) ((q_cells_at (by decide)).trans (congrArg some rfl)) hty rfl rfl (Nat.le_of_ble_eq_true rfl) (q_cells_cd rfl) k
theorem q_xputd {idx : Nat} {u : Nat} (n : Nat) (hd : decode M.1 pc = .ok (.putfield idx, 3)) (hn : pc + 3 = n) (hf : q_FL M.2.2.2.1 idx 0 5) (hty : q_fty 0 5 = some (.object "LassoDesk$Formula", false)) (k : AW E R M (q_cells E c u x) ce sl n lv st r) : AW E R M (q_cells E c d x) ce sl pc lv (.ref u :: .ref 0 :: st) r :=
  q_put n hd hn hf (by decide) ((q_cells_at (by decide)).trans (congrArg some rfl)) hty rfl rfl (Nat.le_of_ble_eq_true rfl) (q_cells_cd rfl) k
theorem q_ld_bind {p len : Nat} {i : Int32} {K : Int32 → Option β} (h : (q_ld x p len i).bind K = some ρ) : vp_in i len ∧ K (x.2 p i.toNatClampNeg) = some ρ := by
  unfold q_ld at h
  by_cases hc : i < 0 ∨ len ≤ i.toNatClampNeg
  · rw [if_pos hc] at h
    cases h
  · rw [if_neg hc] at h
    exact ⟨hc, h⟩
theorem q_sto_bind {p len : Nat} {i v : Int32} {K : q_W → Option β} (h : (q_sto x p len i v).bind K = some ρ) : vp_in i len ∧ K (q_wr x p i.toNatClampNeg v) = some ρ := by
  unfold q_sto at h
  by_cases hc : i < 0 ∨ len ≤ i.toNatClampNeg
  · rw [if_pos hc] at h
    cases h
  · rw [if_neg hc] at h
    exact ⟨hc, h⟩
theorem q_xiald {q0 len : Nat} {i : Int32} {K : Int32 → Option β} (n : Nat) (hd : decode M.1 pc = .ok (.iaload, 1)) (hn : pc + 1 = n) (hq : q0 < q_NT) (he : ∀ f, q_mk E c d x.1 q0 f = .inl (q_kA E 0, len, .inl f)) (h : (q_ld x q0 len i).bind K = some ρ) (k : ∀ w, w = x.2 q0 i.toNatClampNeg → K w = some ρ → AW E R M (q_cells E c d x) ce sl n lv (.int w :: st) r) : AW E R M (q_cells E c d x) ce sl pc lv (.int i :: .ref q0 :: st) r :=
  q_iald n hd hn (Nat.lt_trans hq (by decide)) ((q_cells_at hq).trans (congrArg some (he _))) (q_ld_bind h).1 (k _ rfl (q_ld_bind h).2)
theorem q_xiast {q0 len : Nat} {i y : Int32} {K : q_W → Option β} (n : Nat) (hd : decode M.1 pc = .ok (.iastore, 1)) (hn : pc + 1 = n) (hq : q0 < q_NT) (he : ∀ f, q_mk E c d x.1 q0 f = .inl (q_kA E 0, len, .inl f)) (h : (q_sto x q0 len i (y)).bind K = some ρ) (k : ∀ x', x' = q_wr x q0 i.toNatClampNeg (y) → K x' = some ρ → AW E R M (q_cells E c d x') ce sl n lv st r) : AW E R M (q_cells E c d x) ce sl pc lv (.int y :: .int i :: .ref q0 :: st) r :=
  q_iast n hd hn (Nat.lt_trans hq (by decide)) ((q_cells_at hq).trans (congrArg some (he _))) (q_sto_bind h).1 (q_cells_set (he _)) (k _ rfl (q_sto_bind h).2)
theorem q_xzald {q0 len : Nat} {i : Int32} {K : Int32 → Option β} (n : Nat) (hd : decode M.1 pc = .ok (.baload, 1)) (hn : pc + 1 = n) (hq : q0 < q_NT) (he : ∀ f, q_mk E c d x.1 q0 f = .inl (q_kA E 1, len, .inl f)) (h : (q_ld x q0 len i).bind K = some ρ) (k : ∀ w, w = x.2 q0 i.toNatClampNeg → K w = some ρ → AW E R M (q_cells E c d x) ce sl n lv (.int w :: st) r) : AW E R M (q_cells E c d x) ce sl pc lv (.int i :: .ref q0 :: st) r :=
  q_zald n hd hn (Nat.lt_trans hq (by decide)) ((q_cells_at hq).trans (congrArg some (he _))) (q_ld_bind h).1 (k _ rfl (q_ld_bind h).2)
theorem q_xzast {q0 len : Nat} {i y : Int32} {K : q_W → Option β} (n : Nat) (hd : decode M.1 pc = .ok (.bastore, 1)) (hn : pc + 1 = n) (hq : q0 < q_NT) (he : ∀ f, q_mk E c d x.1 q0 f = .inl (q_kA E 1, len, .inl f)) (h : (q_sto x q0 len i (vp_nar .boolean y)).bind K = some ρ) (k : ∀ x', x' = q_wr x q0 i.toNatClampNeg (vp_nar .boolean y) → K x' = some ρ → AW E R M (q_cells E c d x') ce sl n lv st r) : AW E R M (q_cells E c d x) ce sl pc lv (.int y :: .int i :: .ref q0 :: st) r :=
  q_zast n hd hn (Nat.lt_trans hq (by decide)) ((q_cells_at hq).trans (congrArg some (he _))) (q_sto_bind h).1 (q_cells_set (he _)) (k _ rfl (q_sto_bind h).2)
theorem q_xcald {q0 len : Nat} {i : Int32} {K : Int32 → Option β} (n : Nat) (hd : decode M.1 pc = .ok (.caload, 1)) (hn : pc + 1 = n) (hq : q0 < q_NT) (he : ∀ f, q_mk E c d x.1 q0 f = .inl (q_kA E 2, len, .inl f)) (h : (q_ld x q0 len i).bind K = some ρ) (k : ∀ w, w = x.2 q0 i.toNatClampNeg → K w = some ρ → AW E R M (q_cells E c d x) ce sl n lv (.int w :: st) r) : AW E R M (q_cells E c d x) ce sl pc lv (.int i :: .ref q0 :: st) r :=
  q_cald n hd hn (Nat.lt_trans hq (by decide)) ((q_cells_at hq).trans (congrArg some (he _))) (q_ld_bind h).1 (k _ rfl (q_ld_bind h).2)
theorem q_xcast {q0 len : Nat} {i y : Int32} {K : q_W → Option β} (n : Nat) (hd : decode M.1 pc = .ok (.castore, 1)) (hn : pc + 1 = n) (hq : q0 < q_NT) (he : ∀ f, q_mk E c d x.1 q0 f = .inl (q_kA E 2, len, .inl f)) (h : (q_sto x q0 len i (vp_nar .char y)).bind K = some ρ) (k : ∀ x', x' = q_wr x q0 i.toNatClampNeg (vp_nar .char y) → K x' = some ρ → AW E R M (q_cells E c d x') ce sl n lv st r) : AW E R M (q_cells E c d x) ce sl pc lv (.int y :: .int i :: .ref q0 :: st) r :=
  q_cast n hd hn (Nat.lt_trans hq (by decide)) ((q_cells_at hq).trans (congrArg some (he _))) (q_sto_bind h).1 (q_cells_set (he _)) (k _ rfl (q_sto_bind h).2)
theorem q_in01 : vp_in 0 1 := by
  unfold vp_in
  decide
theorem q_xlald (n : Nat) (hd : decode M.1 pc = .ok (.laload, 1)) (hn : pc + 1 = n) (k : AW E R M (q_cells E c d x) ce sl n lv (.long x.1 :: st) r) : AW E R M (q_cells E c d x) ce sl pc lv (.int 0 :: .ref q_PO :: st) r := by
  refine q_lald (f := q_of x.1) n hd hn (by decide) ((q_cells_at (by decide)).trans (congrArg some rfl)) q_in01 ?_
  rw [show (0 : Int32).toNatClampNeg = 0 by decide, show q_of x.1 0 = x.1 from rfl]
  exact k
theorem q_xlast {z : Int64} {K : q_W → Option β} (n : Nat) (hd : decode M.1 pc = .ok (.lastore, 1)) (hn : pc + 1 = n) (h : q_let (z, x.2) K = some ρ) (k : ∀ x', x' = (z, x.2) → K x' = some ρ → AW E R M (q_cells E c d x') ce sl n lv st r) : AW E R M (q_cells E c d x) ce sl pc lv (.long z :: .int 0 :: .ref q_PO :: st) r :=
  q_last n hd hn (by decide) ((q_cells_at (by decide)).trans (congrArg some rfl)) q_in01 (q_cells_out (by
    simp only [q_mk, q_PO, Sum.inl.injEq, Prod.mk.injEq, true_and, Sum.inr.injEq]
    funext j
    rw [show (0 : Int32).toNatClampNeg = 0 by decide]
    by_cases hj : j = 0 <;> simp [vp_updL, q_of, hj])) (k _ rfl h)
theorem q_xalen {q0 len t : Nat} {ty : FieldType} {v : Int32} (n : Nat) (hd : decode M.1 pc = .ok (.arraylength, 1)) (hn : pc + 1 = n) (hq : q0 < q_NT) (he : ∀ f, q_mk E c d x.1 q0 f = .inl (q_kA E t, len, .inl f)) (ht0 : (q_tys E)[t]? = some (q_kA E t, ty)) (hv : Int32.ofNat len = v) (k : AW E R M (q_cells E c d x) ce sl n lv (.int v :: st) r) : AW E R M (q_cells E c d x) ce sl pc lv (.ref q0 :: st) r :=
  q_alen n hd hn (Nat.lt_trans hq (by decide)) ((q_cells_at hq).trans (congrArg some (he _))) ht0 hv k
def q_xld (E : q_E) (i : Int32) : Option Int32 := if i < 0 ∨ q_L E ≤ i.toNatClampNeg then none else some (q_xs E i.toNatClampNeg)
theorem q_xsld {i : Int32} {K : Int32 → Option β} {ws : List va_E} (n : Nat) (hd : decode M.1 pc = .ok (.iaload, 1)) (hn : pc + 1 = n) (h : (q_xld E i).bind K = some ρ) (k : ∀ w, w = q_xs E i.toNatClampNeg → K w = some ρ → AW E R M ws ce sl n lv (.int w :: st) r) : AW E R M ws ce sl pc lv (.int i :: .ref 900 :: st) r := by
  unfold q_xld at h
  by_cases hc : i < 0 ∨ q_L E ≤ i.toNatClampNeg
  · rw [if_pos hc] at h
    cases h
  · rw [if_neg hc] at h
    exact q_sld n hd hn hc (k _ rfl h)
variable {y : MethodName} {as rest st0 : List Value} {rm : Room} {ig : Instr} {idx : Nat}
theorem q_xinvV {q0 ci N : Nat} {fs : List Value} {T0 : u_T} (hd : decode M.1 pc = .ok (.invokevirtual idx, 3)) (hl : Cond.methodLink M.2.2.2.1 idx y ∈ lw_tbl) (hs : Cond.instanceMethod y ∈ lw_tbl) (hse : Cond.selects y.cls y y ∈ lw_tbl) (hc : q_hd y Y ∈ lw_tbl) (hy : y.cls ≠ "java/lang/invoke/MethodHandle" ∧ y.cls ≠ "java/lang/invoke/VarHandle") (hlen : (parseMethodDescriptor y.desc).map (fun d => d.parameters.length) = some as.length) (hq : q0 < q_NT) (he : q_mk E c d x.1 q0 (x.2 q0) = .inr (ci, fs)) (hcl : q_cl[ci]? = some (y.cls, T0, N)) : q_Inv E R M (q_cells E c d x) pc y (.ref q0 :: as) rest :=
  q_invV (Y := Y) hd hl hs hse hc hy hlen (Nat.lt_trans hq (by decide)) ((q_cells_at hq).trans (congrArg some he)) hcl
theorem q_xinvVN {host : String} {q0 ci N : Nat} {fs : List Value} {T0 : u_T} (hd : decode M.1 pc = .ok (.invokevirtual idx, 3)) (hl : Cond.methodLinkNest M.2.2.2.1 idx y host ∈ lw_tbl) (hs : Cond.instanceMethod y ∈ lw_tbl) (hse : Cond.selects y.cls y y ∈ lw_tbl) (hc : q_hd y Y ∈ lw_tbl) (hy : y.cls ≠ "java/lang/invoke/MethodHandle" ∧ y.cls ≠ "java/lang/invoke/VarHandle") (hlen : (parseMethodDescriptor y.desc).map (fun d => d.parameters.length) = some as.length) (hq : q0 < q_NT) (he : q_mk E c d x.1 q0 (x.2 q0) = .inr (ci, fs)) (hcl : q_cl[ci]? = some (y.cls, T0, N)) : q_Inv E R M (q_cells E c d x) pc y (.ref q0 :: as) rest :=
  q_invVN (Y := Y) hd hl hs hse hc hy hlen (Nat.lt_trans hq (by decide)) ((q_cells_at hq).trans (congrArg some he)) hcl
theorem q_xcallP {F : Option Int32} {K : Int32 → Option β} (n : Nat) (h : F.bind K = some ρ) (hM : ∀ v, F = some v → q_Ct E y Y rm (q_cells E c d x) as (q_rP E c d x v)) (hI : q_Inv E R M (q_cells E c d x) pc y as rest) (hk : q_hd y Y ∈ lw_tbl ∧ Cond.initialized y.cls ∈ lw_tbl) (hro : rm.frames + 1 ≤ R.frames ∧ 8 + (Y.2.1 + 11) + rm.locals ≤ R.locals ∧ ce + rm.cells ≤ R.cells ∧ sl + rm.slots ≤ R.slots) (hst : (rest.map fun v => v.category).sum ≤ 8) (hd : decode M.1 pc = .ok (ig, 3)) (hn : pc + 3 = n) (hy0 : Y.2.2.2.2.2.2 = none) (hs : as.reverse ++ rest = st0) (k : ∀ v, F = some v → K v = some ρ → AW E R M (q_cells E c d x) ce sl n lv (.int v :: rest) r) : AW E R M (q_cells E c d x) ce sl pc lv st0 r := by
  subst hs
  cases hF : F with
  | none => rw [hF] at h; cases h
  | some v => exact q_call n (hM v hF) hI hk hro hst hd hn (Or.inl hy0) (k v hF (by rw [hF] at h; exact h))
theorem q_xcallS {F : Option (Int32 × q_W)} {K : Int32 × q_W → Option β} (n : Nat) (h : F.bind K = some ρ) (hM : ∀ v, F = some v → q_Ct E y Y rm (q_cells E c d x) as (q_rS E c d v)) (hI : q_Inv E R M (q_cells E c d x) pc y as rest) (hk : q_hd y Y ∈ lw_tbl ∧ Cond.initialized y.cls ∈ lw_tbl) (hro : rm.frames + 1 ≤ R.frames ∧ 8 + (Y.2.1 + 11) + rm.locals ≤ R.locals ∧ ce + rm.cells ≤ R.cells ∧ sl + rm.slots ≤ R.slots) (hst : (rest.map fun v => v.category).sum ≤ 8) (hd : decode M.1 pc = .ok (ig, 3)) (hn : pc + 3 = n) (hy0 : Y.2.2.2.2.2.2 = none) (hs : as.reverse ++ rest = st0) (k : ∀ v, F = some v → K v = some ρ → AW E R M (q_cells E c d v.2) ce sl n lv (.int v.1 :: rest) r) : AW E R M (q_cells E c d x) ce sl pc lv st0 r := by
  subst hs
  cases hF : F with
  | none => rw [hF] at h; cases h
  | some v => exact q_call n (hM v hF) hI hk hro hst hd hn (Or.inl hy0) (k v hF (by rw [hF] at h; exact h))
theorem q_xcallV {F : Option q_W} {K : q_W → Option β} (n : Nat) (h : F.bind K = some ρ) (hM : ∀ v, F = some v → q_Ct E y Y rm (q_cells E c d x) as (q_rV E c d v)) (hI : q_Inv E R M (q_cells E c d x) pc y as rest) (hk : q_hd y Y ∈ lw_tbl ∧ Cond.initialized y.cls ∈ lw_tbl) (hro : rm.frames + 1 ≤ R.frames ∧ 8 + (Y.2.1 + 11) + rm.locals ≤ R.locals ∧ ce + rm.cells ≤ R.cells ∧ sl + rm.slots ≤ R.slots) (hst : (rest.map fun v => v.category).sum ≤ 8) (hd : decode M.1 pc = .ok (ig, 3)) (hn : pc + 3 = n) (hy0 : Y.2.2.2.2.2.2 = none) (hs : as.reverse ++ rest = st0) (k : ∀ v, F = some v → K v = some ρ → AW E R M (q_cells E c d v) ce sl n lv rest r) : AW E R M (q_cells E c d x) ce sl pc lv st0 r := by
  subst hs
  cases hF : F with
  | none => rw [hF] at h; cases h
  | some v => exact q_call n (hM v hF) hI hk hro hst hd hn (Or.inl hy0) (k v hF (by rw [hF] at h; exact h))
theorem q_no {M : q_M} {pc : Nat} (h : M.2.2.2.2.2.1 = []) : ∀ h ∈ M.2.2.2.2.2.1, (decide (h.1 ≤ pc) && decide (pc < h.2.1)) = false := by
  rw [h]
  intro q hq
  cases hq
theorem q_xcallPP {F : Option (Int32 ⊕ Nat)} {K : Int32 → Option (Int32 ⊕ Nat)} {ρ : Int32 ⊕ Nat} {vd vd' : Bool} {lv : List (Nat × Value)} (n : Nat) (h : q_tpp F K = some ρ) (hM : ∀ v, F = some v → q_Ct E y Y rm (q_cells E c d x) as (q_rPT E c d vd' x v)) (hI : q_Inv E R M (q_cells E c d x) pc y as rest) (hk : q_hd y Y ∈ lw_tbl ∧ Cond.initialized y.cls ∈ lw_tbl) (hro : rm.frames + 1 ≤ R.frames ∧ 8 + (Y.2.1 + 11) + rm.locals ≤ R.locals ∧ 0 + rm.cells ≤ R.cells ∧ 0 + rm.slots ≤ R.slots) (hst : (rest.map fun v => v.category).sum ≤ 8) (hd : decode M.1 pc = .ok (ig, 3)) (hn : pc + 3 = n) (hy0 : Y.2.2.2.2.2.2 = none) (hs : as.reverse ++ rest = st0) (hM0 : M.2.2.2.2.2.1 = []) (k : ∀ v, F = some (.inl v) → K v = some ρ → AW E R M (q_cells E c d x) 0 0 n lv ((bif vd' then [] else [.int v]) ++ rest) (q_rPT E c d vd x ρ)) : AW E R M (q_cells E c d x) 0 0 pc lv st0 (q_rPT E c d vd x ρ) := by
  subst hs
  cases hF : F with
  | none => rw [hF] at h; cases h
  | some v =>
    cases v with
    | inl v =>
      have hk' := k v hF (by rw [hF] at h; exact h)
      cases vd' with
      | true => exact q_call n (hM _ hF) hI hk hro hst hd hn (Or.inl hy0) hk'
      | false => exact q_call n (hM _ hF) hI hk hro hst hd hn (Or.inl hy0) hk'
    | inr kx =>
      rw [hF] at h
      cases h
      exact q_callT (hM _ hF) hI hk hro hst hd (Or.inl hy0) (q_no hM0) (by decide) (by decide)
theorem q_xcallPT {F : Option (Int32 ⊕ Nat)} {K : Int32 → Option ((Int32 ⊕ Nat) × q_W)} {ρ : (Int32 ⊕ Nat) × q_W} {vd vd' : Bool} {lv : List (Nat × Value)} (n : Nat) (h : q_tp F x K = some ρ) (hM : ∀ v, F = some v → q_Ct E y Y rm (q_cells E c d x) as (q_rPT E c d vd' x v)) (hI : q_Inv E R M (q_cells E c d x) pc y as rest) (hk : q_hd y Y ∈ lw_tbl ∧ Cond.initialized y.cls ∈ lw_tbl) (hro : rm.frames + 1 ≤ R.frames ∧ 8 + (Y.2.1 + 11) + rm.locals ≤ R.locals ∧ 0 + rm.cells ≤ R.cells ∧ 0 + rm.slots ≤ R.slots) (hst : (rest.map fun v => v.category).sum ≤ 8) (hd : decode M.1 pc = .ok (ig, 3)) (hn : pc + 3 = n) (hy0 : Y.2.2.2.2.2.2 = none) (hs : as.reverse ++ rest = st0) (hM0 : M.2.2.2.2.2.1 = []) (k : ∀ v, F = some (.inl v) → K v = some ρ → AW E R M (q_cells E c d x) 0 0 n lv ((bif vd' then [] else [.int v]) ++ rest) (q_rT E c d vd ρ)) : AW E R M (q_cells E c d x) 0 0 pc lv st0 (q_rT E c d vd ρ) := by
  subst hs
  cases hF : F with
  | none => rw [hF] at h; cases h
  | some v =>
    cases v with
    | inl v =>
      have hk' := k v hF (by rw [hF] at h; exact h)
      cases vd' with
      | true => exact q_call n (hM _ hF) hI hk hro hst hd hn (Or.inl hy0) hk'
      | false => exact q_call n (hM _ hF) hI hk hro hst hd hn (Or.inl hy0) hk'
    | inr kx =>
      rw [hF] at h
      cases h
      exact q_callT (hM _ hF) hI hk hro hst hd (Or.inl hy0) (q_no hM0) (by decide) (by decide)
theorem q_xcallT {F : Option ((Int32 ⊕ Nat) × q_W)} {K : Int32 → q_W → Option ((Int32 ⊕ Nat) × q_W)} {ρ : (Int32 ⊕ Nat) × q_W} {vd vd' : Bool} {lv : List (Nat × Value)} (n : Nat) (h : q_thb F K = some ρ) (hM : ∀ v, F = some v → q_Ct E y Y rm (q_cells E c d x) as (q_rT E c d vd' v)) (hI : q_Inv E R M (q_cells E c d x) pc y as rest) (hk : q_hd y Y ∈ lw_tbl ∧ Cond.initialized y.cls ∈ lw_tbl) (hro : rm.frames + 1 ≤ R.frames ∧ 8 + (Y.2.1 + 11) + rm.locals ≤ R.locals ∧ 0 + rm.cells ≤ R.cells ∧ 0 + rm.slots ≤ R.slots) (hst : (rest.map fun v => v.category).sum ≤ 8) (hd : decode M.1 pc = .ok (ig, 3)) (hn : pc + 3 = n) (hy0 : Y.2.2.2.2.2.2 = none) (hs : as.reverse ++ rest = st0) (hM0 : M.2.2.2.2.2.1 = []) (k : ∀ v x', F = some (.inl v, x') → K v x' = some ρ → AW E R M (q_cells E c d x') 0 0 n lv ((bif vd' then [] else [.int v]) ++ rest) (q_rT E c d vd ρ)) : AW E R M (q_cells E c d x) 0 0 pc lv st0 (q_rT E c d vd ρ) := by
  subst hs
  cases hF : F with
  | none => rw [hF] at h; cases h
  | some v =>
    obtain ⟨v, x'⟩ := v
    cases v with
    | inl v =>
      have hk' := k v x' hF (by rw [hF] at h; exact h)
      cases vd' with
      | true => exact q_call n (hM _ hF) hI hk hro hst hd hn (Or.inl hy0) hk'
      | false => exact q_call n (hM _ hF) hI hk hro hst hd hn (Or.inl hy0) hk'
    | inr kx =>
      rw [hF] at h
      cases h
      exact q_callT (hM _ hF) hI hk hro hst hd (Or.inl hy0) (q_no hM0) (by decide) (by decide)
end QX
end
section
/-- a call of a method that may throw, where a handler stands -/
def q_tcT {α β : Type} (F : Option ((Int32 ⊕ Nat) × α)) (K : Int32 → α → Option β) (H : Nat → α → Option β) : Option β := match F with
  | none => none
  | some (.inl v, x) => K v x
  | some (.inr k, x) => H k x
def q_tcP {α β : Type} (F : Option (Int32 ⊕ Nat)) (x : α) (K : Int32 → α → Option β) (H : Nat → α → Option β) : Option β := match F with
  | none => none
  | some (.inl v) => K v x
  | some (.inr k) => H k x
end
section
def f_Li_byteOf (x : q_W) (a0 : Int32) (a1 : Int32) : Option Int32 :=
  some ((((a0).toUInt32 >>> (((8 * a1)).toUInt32 &&& Int32.toUInt32 31)).toInt32) &&& 255)
def f_Li_append_L15 : Nat → q_W → Int32 → Int32 → Int32 → Option (Int32 × q_W)
  | 0 => fun _ _ _ _ => none
  | n + 1 => fun x v1 v2 v3 =>
    if v2 ≤ v3 then
      q_let (q_wr x 1 1 ((x.2 1 1) + v2)) fun x2 =>
      some ((q_nb 1), x2)
    else
      (f_Li_byteOf x v1 v3).bind fun w3 =>
      (q_sto x 2 18 ((x.2 1 1) + v3) (vp_nar .char ((w3.toUInt32 % 65536).toInt32))).bind fun x4 =>
      ((f_Li_append_L15  n) x4 v1 v2 (v3 + 1))
def f_Li_append (x : q_W) (a1 : Int32) (a2 : Int32) : Option (Int32 × q_W) :=
  if ((x.2 1 1) + a2) ≤ 18 then
    (f_Li_append_L15  q_fu x a1 a2 0)
  else
    some ((q_nb 0), x)
def f_Li_areVisible_L2 : Nat → q_W → Int32 → Int32 → Int32 → Option Int32
  | 0 => fun _ _ _ _ => none
  | n + 1 => fun x v0 v1 v2 =>
    if v1 ≤ v2 then
      some (q_nb 1)
    else
      (f_Li_byteOf x v0 v2).bind fun w1 =>
      if w1 < 33 then
        some (q_nb 0)
      else
        if w1 ≤ 126 then
          ((f_Li_areVisible_L2  n) x v0 v1 (v2 + 1))
        else
          some (q_nb 0)
def f_Li_areVisible (x : q_W) (a0 : Int32) (a1 : Int32) : Option Int32 :=
  (f_Li_areVisible_L2  q_fu x a0 a1 0)
def f_Li_countTyped_L2 : Nat → q_W → Int32 → Int32 → Option Int32
  | 0 => fun _ _ _ => none
  | n + 1 => fun x v0 v1 =>
    if 4 ≤ v1 then
      some v1
    else
      (f_Li_byteOf x v0 v1).bind fun w1 =>
      if w1 = 0 then
        some v1
      else
        ((f_Li_countTyped_L2  n) x v0 (v1 + 1))
def f_Li_countTyped (x : q_W) (a0 : Int32) : Option Int32 :=
  (f_Li_countTyped_L2  q_fu x a0 0)
def f_D_type (c d : Nat) (x : q_W) (a1 : Int32) : Option ((Int32 ⊕ Nat) × q_W) :=
  (f_Li_countTyped x a1).bind fun w1 =>
  (f_Li_areVisible x a1 w1).bind fun w2 =>
  if ¬ w2 = 0 then
    (f_Li_append x a1 w1).bind fun q3 =>
    some (.inl (q_nb q3.1), q3.2)
  else
    some (.inr 0, x)
def f_Fo_size (f : Nat) (x : q_W) : Option Int32 :=
  some (x.2 f 7)
def f_Li_clear (x : q_W) : Option q_W :=
  q_let (q_wr x 1 1 0) fun x1 =>
  some x1
def f_Fo_clear (f : Nat) (x : q_W) : Option q_W :=
  q_let (q_wr x f 7 0) fun x1 =>
  q_let (q_wr x1 f 8 0) fun x2 =>
  q_let (q_wr x2 f 9 0) fun x3 =>
  some x3
def f_Fo_listPromises_L7 (f : Nat) : Nat → q_W → Int32 → Option q_W
  | 0 => fun _ _ => none
  | n + 1 => fun x v1 =>
    if x.2 f 8 ≤ v1 then
      some x
    else
      if 5 ≤ v1 then
        some x
      else
        (q_ld x (f + 5) 5 v1).bind fun w2 =>
        (q_ld x (f + 1) 18 w2).bind fun w3 =>
        if w3 = 88 then
          ((f_Fo_listPromises_L7 f n) x (v1 + 1))
        else
          (q_ld x (f + 5) 5 v1).bind fun w4 =>
          (q_sto x (f + 6) 5 (x.2 f 9) w4).bind fun x5 =>
          q_let (q_wr x5 f 9 ((x5.2 f 9) + 1)) fun x6 =>
          ((f_Fo_listPromises_L7 f n) x6 (v1 + 1))
def f_Fo_listPromises (f : Nat) (x : q_W) : Option q_W :=
  q_let (q_wr x f 9 0) fun x1 =>
  (f_Fo_listPromises_L7 f q_fu x1 0)
def f_D_isTemporal (x : q_W) (a0 : Int32) : Option Int32 :=
  if a0 = 88 then
    some (q_nb 1)
  else
    if a0 = 70 then
      some (q_nb 1)
    else
      if a0 = 71 then
        some (q_nb 1)
      else
        if a0 = 85 then
          some (q_nb 1)
        else
          if ¬ a0 = 82 then
            some (q_nb 0)
          else
            some (q_nb 1)
def f_Fo_add_J86 (f : Nat) (x : q_W) : Option (Int32 × q_W) :=
  q_let (q_wr x f 7 ((x.2 f 7) + 1)) fun x11 =>
  some (((x11.2 f 7) - 1), x11)
def f_Fo_add (f : Nat) (x : q_W) (a1 : Int32) (a2 : Int32) (a3 : Int32) (a4 : Int32) : Option (Int32 × q_W) :=
  if x.2 f 7 < 18 then
    (q_sto x (f + 1) 18 (x.2 f 7) a1).bind fun x1 =>
    (q_sto x1 (f + 2) 18 (x1.2 f 7) a2).bind fun x2 =>
    (q_sto x2 (f + 3) 18 (x2.2 f 7) a3).bind fun x3 =>
    (q_sto x3 (f + 4) 18 (x3.2 f 7) a4).bind fun x4 =>
    (f_D_isTemporal x4 a1).bind fun w5 =>
    if w5 = 0 then
      (f_Fo_add_J86 f x4 )
    else
      if 5 ≤ a4 then
        (f_Fo_add_J86 f x4 )
      else
        (q_sto x4 (f + 5) 5 a4 (x4.2 f 7)).bind fun x6 =>
        q_let (q_wr x6 f 8 ((x6.2 f 8) + 1)) fun x7 =>
        (f_Fo_add_J86 f x7 )
  else
    some ((-1), x)
def f_Li_levelJoinedBy (x : q_W) (a0 : Int32) : Option Int32 :=
  if a0 = 38 then
    some 2
  else if a0 = 62 then
    some 0
  else if a0 = 82 then
    some 3
  else if a0 = 85 then
    some 3
  else if a0 = 124 then
    some 1
  else 
    some (-1)
def f_Li_signAt (x : q_W) (a1 : Int32) : Option Int32 :=
  if a1 < 0 then
    some 0
  else
    if x.2 1 1 ≤ a1 then
      some 0
    else
      (q_ld x 2 18 a1).bind fun w1 =>
      some w1
def f_Li_readBracket (REC : Nat → Int32 → Int32 → q_W → Option (Int32 × q_W)) (f : Nat) (x : q_W) (a2 : Int32) : Option (Int32 × q_W) :=
  (REC 0 0 a2 x).bind fun q1 =>
  (f_Li_signAt q1.2 (q1.2.2 1 2)).bind fun w2 =>
  if w2 = 41 then
    q_let (q_wr q1.2 1 2 ((q1.2.2 1 2) + 1)) fun x3 =>
    some (q1.1, x3)
  else
    some ((-1), q1.2)
def f_Li_temporalsBefore_L4 : Nat → q_W → Int32 → Int32 → Int32 → Option Int32
  | 0 => fun _ _ _ _ => none
  | n + 1 => fun x v1 v2 v3 =>
    if v1 ≤ v3 then
      some v2
    else
      (f_Li_signAt x v3).bind fun w1 =>
      (f_D_isTemporal x w1).bind fun w2 =>
      if w2 = 0 then
        ((f_Li_temporalsBefore_L4  n) x v1 v2 (v3 + 1))
      else
        ((f_Li_temporalsBefore_L4  n) x v1 (v2 + 1) (v3 + 1))
def f_Li_temporalsBefore (x : q_W) (a1 : Int32) : Option Int32 :=
  (f_Li_temporalsBefore_L4  q_fu x a1 0 0)
def f_Li_readSimple_J130 (REC : Nat → Int32 → Int32 → q_W → Option (Int32 × q_W)) (f : Nat) (x : q_W) (v2 : Int32) (v3 : Int32) (v4 : Int32) : Option (Int32 × q_W) :=
  (REC 1 v2 0 x).bind fun q16 =>
  if ¬ q16.1 = (-1) then
    (f_Fo_add f q16.2 v3 q16.1 q16.1 v4).bind fun q17 =>
    some (q17.1, q17.2)
  else
    some ((-1), q16.2)
def f_Li_readSimple_J120 (REC : Nat → Int32 → Int32 → q_W → Option (Int32 × q_W)) (f : Nat) (x : q_W) (v3 : Int32) (v4 : Int32) : Option (Int32 × q_W) :=
  (f_Fo_add f x v3 0 0 v4).bind fun q19 =>
  some (q19.1, q19.2)
def f_Li_readSimple (REC : Nat → Int32 → Int32 → q_W → Option (Int32 × q_W)) (f : Nat) (x : q_W) (a2 : Int32) : Option (Int32 × q_W) :=
  (f_Li_signAt x (x.2 1 2)).bind fun w1 =>
  (f_Li_temporalsBefore x (x.2 1 2)).bind fun w2 =>
  q_let (q_wr x 1 2 ((x.2 1 2) + 1)) fun x3 =>
  if w1 = 33 then
    (f_Li_readSimple_J130 REC f x3 a2 w1 w2)
  else if w1 = 40 then
    if a2 < 4 then
      (REC 2 (a2 + 1) 0 x3).bind fun q6 =>
      some (q6.1, q6.2)
    else
      some ((-1), x3)
  else if w1 = 48 then
    (f_Li_readSimple_J120 REC f x3 w1 w2)
  else if w1 = 49 then
    (f_Li_readSimple_J120 REC f x3 w1 w2)
  else if w1 = 70 then
    (f_Li_readSimple_J130 REC f x3 a2 w1 w2)
  else if w1 = 71 then
    (f_Li_readSimple_J130 REC f x3 a2 w1 w2)
  else if w1 = 88 then
    (f_Li_readSimple_J130 REC f x3 a2 w1 w2)
  else if w1 = 97 then
    (f_Li_readSimple_J120 REC f x3 w1 w2)
  else if w1 = 98 then
    (f_Li_readSimple_J120 REC f x3 w1 w2)
  else if w1 = 99 then
    (f_Li_readSimple_J120 REC f x3 w1 w2)
  else 
    some ((-1), x3)
def f_Li_readLevel (REC : Nat → Int32 → Int32 → q_W → Option (Int32 × q_W)) (f : Nat) (x : q_W) (a2 : Int32) (a3 : Int32) : Option (Int32 × q_W) :=
  if a2 < 4 then
    (REC 0 (a2 + 1) a3 x).bind fun q1 =>
    (f_Li_signAt q1.2 (q1.2.2 1 2)).bind fun w2 =>
    if q1.1 = (-1) then
      some (q1.1, q1.2)
    else
      (f_Li_levelJoinedBy q1.2 w2).bind fun w3 =>
      if w3 = a2 then
        (f_Li_temporalsBefore q1.2 (q1.2.2 1 2)).bind fun w4 =>
        q_let (q_wr q1.2 1 2 ((q1.2.2 1 2) + 1)) fun x5 =>
        (REC 0 a2 a3 x5).bind fun q6 =>
        if ¬ q6.1 = (-1) then
          (f_Fo_add f q6.2 w2 q1.1 q6.1 w4).bind fun q7 =>
          some (q7.1, q7.2)
        else
          some ((-1), q6.2)
      else
        some (q1.1, q1.2)
  else
    (REC 1 a3 0 x).bind fun q11 =>
    some (q11.1, q11.2)
def f_read (f : Nat) : Nat → Nat → Int32 → Int32 → q_W → Option (Int32 × q_W)
  | 0 => fun _ _ _ _ => none
  | n + 1 => fun tag a b x => match tag with
    | 0 => f_Li_readLevel (f_read f n) f x a b
    | 1 => f_Li_readSimple (f_read f n) f x a
    | _ => f_Li_readBracket (f_read f n) f x a
def q_hREC (E : q_E) (c d f : Nat) (REC : Nat → Int32 → Int32 → q_W → Option (Int32 × q_W)) (D : Nat) : Prop := ∀ (tag : Nat) (a b : Int32) (x : q_W) (v : Int32 × q_W), REC tag a b x = some v → (match tag with
  | 0 => q_Ct E y_Li_readLevel m_Li_readLevel (q_rm D) (q_cells E c d x) [.ref 1, .ref f, .int a, .int b] (q_rS E c d v)
  | 1 => q_Ct E y_Li_readSimple m_Li_readSimple (q_rm D) (q_cells E c d x) [.ref 1, .ref f, .int a] (q_rS E c d v)
  | _ => q_Ct E y_Li_readBracket m_Li_readBracket (q_rm D) (q_cells E c d x) [.ref 1, .ref f, .int a] (q_rS E c d v))
def f_Li_readInto (f : Nat) (x : q_W) : Option (Int32 × q_W) :=
  (f_Fo_clear f x).bind fun x1 =>
  q_let (q_wr x1 1 2 0) fun x2 =>
  (f_Li_temporalsBefore x2 (x2.2 1 1)).bind fun w3 =>
  if w3 ≤ 5 then
    (f_read f 70 0 0 0 x2).bind fun q4 =>
    if q4.1 = (-1) then
      some ((q_nb 0), q4.2)
    else
      if q4.2.2 1 2 = q4.2.2 1 1 then
        (f_Fo_listPromises f q4.2).bind fun x5 =>
        some ((q_nb 1), x5)
      else
        some ((q_nb 0), q4.2)
  else
    some ((q_nb 0), x2)
def f_D_formula (c d : Nat) (x : q_W) : Option ((Int32 ⊕ Nat) × (Nat × Nat × q_W)) :=
  (f_Li_readInto d x).bind fun q1 =>
  (f_Li_clear q1.2).bind fun x2 =>
  if ¬ q1.1 = 0 then
    q_let (q_wr x2 0 6 1) fun x3 =>
    q_let (q_wr x3 0 7 0) fun x4 =>
    (f_Fo_size d x4).bind fun w5 =>
    some (.inl w5, (d, c, x4))
  else
    some (.inr 0, (c, d, x2))
def f_D_requireFormula (c d : Nat) (x : q_W) : Option (Int32 ⊕ Nat) :=
  if ¬ x.2 0 6 = 0 then
    some (.inl 0)
  else
    some (.inr 1)
def f_Fo_stateCount (f : Nat) (x : q_W) : Option Int32 :=
  some (8 <<< ((x.2 f 8) &&& 31))
def f_D_states (c d : Nat) (x : q_W) : Option (Int32 ⊕ Nat) :=
  q_tpp (f_D_requireFormula c d x) fun w1 =>
  (f_Fo_stateCount c x).bind fun w3 =>
  some (.inl w3)
def f_D_requireState (c d : Nat) (x : q_W) (a1 : Int32) : Option (Int32 ⊕ Nat) :=
  if a1 < 0 then
    some (.inr 2)
  else
    (f_Fo_stateCount c x).bind fun w1 =>
    if a1 < w1 then
      some (.inl 0)
    else
      some (.inr 2)
def f_D_hasBit (x : q_W) (a0 : Int32) (a1 : Int32) : Option Int32 :=
  if ((a0 >>> (a1 &&& 31)) &&& 1) = 0 then
    some (q_nb 0)
  else
    some (q_nb 1)
def f_Fo_isWholeIn (f : Nat) (x : q_W) (a1 : Int32) : Option Int32 :=
  (f_D_hasBit x a1 ((x.2 f 7) - 1)).bind fun w1 =>
  some (q_nb w1)
def f_Fo_isPartAt (f : Nat) (x : q_W) (a1 : Int32) (a2 : Int32) (a3 : Int32) : Option Int32 :=
  (q_ld x (f + 2) 18 a1).bind fun w1 =>
  (f_D_hasBit x a3 w1).bind fun w2 =>
  (q_ld x (f + 3) 18 a1).bind fun w3 =>
  (f_D_hasBit x a3 w3).bind fun w4 =>
  (q_ld x (f + 4) 18 a1).bind fun w5 =>
  (f_D_hasBit x a2 (3 + w5)).bind fun w6 =>
  (q_ld x (f + 1) 18 a1).bind fun w7 =>
  if w7 = 33 then
    if ¬ w4 = 0 then
      some (q_nb 0)
    else
      some (q_nb 1)
  else if w7 = 38 then
    if w2 = 0 then
      some (q_nb 0)
    else
      if w4 = 0 then
        some (q_nb 0)
      else
        some (q_nb 1)
  else if w7 = 49 then
    some (q_nb 1)
  else if w7 = 62 then
    if w2 = 0 then
      some (q_nb 1)
    else
      if w4 = 0 then
        some (q_nb 0)
      else
        some (q_nb 1)
  else if w7 = 70 then
    if ¬ w4 = 0 then
      some (q_nb 1)
    else
      if w6 = 0 then
        some (q_nb 0)
      else
        some (q_nb 1)
  else if w7 = 71 then
    if w4 = 0 then
      some (q_nb 0)
    else
      if w6 = 0 then
        some (q_nb 0)
      else
        some (q_nb 1)
  else if w7 = 82 then
    if w4 = 0 then
      some (q_nb 0)
    else
      if ¬ w2 = 0 then
        some (q_nb 1)
      else
        if w6 = 0 then
          some (q_nb 0)
        else
          some (q_nb 1)
  else if w7 = 85 then
    if ¬ w4 = 0 then
      some (q_nb 1)
    else
      if w2 = 0 then
        some (q_nb 0)
      else
        if w6 = 0 then
          some (q_nb 0)
        else
          some (q_nb 1)
  else if w7 = 88 then
    some (q_nb w6)
  else if w7 = 97 then
    (f_D_hasBit x a2 0).bind fun w33 =>
    some (q_nb w33)
  else if w7 = 98 then
    (f_D_hasBit x a2 1).bind fun w35 =>
    some (q_nb w35)
  else if w7 = 99 then
    (f_D_hasBit x a2 2).bind fun w37 =>
    some (q_nb w37)
  else if w7 = 124 then
    if ¬ w2 = 0 then
      some (q_nb 1)
    else
      if w4 = 0 then
        some (q_nb 0)
      else
        some (q_nb 1)
  else 
    some (q_nb 0)
def f_Fo_partsAt_L4 (f : Nat) : Nat → q_W → Int32 → Int32 → Int32 → Option Int32
  | 0 => fun _ _ _ _ => none
  | n + 1 => fun x v1 v2 v3 =>
    if x.2 f 7 ≤ v3 then
      some v2
    else
      (f_Fo_isPartAt f x v3 v1 v2).bind fun w1 =>
      if w1 = 0 then
        ((f_Fo_partsAt_L4 f n) x v1 v2 (v3 + 1))
      else
        q_let ((v2 ||| (1 <<< (v3 &&& 31)))) fun z2 =>
        ((f_Fo_partsAt_L4 f n) x v1 z2 (v3 + 1))
def f_Fo_partsAt (f : Nat) (x : q_W) (a1 : Int32) : Option Int32 :=
  (f_Fo_partsAt_L4 f q_fu x a1 0 0)
def f_D_isAt (c d : Nat) (x : q_W) (a1 : Int32) : Option (Int32 ⊕ Nat) :=
  q_tpp (f_D_requireFormula c d x) fun w1 =>
  q_tpp (f_D_requireState c d x a1) fun w3 =>
  (f_Fo_partsAt c x a1).bind fun w5 =>
  (f_Fo_isWholeIn c x w5).bind fun w6 =>
  some (.inl (q_nb w6))
def f_Fo_expectedBefore_J45 (f : Nat) (K4 : q_W → Int32 → Int32 → Int32 → Option Int32) (x : q_W) (v1 : Int32) (v2 : Int32) (v3 : Int32) (s0 : Int32) (s1 : Int32) : Option Int32 :=
  (f_D_hasBit x s1 s0).bind fun w6 =>
  if w6 = 0 then
    (K4 x v1 v2 (v3 + 1))
  else
    q_let ((v2 ||| (1 <<< (v3 &&& 31)))) fun z7 =>
    (K4 x v1 z7 (v3 + 1))
def f_Fo_expectedBefore_L4 (f : Nat) : Nat → q_W → Int32 → Int32 → Int32 → Option Int32
  | 0 => fun _ _ _ _ => none
  | n + 1 => fun x v1 v2 v3 =>
    if x.2 f 8 ≤ v3 then
      some v2
    else
      (q_ld x (f + 5) 5 v3).bind fun w1 =>
      (q_ld x (f + 1) 18 w1).bind fun w2 =>
      if ¬ w2 = 88 then
        (f_Fo_expectedBefore_J45 f (f_Fo_expectedBefore_L4 f n) x v1 v2 v3 w1 v1)
      else
        (q_ld x (f + 3) 18 w1).bind fun w3 =>
        (f_Fo_expectedBefore_J45 f (f_Fo_expectedBefore_L4 f n) x v1 v2 v3 w3 v1)
def f_Fo_expectedBefore (f : Nat) (x : q_W) (a1 : Int32) : Option Int32 :=
  (f_Fo_expectedBefore_L4 f q_fu x a1 0 0)
def f_D_leads (c d : Nat) (x : q_W) (a1 : Int32) (a2 : Int32) : Option (Int32 ⊕ Nat) :=
  q_tpp (f_D_requireFormula c d x) fun w1 =>
  q_tpp (f_D_requireState c d x a1) fun w3 =>
  q_tpp (f_D_requireState c d x a2) fun w5 =>
  (f_Fo_partsAt c x a2).bind fun w7 =>
  (f_Fo_expectedBefore c x w7).bind fun w8 =>
  if ¬ (a1 >>> (3 &&& 31)) = w8 then
    some (.inl (q_nb 0))
  else
    some (.inl (q_nb 1))
def f_La_reachBefore_L17 : Nat → q_W → Int32 → Int32 → Int32 → Int32 → Int32 → Option (Int32 × q_W)
  | 0 => fun _ _ _ _ _ _ => none
  | n + 1 => fun x v1 v2 v4 v5 v6 =>
    if (v5 + 8) ≤ v6 then
      some (v4, x)
    else
      (q_ld x 8 256 v6).bind fun w3 =>
      if w3 = 0 then
        ((f_La_reachBefore_L17  n) x v1 v2 v4 v5 (v6 + 1))
      else
        (q_ld x 9 1280 (v2 + v6)).bind fun w4 =>
        if ¬ w4 = (-1) then
          ((f_La_reachBefore_L17  n) x v1 v2 v4 v5 (v6 + 1))
        else
          (q_ld x 9 1280 (v2 + v1)).bind fun w5 =>
          (q_sto x 9 1280 (v2 + v6) (w5 + 1)).bind fun x6 =>
          (q_sto x6 10 256 v4 v6).bind fun x7 =>
          ((f_La_reachBefore_L17  n) x7 v1 v2 (v4 + 1) v5 (v6 + 1))
def f_La_reachBefore (x : q_W) (a1 : Int32) (a2 : Int32) (a3 : Int32) : Option (Int32 × q_W) :=
  (q_ld x 4 256 a1).bind fun w1 =>
  q_let ((w1 <<< (3 &&& 31))) fun z2 =>
  (f_La_reachBefore_L17  q_fu x a1 a2 a3 z2 z2)
def f_La_countSteps_L95 : Nat → q_W → Int32 → Int32 → Int32 → Option q_W
  | 0 => fun _ _ _ _ => none
  | n + 1 => fun x v2 v3 v4 =>
    if v3 ≤ v4 then
      some x
    else
      if x.2 3 7 ≤ v4 then
        some x
      else
        (q_ld x 10 256 v4).bind fun w8 =>
        (f_La_reachBefore x w8 v2 v3).bind fun q9 =>
        ((f_La_countSteps_L95  n) q9.2 v2 q9.1 (v4 + 1))
def f_La_countSteps_J69 (K11 : q_W → Int32 → Int32 → Int32 → Int32 → Option q_W) (x : q_W) (v1 : Int32) (v2 : Int32) (v3 : Int32) (v4 : Int32) (v5 : Int32) (s0 : Int32) (s1 : Int32) : Option q_W :=
  (q_sto x 9 1280 s1 s0).bind fun x13 =>
  if v5 = 0 then
    (K11 x13 v1 v2 v3 (v4 + 1))
  else
    (q_sto x13 10 256 v3 v4).bind fun x14 =>
    (K11 x14 v1 v2 (v3 + 1) (v4 + 1))
def f_La_countSteps_J49 (K11 : q_W → Int32 → Int32 → Int32 → Int32 → Option q_W) (x : q_W) (v1 : Int32) (v2 : Int32) (v3 : Int32) (v4 : Int32) (s0 : Int32) : Option q_W :=
  if s0 = 0 then
    (f_La_countSteps_J69 K11 x v1 v2 v3 v4 s0 (-1) (v2 + v4))
  else
    (f_La_countSteps_J69 K11 x v1 v2 v3 v4 s0 0 (v2 + v4))
def f_La_countSteps_J48 (K11 : q_W → Int32 → Int32 → Int32 → Int32 → Option q_W) (x : q_W) (v1 : Int32) (v2 : Int32) (v3 : Int32) (v4 : Int32) : Option q_W :=
  (f_La_countSteps_J49 K11 x v1 v2 v3 v4 0)
def f_La_countSteps_L11 : Nat → q_W → Int32 → Int32 → Int32 → Int32 → Option q_W
  | 0 => fun _ _ _ _ _ => none
  | n + 1 => fun x v1 v2 v3 v4 =>
    if x.2 3 7 ≤ v4 then
      (f_La_countSteps_L95  q_fu x v2 v3 0)
    else
      (q_ld x 8 256 v4).bind fun w2 =>
      if w2 = 0 then
        (f_La_countSteps_J48 (f_La_countSteps_L11  n) x v1 v2 v3 v4)
      else
        (q_ld x 5 256 v4).bind fun w3 =>
        (f_D_hasBit x w3 v1).bind fun w4 =>
        if w4 = 0 then
          (f_La_countSteps_J48 (f_La_countSteps_L11  n) x v1 v2 v3 v4)
        else
          (f_La_countSteps_J49 (f_La_countSteps_L11  n) x v1 v2 v3 v4 1)
def f_La_countSteps (x : q_W) (a1 : Int32) : Option q_W :=
  q_let ((a1 * 256)) fun z1 =>
  (f_La_countSteps_L11  q_fu x a1 z1 0 0)
def f_Fo_isForOnce (f : Nat) (x : q_W) (a1 : Int32) : Option Int32 :=
  (q_ld x (f + 1) 18 a1).bind fun w1 =>
  if w1 = 70 then
    some (q_nb 1)
  else
    (q_ld x (f + 1) 18 a1).bind fun w2 =>
    if ¬ w2 = 85 then
      some (q_nb 0)
    else
      some (q_nb 1)
def f_Fo_keptIn_L4 (f : Nat) : Nat → q_W → Int32 → Int32 → Int32 → Option Int32
  | 0 => fun _ _ _ _ => none
  | n + 1 => fun x v1 v2 v3 =>
    if x.2 f 9 ≤ v3 then
      some v2
    else
      (q_ld x (f + 6) 5 v3).bind fun w1 =>
      (q_ld x (f + 3) 18 w1).bind fun w2 =>
      (f_D_hasBit x v1 w2).bind fun w3 =>
      (f_Fo_isForOnce f x w1).bind fun w4 =>
      if ¬ w3 = w4 then
        ((f_Fo_keptIn_L4 f n) x v1 v2 (v3 + 1))
      else
        q_let ((v2 ||| (1 <<< (v3 &&& 31)))) fun z5 =>
        ((f_Fo_keptIn_L4 f n) x v1 z5 (v3 + 1))
def f_Fo_keptIn (f : Nat) (x : q_W) (a1 : Int32) : Option Int32 :=
  (f_Fo_keptIn_L4 f q_fu x a1 0 0)
def f_Fo_openIn_L4 (f : Nat) : Nat → q_W → Int32 → Int32 → Int32 → Option Int32
  | 0 => fun _ _ _ _ => none
  | n + 1 => fun x v1 v2 v3 =>
    if x.2 f 9 ≤ v3 then
      some v2
    else
      (q_ld x (f + 6) 5 v3).bind fun w1 =>
      (f_D_hasBit x v1 w1).bind fun w2 =>
      (f_Fo_isForOnce f x w1).bind fun w3 =>
      if ¬ w2 = w3 then
        ((f_Fo_openIn_L4 f n) x v1 v2 (v3 + 1))
      else
        q_let ((v2 ||| (1 <<< (v3 &&& 31)))) fun z4 =>
        ((f_Fo_openIn_L4 f n) x v1 z4 (v3 + 1))
def f_Fo_openIn (f : Nat) (x : q_W) (a1 : Int32) : Option Int32 :=
  (f_Fo_openIn_L4 f q_fu x a1 0 0)
def f_Fo_promiseCount (f : Nat) (x : q_W) : Option Int32 :=
  some (x.2 f 9)
def f_La_lookAtStates_L26 (f : Nat) : Nat → q_W → Int32 → Option q_W
  | 0 => fun _ _ => none
  | n + 1 => fun x v2 =>
    if x.2 3 7 ≤ v2 then
      some x
    else
      (f_Fo_partsAt f x v2).bind fun w6 =>
      (f_Fo_expectedBefore f x w6).bind fun w7 =>
      (q_sto x 4 256 v2 w7).bind fun x8 =>
      (f_Fo_keptIn f x8 w6).bind fun w9 =>
      (q_sto x8 5 256 v2 w9).bind fun x10 =>
      (f_Fo_openIn f x10 w6).bind fun w11 =>
      (q_ld x10 5 256 v2).bind fun w12 =>
      (q_sto x10 6 256 v2 (w11 &&& (w12 ^^^ (-1)))).bind fun x13 =>
      (f_Fo_isWholeIn f x13 w6).bind fun w14 =>
      (q_sto x13 7 256 v2 (vp_nar .boolean w14)).bind fun x15 =>
      (q_sto x15 8 256 v2 (vp_nar .boolean 1)).bind fun x16 =>
      ((f_La_lookAtStates_L26 f n) x16 (v2 + 1))
def f_La_lookAtStates (f : Nat) (x : q_W) : Option q_W :=
  (f_Fo_stateCount f x).bind fun w1 =>
  q_let (q_wr x 3 7 w1) fun x2 =>
  (f_Fo_promiseCount f x2).bind fun w3 =>
  q_let (q_wr x2 3 8 w3) fun x4 =>
  q_let (q_wr x4 3 9 (x4.2 3 7)) fun x5 =>
  (f_La_lookAtStates_L26 f q_fu x5 0)
def f_La_takeAway (x : q_W) (a1 : Int32) : Option q_W :=
  (q_sto x 8 256 a1 (vp_nar .boolean 0)).bind fun x1 =>
  q_let (q_wr x1 3 9 ((x1.2 3 9) - 1)) fun x2 =>
  some x2
def f_La_sweepDeadEnds_L40 : Nat → q_W → Int32 → Int32 → Option q_W
  | 0 => fun _ _ _ => none
  | n + 1 => fun x v1 v2 =>
    if x.2 3 7 ≤ v2 then
      some x
    else
      (q_ld x 8 256 v2).bind fun w6 =>
      if w6 = 0 then
        ((f_La_sweepDeadEnds_L40  n) x v1 (v2 + 1))
      else
        (f_D_hasBit x v1 (v2 >>> (3 &&& 31))).bind fun w7 =>
        if ¬ w7 = 0 then
          ((f_La_sweepDeadEnds_L40  n) x v1 (v2 + 1))
        else
          (f_La_takeAway x v2).bind fun x8 =>
          ((f_La_sweepDeadEnds_L40  n) x8 v1 (v2 + 1))
def f_La_sweepDeadEnds_L4 : Nat → q_W → Int32 → Int32 → Option q_W
  | 0 => fun _ _ _ => none
  | n + 1 => fun x v1 v2 =>
    if x.2 3 7 ≤ v2 then
      (f_La_sweepDeadEnds_L40  q_fu x v1 0)
    else
      (q_ld x 8 256 v2).bind fun w1 =>
      if w1 = 0 then
        ((f_La_sweepDeadEnds_L4  n) x v1 (v2 + 1))
      else
        (q_ld x 4 256 v2).bind fun w2 =>
        q_let ((v1 ||| (1 <<< (w2 &&& 31)))) fun z3 =>
        ((f_La_sweepDeadEnds_L4  n) x z3 (v2 + 1))
def f_La_sweepDeadEnds (x : q_W) : Option q_W :=
  (f_La_sweepDeadEnds_L4  q_fu x 0 0)
def f_La_stepsFrom (x : q_W) (a1 : Int32) (a2 : Int32) : Option Int32 :=
  (q_ld x 9 1280 ((a2 * 256) + a1)).bind fun w1 =>
  some w1
def f_La_sweepUnkept_L2 : Nat → q_W → Int32 → Int32 → Option q_W
  | 0 => fun _ _ _ => none
  | n + 1 => fun x v1 v2 =>
    if x.2 3 7 ≤ v2 then
      some x
    else
      (q_ld x 8 256 v2).bind fun w1 =>
      if w1 = 0 then
        ((f_La_sweepUnkept_L2  n) x v1 (v2 + 1))
      else
        (q_ld x 6 256 v2).bind fun w2 =>
        (f_D_hasBit x w2 v1).bind fun w3 =>
        if w3 = 0 then
          ((f_La_sweepUnkept_L2  n) x v1 (v2 + 1))
        else
          (f_La_stepsFrom x v2 v1).bind fun w4 =>
          if ¬ w4 = (-1) then
            ((f_La_sweepUnkept_L2  n) x v1 (v2 + 1))
          else
            (f_La_takeAway x v2).bind fun x5 =>
            ((f_La_sweepUnkept_L2  n) x5 v1 (v2 + 1))
def f_La_sweepUnkept (x : q_W) (a1 : Int32) : Option q_W :=
  (f_La_sweepUnkept_L2  q_fu x a1 0)
def f_La_find_L33 (f : Nat) (K9 : q_W → Int32 → Int32 → Option q_W) (E33 : q_W → Int32 → Int32 → Option q_W) : Nat → q_W → Int32 → Int32 → Int32 → Option q_W
  | 0 => fun _ _ _ _ => none
  | n + 1 => fun x v3 v4 v5 =>
    if x.2 3 8 ≤ v5 then
      (E33 x v3 v4)
    else
      (f_La_countSteps x v5).bind fun x10 =>
      (f_La_sweepUnkept x10 v5).bind fun x11 =>
      ((f_La_find_L33 f K9 E33 n) x11 v3 v4 (v5 + 1))
def f_La_find_L9 (f : Nat) : Nat → q_W → Int32 → Int32 → Option q_W
  | 0 => fun _ _ _ => none
  | n + 1 => fun x v2 v3 =>
    if v2 = 0 then
      some x
    else
      if 256 < v3 then
        some x
      else
        q_let (x.2 3 9) fun z2 =>
        (f_La_sweepDeadEnds x).bind fun x3 =>
        (f_La_find_L33 f (f_La_find_L9 f n) (fun x4 u5 u6 => if u6 ≤ x4.2 3 9 then
          ((f_La_find_L9 f n) x4 0 (u5 + 1))
        else
          ((f_La_find_L9 f n) x4 1 (u5 + 1))) q_fu x3 v3 z2 0)
def f_La_find (f : Nat) (x : q_W) : Option q_W :=
  (f_La_lookAtStates f x).bind fun x1 =>
  (f_La_find_L9 f q_fu x1 1 0)
def f_La_dutyFrom_L5 : Nat → q_W → Int32 → Int32 → Int32 → Int32 → Option Int32
  | 0 => fun _ _ _ _ _ => none
  | n + 1 => fun x v1 v2 v3 v4 =>
    if x.2 3 8 ≤ v4 then
      some v2
    else
      (q_ld x 6 256 v1).bind fun w1 =>
      (f_D_hasBit x w1 v3).bind fun w2 =>
      if w2 = 0 then
        if x.2 3 8 ≤ (v3 + 1) then
          ((f_La_dutyFrom_L5  n) x v1 v2 0 (v4 + 1))
        else
          q_let ((v3 + 1)) fun z3 =>
          ((f_La_dutyFrom_L5  n) x v1 v2 z3 (v4 + 1))
      else
        some v3
def f_La_dutyFrom (x : q_W) (a1 : Int32) (a2 : Int32) : Option Int32 :=
  (f_La_dutyFrom_L5  q_fu x a1 a2 a2 0)
def f_La_leastWhole_L2 : Nat → q_W → Int32 → Option Int32
  | 0 => fun _ _ => none
  | n + 1 => fun x v1 =>
    if x.2 3 7 ≤ v1 then
      some (-1)
    else
      (q_ld x 8 256 v1).bind fun w1 =>
      if w1 = 0 then
        ((f_La_leastWhole_L2  n) x (v1 + 1))
      else
        (q_ld x 7 256 v1).bind fun w2 =>
        if w2 = 0 then
          ((f_La_leastWhole_L2  n) x (v1 + 1))
        else
          some v1
def f_La_leastWhole (x : q_W) : Option Int32 :=
  (f_La_leastWhole_L2  q_fu x 0)
def f_La_isNearer (x : q_W) (a1 : Int32) (a2 : Int32) (a3 : Int32) : Option Int32 :=
  (f_La_stepsFrom x a2 a3).bind fun w1 =>
  (f_La_stepsFrom x a1 a3).bind fun w2 =>
  if w2 = (-1) then
    some (q_nb 0)
  else
    if w1 = (-1) then
      some (q_nb 1)
    else
      if w1 ≤ w2 then
        some (q_nb 0)
      else
        some (q_nb 1)
def f_La_nextFrom_J54 (K17 : q_W → Int32 → Int32 → Int32 → Int32 → Int32 → Option Int32) (x : q_W) (v1 : Int32) (v2 : Int32) (v3 : Int32) (v4 : Int32) (v5 : Int32) (s0 : Int32) : Option Int32 :=
  if s0 = 0 then
    (K17 x v1 v2 v3 v4 (v5 + 1))
  else
    if v4 = (-1) then
      (K17 x v1 v2 v3 v5 (v5 + 1))
    else
      if v3 = 0 then
        (K17 x v1 v2 v3 v4 (v5 + 1))
      else
        (f_La_isNearer x v5 v4 v2).bind fun w8 =>
        if w8 = 0 then
          (K17 x v1 v2 v3 v4 (v5 + 1))
        else
          (K17 x v1 v2 v3 v5 (v5 + 1))
def f_La_nextFrom_J53 (K17 : q_W → Int32 → Int32 → Int32 → Int32 → Int32 → Option Int32) (x : q_W) (v1 : Int32) (v2 : Int32) (v3 : Int32) (v4 : Int32) (v5 : Int32) : Option Int32 :=
  (f_La_nextFrom_J54 K17 x v1 v2 v3 v4 v5 0)
def f_La_nextFrom_L17 : Nat → q_W → Int32 → Int32 → Int32 → Int32 → Int32 → Option Int32
  | 0 => fun _ _ _ _ _ _ => none
  | n + 1 => fun x v1 v2 v3 v4 v5 =>
    if x.2 3 7 ≤ v5 then
      some v4
    else
      (q_ld x 8 256 v5).bind fun w3 =>
      if w3 = 0 then
        (f_La_nextFrom_J53 (f_La_nextFrom_L17  n) x v1 v2 v3 v4 v5)
      else
        (q_ld x 4 256 v5).bind fun w4 =>
        if ¬ w4 = (v1 >>> (3 &&& 31)) then
          (f_La_nextFrom_J53 (f_La_nextFrom_L17  n) x v1 v2 v3 v4 v5)
        else
          (f_La_nextFrom_J54 (f_La_nextFrom_L17  n) x v1 v2 v3 v4 v5 1)
def f_La_nextFrom (x : q_W) (a1 : Int32) (a2 : Int32) : Option Int32 :=
  (q_ld x 6 256 a1).bind fun w1 =>
  (f_D_hasBit x w1 a2).bind fun w2 =>
  (f_La_nextFrom_L17  q_fu x a1 a2 w2 (-1) 0)
def f_Ar_fill_L5 : Nat → q_W → Int32 → Int32 → Int32 → Option q_W
  | 0 => fun _ _ _ _ => none
  | n + 1 => fun x v1 v2 v3 =>
    if v3 ≤ v2 then
      some x
    else
      (q_sto x 13 1280 v2 v1).bind fun x1 =>
      ((f_Ar_fill_L5  n) x1 v1 (v2 + 1) v3)
def f_Ar_fill (x : q_W) (a1 : Int32) : Option q_W :=
  (f_Ar_fill_L5  q_fu x a1 0 1280)
def f_Wa_go_L28 : Nat → q_W → Int32 → Int32 → Int32 → Option q_W
  | 0 => fun _ _ _ _ => none
  | n + 1 => fun x v2 v3 v4 =>
    if 1280 < v4 then
      some x
    else
      if v2 = (-1) then
        some x
      else
        (f_La_dutyFrom x v2 v3).bind fun w5 =>
        q_let (((v2 * 5) + w5)) fun z6 =>
        (q_ld x 13 1280 z6).bind fun w7 =>
        if w7 = (-1) then
          (q_sto x 13 1280 z6 v4).bind fun x8 =>
          (q_sto x8 12 1281 v4 v2).bind fun x9 =>
          (f_La_nextFrom x9 v2 w5).bind fun w10 =>
          ((f_Wa_go_L28  n) x9 w10 w5 (v4 + 1))
        else
          (q_ld x 13 1280 z6).bind fun w11 =>
          q_let (q_wr x 11 2 w11) fun x12 =>
          q_let (q_wr x12 11 3 (v4 - (x12.2 11 2))) fun x13 =>
          some x13
def f_Wa_go (x : q_W) : Option q_W :=
  q_let (q_wr x 11 2 (-1)) fun x1 =>
  q_let (q_wr x1 11 3 (-1)) fun x2 =>
  (f_Ar_fill x2 (-1)).bind fun x3 =>
  (f_La_leastWhole x3).bind fun w4 =>
  (f_Wa_go_L28  q_fu x3 w4 0 0)
def f_D_settle (c d : Nat) (x : q_W) : Option q_W :=
  if ¬ x.2 0 7 = 0 then
    some x
  else
    (f_La_find c x).bind fun x1 =>
    (f_Wa_go x1).bind fun x2 =>
    q_let (q_wr x2 0 7 1) fun x3 =>
    some x3
def f_La_has (x : q_W) (a1 : Int32) : Option Int32 :=
  (q_ld x 8 256 a1).bind fun w1 =>
  some (q_nb w1)
def f_D_lasts (c d : Nat) (x : q_W) (a1 : Int32) : Option ((Int32 ⊕ Nat) × q_W) :=
  q_tp (f_D_requireFormula c d x) x fun w1 =>
  q_tp (f_D_requireState c d x a1) x fun w3 =>
  (f_D_settle c d x).bind fun x5 =>
  (f_La_has x5 a1).bind fun w6 =>
  some (.inl (q_nb w6), x5)
def f_La_size (x : q_W) : Option Int32 :=
  some (x.2 3 9)
def f_D_lasting (c d : Nat) (x : q_W) : Option ((Int32 ⊕ Nat) × q_W) :=
  q_tp (f_D_requireFormula c d x) x fun w1 =>
  (f_D_settle c d x).bind fun x3 =>
  (f_La_size x3).bind fun w4 =>
  some (.inl w4, x3)
def f_D_promises (c d : Nat) (x : q_W) : Option (Int32 ⊕ Nat) :=
  q_tpp (f_D_requireFormula c d x) fun w1 =>
  (f_Fo_promiseCount c x).bind fun w3 =>
  some (.inl w3)
def f_Wa_exists (x : q_W) : Option Int32 :=
  if x.2 11 2 = (-1) then
    some (q_nb 0)
  else
    some (q_nb 1)
def f_D_can (c d : Nat) (x : q_W) : Option ((Int32 ⊕ Nat) × q_W) :=
  q_tp (f_D_requireFormula c d x) x fun w1 =>
  (f_D_settle c d x).bind fun x3 =>
  (f_Wa_exists x3).bind fun w4 =>
  some (.inl (q_nb w4), x3)
def f_Wa_stemLength (x : q_W) : Option Int32 :=
  some (x.2 11 2)
def f_D_stem (c d : Nat) (x : q_W) : Option ((Int32 ⊕ Nat) × q_W) :=
  q_tp (f_D_requireFormula c d x) x fun w1 =>
  (f_D_settle c d x).bind fun x3 =>
  (f_Wa_stemLength x3).bind fun w4 =>
  some (.inl w4, x3)
def f_Wa_loopLength (x : q_W) : Option Int32 :=
  some (x.2 11 3)
def f_D_loop (c d : Nat) (x : q_W) : Option ((Int32 ⊕ Nat) × q_W) :=
  q_tp (f_D_requireFormula c d x) x fun w1 =>
  (f_D_settle c d x).bind fun x3 =>
  (f_Wa_loopLength x3).bind fun w4 =>
  some (.inl w4, x3)
def f_Wa_size (x : q_W) : Option Int32 :=
  (f_Wa_exists x).bind fun w1 =>
  if w1 = 0 then
    some 0
  else
    some ((x.2 11 2) + (x.2 11 3))
def f_Wa_stateAt (x : q_W) (a1 : Int32) : Option Int32 :=
  (q_ld x 12 1281 a1).bind fun w1 =>
  some w1
def f_D_step (c d : Nat) (x : q_W) (a1 : Int32) : Option ((Int32 ⊕ Nat) × q_W) :=
  q_tp (f_D_requireFormula c d x) x fun w1 =>
  (f_D_settle c d x).bind fun x3 =>
  (f_Wa_exists x3).bind fun w4 =>
  if ¬ w4 = 0 then
    if a1 < 0 then
      some (.inr 2, x3)
    else
      (f_Wa_size x3).bind fun w5 =>
      if a1 < w5 then
        (f_Wa_stateAt x3 a1).bind fun w6 =>
        some (.inl w6, x3)
      else
        some (.inr 2, x3)
  else
    some (.inr 1, x3)
def f_Gw_fits (x : q_W) (a0 : Int32) (a1 : Int32) : Option Int32 :=
  if a0 < 0 then
    some (q_nb 0)
  else
    if 8 < a0 then
      some (q_nb 0)
    else
      if a1 < 1 then
        some (q_nb 0)
      else
        if 8 < a1 then
          some (q_nb 0)
        else
          some (q_nb 1)
def f_Gw_size (x : q_W) : Option Int32 :=
  some ((x.2 14 1) + (x.2 14 2))
def f_Gw_reshape_L15 : Nat → q_W → Int32 → Option q_W
  | 0 => fun _ _ => none
  | n + 1 => fun x v3 =>
    if 16 ≤ v3 then
      some x
    else
      (q_sto x 15 16 v3 0).bind fun x4 =>
      ((f_Gw_reshape_L15  n) x4 (v3 + 1))
def f_Gw_reshape (x : q_W) (a1 : Int32) (a2 : Int32) : Option q_W :=
  q_let (q_wr x 14 1 a1) fun x1 =>
  q_let (q_wr x1 14 2 a2) fun x2 =>
  (f_Gw_size x2).bind fun w3 =>
  (f_Gw_reshape_L15  q_fu x2 w3)
def f_D_shape (c d : Nat) (x : q_W) (a1 : Int32) (a2 : Int32) : Option ((Int32 ⊕ Nat) × q_W) :=
  (f_Gw_fits x a1 a2).bind fun w1 =>
  if ¬ w1 = 0 then
    (f_Gw_reshape x a1 a2).bind fun x2 =>
    some (.inl 0, x2)
  else
    some (.inr 0, x)
def f_Gw_replace (x : q_W) (a1 : Int32) (a2 : Int32) : Option (Int32 × q_W) :=
  (q_ld x 15 16 a1).bind fun w1 =>
  (q_sto x 15 16 a1 (a2 &&& 7)).bind fun x2 =>
  some (w1, x2)
def f_D_set (c d : Nat) (x : q_W) (a1 : Int32) (a2 : Int32) : Option ((Int32 ⊕ Nat) × q_W) :=
  if a1 < 0 then
    some (.inr 2, x)
  else
    (f_Gw_size x).bind fun w1 =>
    if a1 < w1 then
      (f_Gw_replace x a1 a2).bind fun q2 =>
      some (.inl q2.1, q2.2)
    else
      some (.inr 2, x)
def f_Gw_take_L14 : Nat → q_W → Int32 → Option q_W
  | 0 => fun _ _ => none
  | n + 1 => fun x v2 =>
    (f_Gw_size x).bind fun w4 =>
    if w4 ≤ v2 then
      some x
    else
      (f_Wa_stateAt x v2).bind fun w5 =>
      (q_sto x 15 16 v2 (w5 &&& 7)).bind fun x6 =>
      ((f_Gw_take_L14  n) x6 (v2 + 1))
def f_Gw_take (x : q_W) : Option q_W :=
  (f_Wa_stemLength x).bind fun w1 =>
  (f_Wa_loopLength x).bind fun w2 =>
  (f_Gw_reshape x w1 w2).bind fun x3 =>
  (f_Gw_take_L14  q_fu x3 0)
def f_D_adopt (c d : Nat) (x : q_W) : Option ((Int32 ⊕ Nat) × q_W) :=
  q_tp (f_D_requireFormula c d x) x fun w1 =>
  (f_D_settle c d x).bind fun x3 =>
  (f_Wa_exists x3).bind fun w4 =>
  if w4 = 0 then
    some (.inl (q_nb 0), x3)
  else
    (f_Wa_stemLength x3).bind fun w5 =>
    (f_Wa_loopLength x3).bind fun w6 =>
    (f_Gw_fits x3 w5 w6).bind fun w7 =>
    if ¬ w7 = 0 then
      (f_Gw_take x3).bind fun x8 =>
      some (.inl (q_nb 1), x8)
    else
      some (.inl (q_nb 0), x3)
def f_D_requirePlace (c d : Nat) (x : q_W) (a1 : Int32) : Option (Int32 ⊕ Nat) :=
  if 0 ≤ a1 then
    some (.inl 0)
  else
    some (.inr 2)
def f_Gw_indexOf (x : q_W) (a1 : Int32) : Option Int32 :=
  (f_Gw_size x).bind fun w1 =>
  if a1 < w1 then
    some a1
  else
    if 1 ≤ x.2 14 2 then
      if x.2 14 2 = 0 then none else
      some ((x.2 14 1) + ((a1 - (x.2 14 1)) - (a1 - (x.2 14 1)) / (x.2 14 2) * (x.2 14 2)))
    else
      some a1
def f_Gw_letterAt (x : q_W) (a1 : Int32) : Option Int32 :=
  (f_Gw_indexOf x a1).bind fun w1 =>
  (q_ld x 15 16 w1).bind fun w2 =>
  some w2
def f_D_letter (c d : Nat) (x : q_W) (a1 : Int32) : Option (Int32 ⊕ Nat) :=
  q_tpp (f_D_requirePlace c d x a1) fun w1 =>
  (f_Gw_letterAt x a1).bind fun w3 =>
  some (.inl w3)
def f_Gw_allPlaces (x : q_W) : Option Int32 :=
  (f_Gw_size x).bind fun w1 =>
  some ((1 <<< (w1 &&& 31)) - 1)
def f_Gw_placesBefore (x : q_W) (a1 : Int32) : Option Int32 :=
  (f_D_hasBit x a1 (x.2 14 1)).bind fun w1 =>
  if w1 = 0 then
    some ((a1 >>> (1 &&& 31)) ||| 0)
  else
    (f_Gw_size x).bind fun w2 =>
    q_let ((1 <<< ((w2 - 1) &&& 31))) fun z3 =>
    some ((a1 >>> (1 &&& 31)) ||| z3)
def f_Gw_placesUntil_L5 : Nat → q_W → Int32 → Int32 → Int32 → Int32 → Option Int32
  | 0 => fun _ _ _ _ _ => none
  | n + 1 => fun x v1 v2 v3 v4 =>
    (f_Gw_size x).bind fun w1 =>
    if w1 ≤ v4 then
      some v3
    else
      (f_Gw_placesBefore x v3).bind fun w2 =>
      q_let ((v2 ||| (v1 &&& w2))) fun z3 =>
      ((f_Gw_placesUntil_L5  n) x v1 v2 z3 (v4 + 1))
def f_Gw_placesUntil (x : q_W) (a1 : Int32) (a2 : Int32) : Option Int32 :=
  (f_Gw_placesUntil_L5  q_fu x a1 a2 a2 0)
def f_Gw_placesWith_L4 : Nat → q_W → Int32 → Int32 → Int32 → Option Int32
  | 0 => fun _ _ _ _ => none
  | n + 1 => fun x v1 v2 v3 =>
    (f_Gw_size x).bind fun w1 =>
    if w1 ≤ v3 then
      some v2
    else
      (q_ld x 15 16 v3).bind fun w2 =>
      (f_D_hasBit x w2 v1).bind fun w3 =>
      if w3 = 0 then
        ((f_Gw_placesWith_L4  n) x v1 v2 (v3 + 1))
      else
        q_let ((v2 ||| (1 <<< (v3 &&& 31)))) fun z4 =>
        ((f_Gw_placesWith_L4  n) x v1 z4 (v3 + 1))
def f_Gw_placesWith (x : q_W) (a1 : Int32) : Option Int32 :=
  (f_Gw_placesWith_L4  q_fu x a1 0 0)
def f_Fo_partPlaces (f : Nat) (x : q_W) (a1 : Int32) : Option Int32 :=
  (f_Gw_allPlaces x).bind fun w1 =>
  (q_ld x (f + 2) 18 a1).bind fun w2 =>
  (q_ld x (f + 7) 18 w2).bind fun w3 =>
  (q_ld x (f + 3) 18 a1).bind fun w4 =>
  (q_ld x (f + 7) 18 w4).bind fun w5 =>
  (q_ld x (f + 1) 18 a1).bind fun w6 =>
  if w6 = 33 then
    some (w1 &&& (w5 ^^^ (-1)))
  else if w6 = 38 then
    some (w3 &&& w5)
  else if w6 = 49 then
    some w1
  else if w6 = 62 then
    some ((w1 &&& (w3 ^^^ (-1))) ||| w5)
  else if w6 = 70 then
    (f_Gw_placesUntil x w1 w5).bind fun w12 =>
    some w12
  else if w6 = 71 then
    (f_Gw_placesUntil x w1 (w1 &&& (w5 ^^^ (-1)))).bind fun w14 =>
    some (w1 &&& (w14 ^^^ (-1)))
  else if w6 = 82 then
    (f_Gw_placesUntil x (w1 &&& (w3 ^^^ (-1))) (w1 &&& (w5 ^^^ (-1)))).bind fun w16 =>
    some (w1 &&& (w16 ^^^ (-1)))
  else if w6 = 85 then
    (f_Gw_placesUntil x w3 w5).bind fun w18 =>
    some w18
  else if w6 = 88 then
    (f_Gw_placesBefore x w5).bind fun w20 =>
    some w20
  else if w6 = 97 then
    (f_Gw_placesWith x 0).bind fun w22 =>
    some w22
  else if w6 = 98 then
    (f_Gw_placesWith x 1).bind fun w24 =>
    some w24
  else if w6 = 99 then
    (f_Gw_placesWith x 2).bind fun w26 =>
    some w26
  else if w6 = 124 then
    some (w3 ||| w5)
  else 
    some 0
def f_Fo_placesOn_L2 (f : Nat) (E2 : q_W → Option (Int32 × q_W)) : Nat → q_W → Int32 → Option (Int32 × q_W)
  | 0 => fun _ _ => none
  | n + 1 => fun x v2 =>
    if x.2 f 7 ≤ v2 then
      (E2 x )
    else
      (f_Fo_partPlaces f x v2).bind fun w4 =>
      (q_sto x (f + 7) 18 v2 w4).bind fun x5 =>
      ((f_Fo_placesOn_L2 f E2 n) x5 (v2 + 1))
def f_Fo_placesOn (f : Nat) (x : q_W) : Option (Int32 × q_W) :=
  (f_Fo_placesOn_L2 f (fun x1 => if ¬ x1.2 f 7 = 0 then
    (q_ld x1 (f + 7) 18 ((x1.2 f 7) - 1)).bind fun w2 =>
    some (w2, x1)
  else
    some (0, x1)) q_fu x 0)
def f_D_holds (c d : Nat) (x : q_W) (a1 : Int32) : Option ((Int32 ⊕ Nat) × q_W) :=
  q_tp (f_D_requireFormula c d x) x fun w1 =>
  q_tp (f_D_requirePlace c d x a1) x fun w3 =>
  (f_Fo_placesOn c x).bind fun q5 =>
  (f_Gw_indexOf q5.2 a1).bind fun w6 =>
  (f_D_hasBit q5.2 q5.1 w6).bind fun w7 =>
  some (.inl (q_nb w7), q5.2)
def f_Mo_thrown (x : q_W) : Option Int32 :=
  some (x.2 32 0)
def f_Mo_type_L127 : Nat → q_W → Int32 → Int32 → Int32 → Option (Int32 × q_W)
  | 0 => fun _ _ _ _ => none
  | n + 1 => fun x v1 v2 v5 =>
    if v2 ≤ v5 then
      some ((q_nb 1), x)
    else
      (q_sto x 33 18 (x.2 32 2) ((v1 >>> ((8 * v5) &&& 31)) &&& 255)).bind fun x13 =>
      q_let (q_wr x13 32 2 ((x13.2 32 2) + 1)) fun x14 =>
      ((f_Mo_type_L127  n) x14 v1 v2 (v5 + 1))
def f_Mo_type_J103 (x : q_W) (v1 : Int32) (v2 : Int32) (v4 : Int32) (s0 : Int32) : Option (Int32 × q_W) :=
  q_let (q_wr x 32 0 s0) fun x6 =>
  if ¬ v4 = 0 then
    some ((q_nb 0), x6)
  else
    if ((x6.2 32 2) + v2) ≤ 18 then
      (f_Mo_type_L127  q_fu x6 v1 v2 0)
    else
      some ((q_nb 0), x6)
def f_Mo_type_J72 (K10 : q_W → Int32 → Int32 → Int32 → Int32 → Int32 → Option (Int32 × q_W)) (E10 : q_W → Int32 → Int32 → Int32 → Option (Int32 × q_W)) (x : q_W) (v1 : Int32) (v2 : Int32) (v3 : Int32) (v5 : Int32) (s0 : Int32) : Option (Int32 × q_W) :=
  if v3 = 0 then
    (K10 x v1 v2 v3 s0 (v5 + 1))
  else
    q_let ((v2 + 1)) fun z20 =>
    (K10 x v1 z20 v3 s0 (v5 + 1))
def f_Mo_type_J71 (K10 : q_W → Int32 → Int32 → Int32 → Int32 → Int32 → Option (Int32 × q_W)) (E10 : q_W → Int32 → Int32 → Int32 → Option (Int32 × q_W)) (x : q_W) (v1 : Int32) (v2 : Int32) (v3 : Int32) (v5 : Int32) : Option (Int32 × q_W) :=
  (f_Mo_type_J72 K10 E10 x v1 v2 v3 v5 0)
def f_Mo_type_J67 (K10 : q_W → Int32 → Int32 → Int32 → Int32 → Int32 → Option (Int32 × q_W)) (E10 : q_W → Int32 → Int32 → Int32 → Option (Int32 × q_W)) (x : q_W) (v1 : Int32) (v2 : Int32) (v3 : Int32) (v5 : Int32) : Option (Int32 × q_W) :=
  (f_Mo_type_J72 K10 E10 x v1 v2 v3 v5 1)
def f_Mo_type_J43 (K10 : q_W → Int32 → Int32 → Int32 → Int32 → Int32 → Option (Int32 × q_W)) (E10 : q_W → Int32 → Int32 → Int32 → Option (Int32 × q_W)) (x : q_W) (v1 : Int32) (v2 : Int32) (v4 : Int32) (v5 : Int32) (v6 : Int32) (s0 : Int32) : Option (Int32 × q_W) :=
  if ¬ v4 = 0 then
    (f_Mo_type_J67 K10 E10 x v1 v2 s0 v5)
  else
    if s0 = 0 then
      (f_Mo_type_J71 K10 E10 x v1 v2 s0 v5)
    else
      if v6 < 33 then
        (f_Mo_type_J67 K10 E10 x v1 v2 s0 v5)
      else
        if v6 ≤ 126 then
          (f_Mo_type_J71 K10 E10 x v1 v2 s0 v5)
        else
          (f_Mo_type_J67 K10 E10 x v1 v2 s0 v5)
def f_Mo_type_J42 (K10 : q_W → Int32 → Int32 → Int32 → Int32 → Int32 → Option (Int32 × q_W)) (E10 : q_W → Int32 → Int32 → Int32 → Option (Int32 × q_W)) (x : q_W) (v1 : Int32) (v2 : Int32) (v4 : Int32) (v5 : Int32) (v6 : Int32) : Option (Int32 × q_W) :=
  (f_Mo_type_J43 K10 E10 x v1 v2 v4 v5 v6 0)
def f_Mo_type_L10 (E10 : q_W → Int32 → Int32 → Int32 → Option (Int32 × q_W)) : Nat → q_W → Int32 → Int32 → Int32 → Int32 → Int32 → Option (Int32 × q_W)
  | 0 => fun _ _ _ _ _ _ => none
  | n + 1 => fun x v1 v2 v3 v4 v5 =>
    if 4 ≤ v5 then
      (E10 x v1 v2 v4)
    else
      q_let (((v1 >>> ((8 * v5) &&& 31)) &&& 255)) fun z9 =>
      if v3 = 0 then
        (f_Mo_type_J42 (f_Mo_type_L10 E10 n) E10 x v1 v2 v4 v5 z9)
      else
        if z9 = 0 then
          (f_Mo_type_J42 (f_Mo_type_L10 E10 n) E10 x v1 v2 v4 v5 z9)
        else
          (f_Mo_type_J43 (f_Mo_type_L10 E10 n) E10 x v1 v2 v4 v5 z9 1)
def f_Mo_type (x : q_W) (a1 : Int32) : Option (Int32 × q_W) :=
  (f_Mo_type_L10 (fun x1 u2 u3 u4 => if u4 = 0 then
    (f_Mo_type_J103  x1 u2 u3 u4 0)
  else
    (f_Mo_type_J103  x1 u2 u3 u4 1)) q_fu x a1 0 1 0 0)
def f_Mo_tightness (x : q_W) (a0 : Int32) : Option Int32 :=
  if 9 ≤ a0 then
    if 11 ≤ a0 then
      if ¬ a0 = 11 then
        if ¬ a0 = 12 then
          if ¬ a0 = 13 then
            some 0
          else
            some 1
        else
          some 2
      else
        some 3
    else
      some 4
  else
    some 5
def f_Mo_isTemporal (x : q_W) (a0 : Int32) : Option Int32 :=
  if a0 < 6 then
    some (q_nb 0)
  else
    if 10 < a0 then
      some (q_nb 0)
    else
      some (q_nb 1)
def f_Mo_part (x : q_W) (a1 : Int32) (a2 : Int32) (a3 : Int32) (a4 : Int32) : Option q_W :=
  (q_sto x 40 18 (x.2 32 13) a1).bind fun x1 =>
  (q_sto x1 43 18 (x1.2 32 13) a2).bind fun x2 =>
  (q_sto x2 41 18 (x2.2 32 13) a3).bind fun x3 =>
  (q_sto x3 42 18 (x3.2 32 13) a4).bind fun x4 =>
  (q_sto x4 44 18 (x4.2 32 20) (x4.2 32 13)).bind fun x5 =>
  q_let (q_wr x5 32 20 ((x5.2 32 20) + 1)) fun x6 =>
  q_let (q_wr x6 32 13 ((x6.2 32 13) + 1)) fun x7 =>
  some x7
def f_Mo_taken (x : q_W) : Option (Int32 × q_W) :=
  q_let (q_wr x 32 20 ((x.2 32 20) - 1)) fun x1 =>
  (q_ld x1 44 18 (x1.2 32 20)).bind fun w2 =>
  some (w2, x1)
def f_Mo_settle_J70 (K0 : q_W → Int32 → Option q_W) (x : q_W) (v1 : Int32) (v2 : Int32) (v3 : Int32) (s0 : Int32) : Option q_W :=
  (q_ld x 45 18 (x.2 32 22)).bind fun w11 =>
  (f_Mo_part x v2 (w11 >>> (4 &&& 31)) s0 v3).bind fun x12 =>
  (K0 x12 v1)
def f_Mo_settle_L0 : Nat → q_W → Int32 → Option q_W
  | 0 => fun _ _ => none
  | n + 1 => fun x v1 =>
    if x.2 32 22 ≤ 0 then
      some x
    else
      (q_ld x 45 18 ((x.2 32 22) - 1)).bind fun w1 =>
      (f_Mo_tightness x (w1 &&& 15)).bind fun w2 =>
      if w2 < v1 then
        some x
      else
        q_let (q_wr x 32 22 ((x.2 32 22) - 1)) fun x3 =>
        (q_ld x3 45 18 (x3.2 32 22)).bind fun w4 =>
        q_let ((w4 &&& 15)) fun z5 =>
        (f_Mo_taken x3).bind fun q6 =>
        if 9 ≤ z5 then
          (f_Mo_taken q6.2).bind fun q7 =>
          (f_Mo_settle_J70 (f_Mo_settle_L0  n) q7.2 v1 z5 q6.1 q7.1)
        else
          (f_Mo_settle_J70 (f_Mo_settle_L0  n) q6.2 v1 z5 q6.1 q6.1)
def f_Mo_settle (x : q_W) (a1 : Int32) : Option q_W :=
  (f_Mo_settle_L0  q_fu x a1)
def f_Mo_push (x : q_W) (a1 : Int32) : Option q_W :=
  (q_sto x 45 18 (x.2 32 22) (a1 + (16 * (x.2 32 18)))).bind fun x1 =>
  q_let (q_wr x1 32 22 ((x1.2 32 22) + 1)) fun x2 =>
  (f_Mo_isTemporal x2 a1).bind fun w3 =>
  if w3 = 0 then
    q_let (q_wr x2 32 18 (x2.2 32 18)) fun x4 =>
    some x4
  else
    q_let (q_wr x2 32 18 ((x2.2 32 18) + 1)) fun x5 =>
    some x5
def f_Mo_leafOf (x : q_W) (a0 : Int32) : Option Int32 :=
  if ¬ a0 = 48 then
    if ¬ a0 = 49 then
      if a0 < 97 then
        some (-1)
      else
        if 99 < a0 then
          some (-1)
        else
          some ((2 + a0) - 97)
    else
      some 1
  else
    some 0
def f_Mo_prefixOf (x : q_W) (a0 : Int32) : Option Int32 :=
  if ¬ a0 = 33 then
    if ¬ a0 = 88 then
      if ¬ a0 = 70 then
        if ¬ a0 = 71 then
          some (-1)
        else
          some 8
      else
        some 7
    else
      some 6
  else
    some 5
def f_Mo_signOf (x : q_W) (a0 : Int32) : Option Int32 :=
  if ¬ a0 = 85 then
    if ¬ a0 = 82 then
      if ¬ a0 = 38 then
        if ¬ a0 = 124 then
          if ¬ a0 = 62 then
            some (-1)
          else
            some 13
        else
          some 12
      else
        some 11
    else
      some 10
  else
    some 9
def f_Mo_reads_J310 (x : q_W) (v3 : Int32) (v4 : Int32) : Option (Int32 × q_W) :=
  if v4 = 0 then
    some ((q_nb 0), x)
  else
    if v3 = 0 then
      some ((q_nb 0), x)
    else
      if ¬ x.2 32 22 = 0 then
        some ((q_nb 0), x)
      else
        if 6 ≤ x.2 32 18 then
          some ((q_nb 0), x)
        else
          some ((q_nb 1), x)
def f_Mo_reads_J296 (x : q_W) (v3 : Int32) (v4 : Int32) : Option (Int32 × q_W) :=
  if v4 = 0 then
    (f_Mo_reads_J310  x v3 v4)
  else
    if v3 = 0 then
      (f_Mo_reads_J310  x v3 v4)
    else
      (f_Mo_settle x 1).bind fun x8 =>
      (f_Mo_reads_J310  x8 v3 v4)
def f_Mo_reads_J285 (K30 : q_W → Int32 → Int32 → Int32 → Int32 → Int32 → Option (Int32 × q_W)) (E30 : q_W → Int32 → Int32 → Option (Int32 × q_W)) (x : q_W) (v1 : Int32) (v2 : Int32) (v4 : Int32) (v5 : Int32) (s0 : Int32) : Option (Int32 × q_W) :=
  (f_Mo_push x s0).bind fun x44 =>
  (K30 x44 v1 v2 0 v4 (v5 + 1))
def f_Mo_reads_J270 (K30 : q_W → Int32 → Int32 → Int32 → Int32 → Int32 → Option (Int32 × q_W)) (E30 : q_W → Int32 → Int32 → Option (Int32 × q_W)) (x : q_W) (v1 : Int32) (v2 : Int32) (v4 : Int32) (v5 : Int32) (v7 : Int32) (s0 : Int32) : Option (Int32 × q_W) :=
  (f_Mo_settle x s0).bind fun x39 =>
  if v4 = 0 then
    (f_Mo_reads_J285 K30 E30 x39 v1 v2 v4 v5 5)
  else
    (f_Mo_reads_J285 K30 E30 x39 v1 v2 v4 v5 v7)
def f_Mo_reads_J265 (K30 : q_W → Int32 → Int32 → Int32 → Int32 → Int32 → Option (Int32 × q_W)) (E30 : q_W → Int32 → Int32 → Option (Int32 × q_W)) (x : q_W) (v1 : Int32) (v2 : Int32) (v4 : Int32) (v5 : Int32) (v7 : Int32) : Option (Int32 × q_W) :=
  (f_Mo_reads_J270 K30 E30 x v1 v2 v4 v5 v7 2)
def f_Mo_reads_J237 (K30 : q_W → Int32 → Int32 → Int32 → Int32 → Int32 → Option (Int32 × q_W)) (E30 : q_W → Int32 → Int32 → Option (Int32 × q_W)) (x : q_W) (v1 : Int32) (v2 : Int32) (v5 : Int32) (v7 : Int32) (s0 : Int32) : Option (Int32 × q_W) :=
  if ¬ v7 = 11 then
    if v7 = 12 then
      (f_Mo_reads_J265 K30 E30 x v1 v2 s0 v5 v7)
    else
      if ¬ v7 = 13 then
        (f_Mo_reads_J270 K30 E30 x v1 v2 s0 v5 v7 5)
      else
        (f_Mo_reads_J265 K30 E30 x v1 v2 s0 v5 v7)
  else
    (f_Mo_reads_J270 K30 E30 x v1 v2 s0 v5 v7 3)
def f_Mo_reads_J211 (K30 : q_W → Int32 → Int32 → Int32 → Int32 → Int32 → Option (Int32 × q_W)) (E30 : q_W → Int32 → Int32 → Option (Int32 × q_W)) (x : q_W) (v1 : Int32) (v2 : Int32) (v3 : Int32) (v4 : Int32) (v5 : Int32) (s0 : Int32) : Option (Int32 × q_W) :=
  q_let (q_wr x 32 22 s0) fun x41 =>
  (K30 x41 v1 (v2 + (-1)) v3 v4 (v5 + 1))
def f_Mo_reads_J193 (K30 : q_W → Int32 → Int32 → Int32 → Int32 → Int32 → Option (Int32 × q_W)) (E30 : q_W → Int32 → Int32 → Option (Int32 × q_W)) (x : q_W) (v1 : Int32) (v2 : Int32) (v3 : Int32) (v5 : Int32) (s0 : Int32) : Option (Int32 × q_W) :=
  if s0 = 0 then
    (f_Mo_reads_J211 K30 E30 x v1 v2 v3 s0 v5 0)
  else
    (f_Mo_reads_J211 K30 E30 x v1 v2 v3 s0 v5 ((x.2 32 22) - 1))
def f_Mo_reads_J163 (K30 : q_W → Int32 → Int32 → Int32 → Int32 → Int32 → Option (Int32 × q_W)) (E30 : q_W → Int32 → Int32 → Option (Int32 × q_W)) (x : q_W) (v1 : Int32) (v2 : Int32) (v3 : Int32) (v4 : Int32) (v5 : Int32) (s0 : Int32) : Option (Int32 × q_W) :=
  (f_Mo_push x s0).bind fun x45 =>
  (K30 x45 v1 v2 v3 v4 (v5 + 1))
def f_Mo_reads_J146 (K30 : q_W → Int32 → Int32 → Int32 → Int32 → Int32 → Option (Int32 × q_W)) (E30 : q_W → Int32 → Int32 → Option (Int32 × q_W)) (x : q_W) (v1 : Int32) (v2 : Int32) (v3 : Int32) (v5 : Int32) (v6 : Int32) (s0 : Int32) : Option (Int32 × q_W) :=
  if s0 = 0 then
    (f_Mo_reads_J163 K30 E30 x v1 v2 v3 s0 v5 5)
  else
    (f_Mo_prefixOf x v6).bind fun w42 =>
    (f_Mo_reads_J163 K30 E30 x v1 v2 v3 s0 v5 w42)
def f_Mo_reads_J67 (K30 : q_W → Int32 → Int32 → Int32 → Int32 → Int32 → Option (Int32 × q_W)) (E30 : q_W → Int32 → Int32 → Option (Int32 × q_W)) (x : q_W) (v1 : Int32) (v2 : Int32) (v4 : Int32) (v5 : Int32) (v6 : Int32) (s0 : Int32) : Option (Int32 × q_W) :=
  if s0 = 0 then
    if ¬ v6 = 40 then
      (f_Mo_prefixOf x v6).bind fun w30 =>
      if w30 < 0 then
        (f_Mo_reads_J146 K30 E30 x v1 v2 s0 v5 v6 0)
      else
        (f_Mo_reads_J146 K30 E30 x v1 v2 s0 v5 v6 1)
    else
      (q_sto x 45 18 (x.2 32 22) 14).bind fun x32 =>
      q_let (q_wr x32 32 22 ((x32.2 32 22) + 1)) fun x33 =>
      if 5 ≤ (v2 + 1) then
        (K30 x33 v1 (v2 + 1) s0 0 (v5 + 1))
      else
        (K30 x33 v1 (v2 + 1) s0 1 (v5 + 1))
  else
    (f_Mo_leafOf x v6).bind fun w36 =>
    (f_Mo_part x w36 0 (-1) (-1)).bind fun x37 =>
    (K30 x37 v1 v2 s0 v4 (v5 + 1))
def f_Mo_reads_L30 (E30 : q_W → Int32 → Int32 → Option (Int32 × q_W)) : Nat → q_W → Int32 → Int32 → Int32 → Int32 → Int32 → Option (Int32 × q_W)
  | 0 => fun _ _ _ _ _ _ => none
  | n + 1 => fun x v1 v2 v3 v4 v5 =>
    if v1 ≤ v5 then
      (E30 x v3 v4)
    else
      if v4 = 0 then
        (E30 x v3 v4)
      else
        (q_ld x 33 18 v5).bind fun w11 =>
        if ¬ v3 = 0 then
          if ¬ w11 = 41 then
            (f_Mo_signOf x w11).bind fun w12 =>
            if w12 < 0 then
              (f_Mo_reads_J237 (f_Mo_reads_L30 E30 n) E30 x v1 v2 v5 w12 0)
            else
              (f_Mo_reads_J237 (f_Mo_reads_L30 E30 n) E30 x v1 v2 v5 w12 1)
          else
            (f_Mo_settle x 1).bind fun x14 =>
            if x14.2 32 22 ≤ 0 then
              (f_Mo_reads_J193 (f_Mo_reads_L30 E30 n) E30 x14 v1 v2 v3 v5 0)
            else
              (f_Mo_reads_J193 (f_Mo_reads_L30 E30 n) E30 x14 v1 v2 v3 v5 1)
        else
          (f_Mo_leafOf x w11).bind fun w17 =>
          if w17 < 0 then
            (f_Mo_reads_J67 (f_Mo_reads_L30 E30 n) E30 x v1 v2 v4 v5 w11 0)
          else
            (f_Mo_reads_J67 (f_Mo_reads_L30 E30 n) E30 x v1 v2 v4 v5 w11 1)
def f_Mo_reads (x : q_W) (a1 : Int32) : Option (Int32 × q_W) :=
  q_let (q_wr x 32 13 0) fun x1 =>
  q_let (q_wr x1 32 18 0) fun x2 =>
  q_let (q_wr x2 32 20 0) fun x3 =>
  q_let (q_wr x3 32 22 0) fun x4 =>
  (f_Mo_reads_L30 (fun x5 u6 u7 => (f_Mo_reads_J296  x5 u6 u7)) q_fu x4 a1 0 0 1 0)
def f_Mo_count (x : q_W) : Option Int32 :=
  some (8 <<< ((x.2 32 9) &&& 31))
def f_Mo_leadsToOne (x : q_W) (a1 : Int32) : Option Int32 :=
  (q_ld x 53 32 (a1 >>> (3 &&& 31))).bind fun w1 =>
  some (q_nb w1)
def f_Mo_noteSome_J64 (K23 : q_W → Int32 → Option q_W) (x : q_W) (v1 : Int32) (s0 : Int32) : Option q_W :=
  (q_sto x 53 32 s0 (vp_nar .boolean 1)).bind fun x12 =>
  (K23 x12 (v1 + 1))
def f_Mo_noteSome_L23 : Nat → q_W → Int32 → Option q_W
  | 0 => fun _ _ => none
  | n + 1 => fun x v1 =>
    (f_Mo_count x).bind fun w3 =>
    if w3 ≤ v1 then
      some x
    else
      (q_ld x 46 256 v1).bind fun w4 =>
      (q_ld x 46 256 v1).bind fun w5 =>
      (q_ld x 53 32 w5).bind fun w6 =>
      if ¬ w6 = 0 then
        (f_Mo_noteSome_J64 (f_Mo_noteSome_L23  n) x v1 w4)
      else
        (q_ld x 52 256 v1).bind fun w7 =>
        if w7 = 0 then
          (q_sto x 53 32 w4 (vp_nar .boolean 0)).bind fun x8 =>
          ((f_Mo_noteSome_L23  n) x8 (v1 + 1))
        else
          (f_Mo_noteSome_J64 (f_Mo_noteSome_L23  n) x v1 w4)
def f_Mo_noteSome_L2 : Nat → q_W → Int32 → Option q_W
  | 0 => fun _ _ => none
  | n + 1 => fun x v1 =>
    if 32 ≤ v1 then
      (f_Mo_noteSome_L23  q_fu x 0)
    else
      (q_sto x 53 32 v1 (vp_nar .boolean 0)).bind fun x1 =>
      ((f_Mo_noteSome_L2  n) x1 (v1 + 1))
def f_Mo_noteSome (x : q_W) : Option q_W :=
  (f_Mo_noteSome_L2  q_fu x 0)
def f_Mo_countSteps_L120 (K60 : q_W → Int32 → Int32 → Int32 → Option q_W) : Nat → q_W → Int32 → Int32 → Int32 → Int32 → Option q_W
  | 0 => fun _ _ _ _ _ => none
  | n + 1 => fun x v1 v2 v3 v4 =>
    (f_Mo_count x).bind fun w16 =>
    if w16 ≤ v4 then
      (K60 x v1 v2 (v3 + 1))
    else
      (q_ld x 51 256 v4).bind fun w17 =>
      if w17 = 0 then
        ((f_Mo_countSteps_L120 K60 n) x v1 v2 v3 (v4 + 1))
      else
        (q_ld x 54 1280 ((256 * v1) + v4)).bind fun w18 =>
        if 0 ≤ w18 then
          ((f_Mo_countSteps_L120 K60 n) x v1 v2 v3 (v4 + 1))
        else
          (f_Mo_leadsToOne x v4).bind fun w19 =>
          if w19 = 0 then
            ((f_Mo_countSteps_L120 K60 n) x v1 v2 v3 (v4 + 1))
          else
            (q_sto x 54 1280 ((256 * v1) + v4) (v3 + 1)).bind fun x20 =>
            ((f_Mo_countSteps_L120 K60 n) x20 v1 1 v3 (v4 + 1))
def f_Mo_countSteps_L69 (K60 : q_W → Int32 → Int32 → Int32 → Option q_W) (E69 : q_W → Int32 → Int32 → Int32 → Option q_W) : Nat → q_W → Int32 → Int32 → Int32 → Int32 → Option q_W
  | 0 => fun _ _ _ _ _ => none
  | n + 1 => fun x v1 v2 v3 v4 =>
    (f_Mo_count x).bind fun w25 =>
    if w25 ≤ v4 then
      (E69 x v1 v2 v3)
    else
      (q_ld x 54 1280 ((256 * v1) + v4)).bind fun w26 =>
      if ¬ w26 = v3 then
        (q_sto x 52 256 v4 (vp_nar .boolean 0)).bind fun x27 =>
        ((f_Mo_countSteps_L69 K60 E69 n) x27 v1 v2 v3 (v4 + 1))
      else
        (q_sto x 52 256 v4 (vp_nar .boolean 1)).bind fun x28 =>
        ((f_Mo_countSteps_L69 K60 E69 n) x28 v1 v2 v3 (v4 + 1))
def f_Mo_countSteps_L60 : Nat → q_W → Int32 → Int32 → Int32 → Option q_W
  | 0 => fun _ _ _ _ => none
  | n + 1 => fun x v1 v2 v3 =>
    if v2 = 0 then
      some x
    else
      (f_Mo_countSteps_L69 (f_Mo_countSteps_L60  n) (fun x10 u11 u12 u13 => (f_Mo_noteSome x10).bind fun x14 =>
      (f_Mo_countSteps_L120 (f_Mo_countSteps_L60  n) q_fu x14 u11 u12 u13 0)) q_fu x v1 0 v3 0)
def f_Mo_countSteps_L2 : Nat → q_W → Int32 → Int32 → Option q_W
  | 0 => fun _ _ _ => none
  | n + 1 => fun x v1 v2 =>
    (f_Mo_count x).bind fun w1 =>
    if w1 ≤ v2 then
      (f_Mo_countSteps_L60  q_fu x v1 1 0)
    else
      (q_ld x 51 256 v2).bind fun w2 =>
      if w2 = 0 then
        (q_sto x 54 1280 ((256 * v1) + v2) (-1)).bind fun x3 =>
        ((f_Mo_countSteps_L2  n) x3 v1 (v2 + 1))
      else
        (q_ld x 49 256 v2).bind fun w4 =>
        if ¬ ((w4 >>> (v1 &&& 31)) &&& 1) = 1 then
          (q_sto x 54 1280 ((256 * v1) + v2) (-1)).bind fun x5 =>
          ((f_Mo_countSteps_L2  n) x5 v1 (v2 + 1))
        else
          (q_sto x 54 1280 ((256 * v1) + v2) 0).bind fun x6 =>
          ((f_Mo_countSteps_L2  n) x6 v1 (v2 + 1))
def f_Mo_countSteps (x : q_W) (a1 : Int32) : Option q_W :=
  (f_Mo_countSteps_L2  q_fu x a1 0)
def f_Mo_isDue (x : q_W) (a1 : Int32) (a2 : Int32) : Option Int32 :=
  (q_ld x 48 256 a2).bind fun w1 =>
  if ¬ ((w1 >>> (a1 &&& 31)) &&& 1) = 1 then
    some (q_nb 0)
  else
    (q_ld x 49 256 a2).bind fun w2 =>
    if ¬ ((w2 >>> (a1 &&& 31)) &&& 1) = 0 then
      some (q_nb 0)
    else
      some (q_nb 1)
def f_Mo_dutyAt_L2 : Nat → q_W → Int32 → Int32 → Int32 → Option Int32
  | 0 => fun _ _ _ _ => none
  | n + 1 => fun x v1 v2 v3 =>
    if x.2 32 11 ≤ v3 then
      some v2
    else
      if x.2 32 11 = 0 then none else
      q_let (((v2 + v3) - (v2 + v3) / (x.2 32 11) * (x.2 32 11))) fun z1 =>
      (f_Mo_isDue x z1 v1).bind fun w2 =>
      if w2 = 0 then
        ((f_Mo_dutyAt_L2  n) x v1 v2 (v3 + 1))
      else
        some z1
def f_Mo_dutyAt (x : q_W) (a1 : Int32) (a2 : Int32) : Option Int32 :=
  (f_Mo_dutyAt_L2  q_fu x a1 a2 0)
def f_Mo_firstState_L2 : Nat → q_W → Int32 → Option Int32
  | 0 => fun _ _ => none
  | n + 1 => fun x v1 =>
    (f_Mo_count x).bind fun w1 =>
    if w1 ≤ v1 then
      some (-1)
    else
      (q_ld x 51 256 v1).bind fun w2 =>
      if w2 = 0 then
        ((f_Mo_firstState_L2  n) x (v1 + 1))
      else
        (q_ld x 47 256 v1).bind fun w3 =>
        if w3 = 0 then
          ((f_Mo_firstState_L2  n) x (v1 + 1))
        else
          some v1
def f_Mo_firstState (x : q_W) : Option Int32 :=
  (f_Mo_firstState_L2  q_fu x 0)
def f_Mo_goes (x : q_W) (a1 : Int32) (a2 : Int32) : Option Int32 :=
  (q_ld x 46 256 a2).bind fun w1 =>
  if ¬ (a1 >>> (3 &&& 31)) = w1 then
    some (q_nb 0)
  else
    some (q_nb 1)
def f_Mo_nextOf_J62 (K32 : q_W → Int32 → Int32 → Int32 → Int32 → Int32 → Int32 → Option Int32) (x : q_W) (v1 : Int32) (v2 : Int32) (v3 : Int32) (v4 : Int32) (v5 : Int32) (v6 : Int32) (s0 : Int32) : Option Int32 :=
  (q_ld x 51 256 v6).bind fun w8 =>
  if w8 = 0 then
    (K32 x v1 v2 v3 v4 v5 (v6 + 1))
  else
    (f_Mo_goes x v1 v6).bind fun w9 =>
    if w9 = 0 then
      (K32 x v1 v2 v3 v4 v5 (v6 + 1))
    else
      if s0 < 0 then
        (K32 x v1 v2 v3 v4 v5 (v6 + 1))
      else
        if v5 ≤ s0 then
          (K32 x v1 v2 v3 v4 v5 (v6 + 1))
        else
          (K32 x v1 v2 v3 v6 s0 (v6 + 1))
def f_Mo_nextOf_L32 : Nat → q_W → Int32 → Int32 → Int32 → Int32 → Int32 → Int32 → Option Int32
  | 0 => fun _ _ _ _ _ _ _ => none
  | n + 1 => fun x v1 v2 v3 v4 v5 v6 =>
    (f_Mo_count x).bind fun w4 =>
    if w4 ≤ v6 then
      some v4
    else
      if v3 = 0 then
        (f_Mo_nextOf_J62 (f_Mo_nextOf_L32  n) x v1 v2 v3 v4 v5 v6 0)
      else
        (q_ld x 54 1280 ((256 * v2) + v6)).bind fun w5 =>
        (f_Mo_nextOf_J62 (f_Mo_nextOf_L32  n) x v1 v2 v3 v4 v5 v6 w5)
def f_Mo_nextOf_J21 (x : q_W) (v1 : Int32) (v2 : Int32) (s0 : Int32) : Option Int32 :=
  (f_Mo_nextOf_L32  q_fu x v1 v2 s0 (-1) 100000 0)
def f_Mo_nextOf_J20 (x : q_W) (v1 : Int32) (v2 : Int32) : Option Int32 :=
  (f_Mo_nextOf_J21  x v1 v2 0)
def f_Mo_nextOf (x : q_W) (a1 : Int32) (a2 : Int32) : Option Int32 :=
  if x.2 32 11 ≤ 0 then
    (f_Mo_nextOf_J20  x a1 a2)
  else
    (f_Mo_isDue x a2 a1).bind fun w1 =>
    if w1 = 0 then
      (f_Mo_nextOf_J20  x a1 a2)
    else
      (f_Mo_nextOf_J21  x a1 a2 1)
def f_Mo_goWalk_L62 : Nat → q_W → Int32 → Int32 → Int32 → Option q_W
  | 0 => fun _ _ _ _ => none
  | n + 1 => fun x v1 v2 v3 =>
    if v1 < 0 then
      some x
    else
      if 0 ≤ x.2 32 32 then
        some x
      else
        (f_Mo_dutyAt x v1 v3).bind fun w7 =>
        q_let (((5 * v1) + w7)) fun z8 =>
        (q_ld x 56 1280 z8).bind fun w9 =>
        if w9 < 0 then
          (q_sto x 56 1280 z8 v2).bind fun x10 =>
          (q_sto x10 55 1280 v2 v1).bind fun x11 =>
          (f_Mo_nextOf x11 v1 w7).bind fun w12 =>
          ((f_Mo_goWalk_L62  n) x11 w12 (v2 + 1) w7)
        else
          (q_ld x 56 1280 z8).bind fun w13 =>
          q_let (q_wr x 32 32 w13) fun x14 =>
          (q_ld x14 56 1280 z8).bind fun w15 =>
          q_let (q_wr x14 32 33 (v2 - w15)) fun x16 =>
          ((f_Mo_goWalk_L62  n) x16 v1 v2 w7)
def f_Mo_goWalk_L33 (E33 : q_W → Option q_W) : Nat → q_W → Int32 → Option q_W
  | 0 => fun _ _ => none
  | n + 1 => fun x v1 =>
    if 1280 ≤ v1 then
      (E33 x )
    else
      (q_sto x 56 1280 v1 (-1)).bind fun x20 =>
      ((f_Mo_goWalk_L33 E33 n) x20 (v1 + 1))
def f_Mo_goWalk_L12 : Nat → q_W → Int32 → Option q_W
  | 0 => fun _ _ => none
  | n + 1 => fun x v1 =>
    if x.2 32 11 ≤ v1 then
      (f_Mo_goWalk_L33 (fun x3 => (f_Mo_firstState x3).bind fun w4 =>
      (f_Mo_goWalk_L62  q_fu x3 w4 0 0)) q_fu x 0)
    else
      (f_Mo_countSteps x v1).bind fun x5 =>
      ((f_Mo_goWalk_L12  n) x5 (v1 + 1))
def f_Mo_goWalk (x : q_W) : Option q_W :=
  q_let (q_wr x 32 32 (-1)) fun x1 =>
  q_let (q_wr x1 32 33 (-1)) fun x2 =>
  (f_Mo_goWalk_L12  q_fu x2 0)
def f_Mo_valueOf_J271 (x : q_W) (v1 : Int32) (v3 : Int32) : Option Int32 :=
  (q_ld x 34 18 v1).bind fun w43 =>
  if ¬ ((v3 >>> ((w43 - 2) &&& 31)) &&& 1) = 1 then
    some (q_nb 0)
  else
    some (q_nb 1)
def f_Mo_valueOf_J58 (x : q_W) (v1 : Int32) (v2 : Int32) (v3 : Int32) (v4 : Int32) (s0 : Int32) : Option Int32 :=
  (q_ld x 34 18 v1).bind fun w11 =>
  if w11 = 0 then
    some (q_nb 0)
  else if w11 = 1 then
    some (q_nb 1)
  else if w11 = 2 then
    (f_Mo_valueOf_J271  x v1 v3)
  else if w11 = 3 then
    (f_Mo_valueOf_J271  x v1 v3)
  else if w11 = 4 then
    (f_Mo_valueOf_J271  x v1 v3)
  else if w11 = 5 then
    if ¬ s0 = 0 then
      some (q_nb 0)
    else
      some (q_nb 1)
  else if w11 = 6 then
    some (q_nb v2)
  else if w11 = 7 then
    if ¬ s0 = 0 then
      some (q_nb 1)
    else
      if v2 = 0 then
        some (q_nb 0)
      else
        some (q_nb 1)
  else if w11 = 8 then
    if s0 = 0 then
      some (q_nb 0)
    else
      if v2 = 0 then
        some (q_nb 0)
      else
        some (q_nb 1)
  else if w11 = 9 then
    if ¬ s0 = 0 then
      some (q_nb 1)
    else
      if v4 = 0 then
        some (q_nb 0)
      else
        if v2 = 0 then
          some (q_nb 0)
        else
          some (q_nb 1)
  else if w11 = 10 then
    if s0 = 0 then
      some (q_nb 0)
    else
      if ¬ v4 = 0 then
        some (q_nb 1)
      else
        if v2 = 0 then
          some (q_nb 0)
        else
          some (q_nb 1)
  else if w11 = 11 then
    if v4 = 0 then
      some (q_nb 0)
    else
      if s0 = 0 then
        some (q_nb 0)
      else
        some (q_nb 1)
  else if w11 = 12 then
    if ¬ v4 = 0 then
      some (q_nb 1)
    else
      if s0 = 0 then
        some (q_nb 0)
      else
        some (q_nb 1)
  else if w11 = 13 then
    if v4 = 0 then
      some (q_nb 1)
    else
      if s0 = 0 then
        some (q_nb 0)
      else
        some (q_nb 1)
  else 
    (f_Mo_valueOf_J271  x v1 v3)
def f_Mo_valueOf_J57 (x : q_W) (v1 : Int32) (v2 : Int32) (v3 : Int32) (v4 : Int32) : Option Int32 :=
  (f_Mo_valueOf_J58  x v1 v2 v3 v4 0)
def f_Mo_valueOf_J28 (x : q_W) (v1 : Int32) (v2 : Int32) (v3 : Int32) (s0 : Int32) : Option Int32 :=
  (q_ld x 36 18 v1).bind fun w6 =>
  if w6 < 0 then
    (f_Mo_valueOf_J57  x v1 v2 v3 s0)
  else
    (q_ld x 36 18 v1).bind fun w7 =>
    (q_ld x 50 18 w7).bind fun w8 =>
    if w8 = 0 then
      (f_Mo_valueOf_J57  x v1 v2 v3 s0)
    else
      (f_Mo_valueOf_J58  x v1 v2 v3 s0 1)
def f_Mo_valueOf_J27 (x : q_W) (v1 : Int32) (v2 : Int32) (v3 : Int32) : Option Int32 :=
  (f_Mo_valueOf_J28  x v1 v2 v3 0)
def f_Mo_valueOf (x : q_W) (a1 : Int32) (a2 : Int32) (a3 : Int32) : Option Int32 :=
  (q_ld x 35 18 a1).bind fun w1 =>
  if w1 < 0 then
    (f_Mo_valueOf_J27  x a1 a2 a3)
  else
    (q_ld x 35 18 a1).bind fun w2 =>
    (q_ld x 50 18 w2).bind fun w3 =>
    if w3 = 0 then
      (f_Mo_valueOf_J27  x a1 a2 a3)
    else
      (f_Mo_valueOf_J28  x a1 a2 a3 1)
def f_Mo_look_J243 (K172 : q_W → Int32 → Int32 → Int32 → Int32 → Option q_W) (E172 : q_W → Int32 → Int32 → Int32 → Option q_W) (x : q_W) (v1 : Int32) (v4 : Int32) (v5 : Int32) (v6 : Int32) (v7 : Int32) (s0 : Int32) : Option q_W :=
  (q_ld x 36 18 v6).bind fun w40 =>
  (q_ld x 50 18 w40).bind fun w41 =>
  if ¬ w41 = v7 then
    (K172 x v1 s0 v4 (v5 + 1))
  else
    q_let ((v4 ||| (1 <<< (v5 &&& 31)))) fun z42 =>
    (K172 x v1 s0 z42 (v5 + 1))
def f_Mo_look_J219 (K172 : q_W → Int32 → Int32 → Int32 → Int32 → Option q_W) (E172 : q_W → Int32 → Int32 → Int32 → Option q_W) (x : q_W) (v1 : Int32) (v3 : Int32) (v4 : Int32) (v5 : Int32) (v6 : Int32) (s0 : Int32) : Option q_W :=
  (q_ld x 50 18 v6).bind fun w34 =>
  if ¬ w34 = s0 then
    (f_Mo_look_J243 K172 E172 x v1 v4 v5 v6 s0 v3)
  else
    (f_Mo_look_J243 K172 E172 x v1 v4 v5 v6 s0 (v3 ||| (1 <<< (v5 &&& 31))))
def f_Mo_look_J214 (K172 : q_W → Int32 → Int32 → Int32 → Int32 → Option q_W) (E172 : q_W → Int32 → Int32 → Int32 → Option q_W) (x : q_W) (v1 : Int32) (v3 : Int32) (v4 : Int32) (v5 : Int32) (v6 : Int32) : Option q_W :=
  (f_Mo_look_J219 K172 E172 x v1 v3 v4 v5 v6 1)
def f_Mo_look_L172 (E172 : q_W → Int32 → Int32 → Int32 → Option q_W) : Nat → q_W → Int32 → Int32 → Int32 → Int32 → Option q_W
  | 0 => fun _ _ _ _ _ => none
  | n + 1 => fun x v1 v3 v4 v5 =>
    if x.2 32 11 ≤ v5 then
      (E172 x v1 v3 v4)
    else
      (q_ld x 39 5 v5).bind fun w15 =>
      (q_ld x 34 18 w15).bind fun w16 =>
      if w16 = 7 then
        (f_Mo_look_J214 (f_Mo_look_L172 E172 n) E172 x v1 v3 v4 v5 w15)
      else
        (q_ld x 34 18 w15).bind fun w17 =>
        if ¬ w17 = 9 then
          (f_Mo_look_J219 (f_Mo_look_L172 E172 n) E172 x v1 v3 v4 v5 w15 0)
        else
          (f_Mo_look_J214 (f_Mo_look_L172 E172 n) E172 x v1 v3 v4 v5 w15)
def f_Mo_look_J134 (K84 : q_W → Int32 → Int32 → Int32 → Option q_W) (E84 : q_W → Int32 → Int32 → Option q_W) (x : q_W) (v1 : Int32) (v2 : Int32) (v3 : Int32) (s0 : Int32) : Option q_W :=
  if s0 = 0 then
    (K84 x v1 v2 (v3 + 1))
  else
    q_let ((v2 ||| (1 <<< (v3 &&& 31)))) fun z36 =>
    (K84 x v1 z36 (v3 + 1))
def f_Mo_look_L84 (E84 : q_W → Int32 → Int32 → Option q_W) : Nat → q_W → Int32 → Int32 → Int32 → Option q_W
  | 0 => fun _ _ _ _ => none
  | n + 1 => fun x v1 v2 v3 =>
    if x.2 32 9 ≤ v3 then
      (E84 x v1 v2)
    else
      (q_ld x 38 5 v3).bind fun w21 =>
      (q_ld x 34 18 w21).bind fun w22 =>
      if ¬ w22 = 6 then
        (q_ld x 50 18 w21).bind fun w23 =>
        (f_Mo_look_J134 (f_Mo_look_L84 E84 n) E84 x v1 v2 v3 w23)
      else
        (q_ld x 36 18 w21).bind fun w24 =>
        (q_ld x 50 18 w24).bind fun w25 =>
        (f_Mo_look_J134 (f_Mo_look_L84 E84 n) E84 x v1 v2 v3 w25)
def f_Mo_look_J43 (K2 : q_W → Int32 → Int32 → Option q_W) (E2 : q_W → Int32 → Option q_W) (x : q_W) (v1 : Int32) (v2 : Int32) (s0 : Int32) : Option q_W :=
  (f_Mo_valueOf x v2 s0 v1).bind fun w38 =>
  (q_sto x 50 18 v2 (vp_nar .boolean w38)).bind fun x39 =>
  (K2 x39 v1 (v2 + 1))
def f_Mo_look_J42 (K2 : q_W → Int32 → Int32 → Option q_W) (E2 : q_W → Int32 → Option q_W) (x : q_W) (v1 : Int32) (v2 : Int32) : Option q_W :=
  (f_Mo_look_J43 K2 E2 x v1 v2 0)
def f_Mo_look_L2 (E2 : q_W → Int32 → Option q_W) : Nat → q_W → Int32 → Int32 → Option q_W
  | 0 => fun _ _ _ => none
  | n + 1 => fun x v1 v2 =>
    if x.2 32 4 ≤ v2 then
      (E2 x v1)
    else
      (q_ld x 34 18 v2).bind fun w28 =>
      (f_Mo_isTemporal x w28).bind fun w29 =>
      if w29 = 0 then
        (f_Mo_look_J42 (f_Mo_look_L2 E2 n) E2 x v1 v2)
      else
        (q_ld x 37 18 v2).bind fun w30 =>
        if ¬ ((v1 >>> ((3 + w30) &&& 31)) &&& 1) = 1 then
          (f_Mo_look_J42 (f_Mo_look_L2 E2 n) E2 x v1 v2)
        else
          (f_Mo_look_J43 (f_Mo_look_L2 E2 n) E2 x v1 v2 1)
def f_Mo_look (x : q_W) (a1 : Int32) : Option q_W :=
  (f_Mo_look_L2 (fun x1 u2 => (q_ld x1 50 18 ((x1.2 32 4) - 1)).bind fun w3 =>
  (q_sto x1 47 256 u2 (vp_nar .boolean w3)).bind fun x4 =>
  (f_Mo_look_L84 (fun x5 u6 u7 => (q_sto x5 46 256 u6 u7).bind fun x8 =>
  (f_Mo_look_L172 (fun x9 u10 u11 u12 => (q_sto x9 48 256 u10 u11).bind fun x13 =>
  (q_sto x13 49 256 u10 u12).bind fun x14 =>
  some x14) q_fu x8 u6 0 0 0)) q_fu x4 u2 0 0)) q_fu x a1 0)
def f_Mo_takeOut_L149 (K25 : q_W → Int32 → Option q_W) : Nat → q_W → Int32 → Int32 → Option q_W
  | 0 => fun _ _ _ => none
  | n + 1 => fun x v1 v2 =>
    (f_Mo_count x).bind fun w10 =>
    if w10 ≤ v2 then
      (K25 x v1)
    else
      (q_ld x 51 256 v2).bind fun w11 =>
      if w11 = 0 then
        ((f_Mo_takeOut_L149 K25 n) x v1 (v2 + 1))
      else
        (f_Mo_leadsToOne x v2).bind fun w12 =>
        if ¬ w12 = 0 then
          ((f_Mo_takeOut_L149 K25 n) x v1 (v2 + 1))
        else
          (q_sto x 51 256 v2 (vp_nar .boolean 0)).bind fun x13 =>
          ((f_Mo_takeOut_L149 K25 n) x13 1 (v2 + 1))
def f_Mo_takeOut_L117 (K25 : q_W → Int32 → Option q_W) (E117 : q_W → Int32 → Option q_W) : Nat → q_W → Int32 → Int32 → Option q_W
  | 0 => fun _ _ _ => none
  | n + 1 => fun x v1 v2 =>
    (f_Mo_count x).bind fun w17 =>
    if w17 ≤ v2 then
      (E117 x v1)
    else
      (q_ld x 51 256 v2).bind fun w18 =>
      (q_sto x 52 256 v2 (vp_nar .boolean w18)).bind fun x19 =>
      ((f_Mo_takeOut_L117 K25 E117 n) x19 v1 (v2 + 1))
def f_Mo_takeOut_L48 (K25 : q_W → Int32 → Option q_W) (K33 : q_W → Int32 → Int32 → Option q_W) : Nat → q_W → Int32 → Int32 → Int32 → Option q_W
  | 0 => fun _ _ _ _ => none
  | n + 1 => fun x v1 v2 v3 =>
    (f_Mo_count x).bind fun w21 =>
    if w21 ≤ v3 then
      (K33 x v1 (v2 + 1))
    else
      (q_ld x 51 256 v3).bind fun w22 =>
      if w22 = 0 then
        ((f_Mo_takeOut_L48 K25 K33 n) x v1 v2 (v3 + 1))
      else
        (q_ld x 48 256 v3).bind fun w23 =>
        if ¬ ((w23 >>> (v2 &&& 31)) &&& 1) = 1 then
          ((f_Mo_takeOut_L48 K25 K33 n) x v1 v2 (v3 + 1))
        else
          (q_ld x 54 1280 ((256 * v2) + v3)).bind fun w24 =>
          if 0 ≤ w24 then
            ((f_Mo_takeOut_L48 K25 K33 n) x v1 v2 (v3 + 1))
          else
            (q_sto x 51 256 v3 (vp_nar .boolean 0)).bind fun x25 =>
            ((f_Mo_takeOut_L48 K25 K33 n) x25 1 v2 (v3 + 1))
def f_Mo_takeOut_L33 (K25 : q_W → Int32 → Option q_W) : Nat → q_W → Int32 → Int32 → Option q_W
  | 0 => fun _ _ _ => none
  | n + 1 => fun x v1 v2 =>
    if x.2 32 11 ≤ v2 then
      (f_Mo_takeOut_L117 K25 (fun x5 u6 => (f_Mo_noteSome x5).bind fun x7 =>
      (f_Mo_takeOut_L149 K25 q_fu x7 u6 0)) q_fu x v1 0)
    else
      (f_Mo_countSteps x v2).bind fun x8 =>
      (f_Mo_takeOut_L48 K25 (f_Mo_takeOut_L33 K25 n) q_fu x8 v1 v2 0)
def f_Mo_takeOut_L25 : Nat → q_W → Int32 → Option q_W
  | 0 => fun _ _ => none
  | n + 1 => fun x v1 =>
    if v1 = 0 then
      some x
    else
      (f_Mo_takeOut_L33 (f_Mo_takeOut_L25  n) q_fu x 0 0)
def f_Mo_takeOut_L2 : Nat → q_W → Int32 → Option q_W
  | 0 => fun _ _ => none
  | n + 1 => fun x v1 =>
    (f_Mo_count x).bind fun w1 =>
    if w1 ≤ v1 then
      (f_Mo_takeOut_L25  q_fu x 1)
    else
      (q_sto x 51 256 v1 (vp_nar .boolean 1)).bind fun x2 =>
      ((f_Mo_takeOut_L2  n) x2 (v1 + 1))
def f_Mo_takeOut (x : q_W) : Option q_W :=
  (f_Mo_takeOut_L2  q_fu x 0)
def f_Mo_formula_L209 (E209 : q_W → Option (Int32 × q_W)) : Nat → q_W → Int32 → Option (Int32 × q_W)
  | 0 => fun _ _ => none
  | n + 1 => fun x v2 =>
    (f_Mo_count x).bind fun w35 =>
    if w35 ≤ v2 then
      (E209 x )
    else
      (f_Mo_look x v2).bind fun x36 =>
      ((f_Mo_formula_L209 E209 n) x36 (v2 + 1))
def f_Mo_formula_L152 : Nat → q_W → Int32 → Option (Int32 × q_W)
  | 0 => fun _ _ => none
  | n + 1 => fun x v2 =>
    if x.2 32 9 ≤ v2 then
      (f_Mo_formula_L209 (fun x25 => (f_Mo_takeOut x25).bind fun x26 =>
      (f_Mo_goWalk x26).bind fun x27 =>
      some (x27.2 32 4, x27)) q_fu x 0)
    else
      (q_ld x 38 5 v2).bind fun w28 =>
      (q_ld x 34 18 w28).bind fun w29 =>
      if w29 = 6 then
        ((f_Mo_formula_L152  n) x (v2 + 1))
      else
        (q_ld x 38 5 v2).bind fun w30 =>
        (q_sto x 39 5 (x.2 32 11) w30).bind fun x31 =>
        q_let (q_wr x31 32 11 ((x31.2 32 11) + 1)) fun x32 =>
        ((f_Mo_formula_L152  n) x32 (v2 + 1))
def f_Mo_formula_L64 : Nat → q_W → Int32 → Option (Int32 × q_W)
  | 0 => fun _ _ => none
  | n + 1 => fun x v2 =>
    if x.2 32 4 ≤ v2 then
      (f_Mo_formula_L152  q_fu x 0)
    else
      (q_ld x 40 18 v2).bind fun w11 =>
      (q_sto x 34 18 v2 w11).bind fun x12 =>
      (q_ld x12 41 18 v2).bind fun w13 =>
      (q_sto x12 35 18 v2 w13).bind fun x14 =>
      (q_ld x14 42 18 v2).bind fun w15 =>
      (q_sto x14 36 18 v2 w15).bind fun x16 =>
      (q_ld x16 43 18 v2).bind fun w17 =>
      (q_sto x16 37 18 v2 w17).bind fun x18 =>
      (q_ld x18 34 18 v2).bind fun w19 =>
      (f_Mo_isTemporal x18 w19).bind fun w20 =>
      if w20 = 0 then
        ((f_Mo_formula_L64  n) x18 (v2 + 1))
      else
        (q_ld x18 37 18 v2).bind fun w21 =>
        (q_sto x18 38 5 w21 v2).bind fun x22 =>
        ((f_Mo_formula_L64  n) x22 (v2 + 1))
def f_Mo_formula_J24 (x : q_W) (s0 : Int32) : Option (Int32 × q_W) :=
  q_let (q_wr x 32 0 s0) fun x5 =>
  if x5.2 32 0 ≤ 0 then
    q_let (q_wr x5 32 3 1) fun x6 =>
    q_let (q_wr x6 32 4 (x6.2 32 13)) fun x7 =>
    q_let (q_wr x7 32 9 (x7.2 32 18)) fun x8 =>
    q_let (q_wr x8 32 11 0) fun x9 =>
    (f_Mo_formula_L64  q_fu x9 0)
  else
    some (0, x5)
def f_Mo_formula (x : q_W) : Option (Int32 × q_W) :=
  q_let (x.2 32 2) fun z1 =>
  q_let (q_wr x 32 2 0) fun x2 =>
  (f_Mo_reads x2 z1).bind fun q3 =>
  if q3.1 = 0 then
    (f_Mo_formula_J24  q3.2 1)
  else
    (f_Mo_formula_J24  q3.2 0)
def f_Mo_refused_J21 (x : q_W) (s0 : Int32) : Option (Int32 × q_W) :=
  q_let (q_wr x 32 0 s0) fun x3 =>
  if x3.2 32 0 ≤ 0 then
    some ((q_nb 0), x3)
  else
    some ((q_nb 1), x3)
def f_Mo_refused (x : q_W) (a1 : Int32) : Option (Int32 × q_W) :=
  if ¬ x.2 32 3 = 0 then
    if a1 = 0 then
      (f_Mo_refused_J21  x 2)
    else
      (f_Mo_refused_J21  x 0)
  else
    (f_Mo_refused_J21  x 1)
def f_Mo_isState (x : q_W) (a1 : Int32) : Option Int32 :=
  if a1 < 0 then
    some (q_nb 0)
  else
    if x.2 32 3 = 0 then
      some (q_nb 0)
    else
      (f_Mo_count x).bind fun w1 =>
      if w1 ≤ a1 then
        some (q_nb 0)
      else
        some (q_nb 1)
def f_Mo_states (x : q_W) : Option (Int32 × q_W) :=
  (f_Mo_refused x 1).bind fun q1 =>
  if q1.1 = 0 then
    (f_Mo_count q1.2).bind fun w2 =>
    some (w2, q1.2)
  else
    some (0, q1.2)
def f_Mo_isAt (x : q_W) (a1 : Int32) : Option (Int32 × q_W) :=
  (f_Mo_isState x a1).bind fun w1 =>
  (f_Mo_refused x w1).bind fun q2 =>
  if ¬ q2.1 = 0 then
    some ((q_nb 0), q2.2)
  else
    (q_ld q2.2 47 256 a1).bind fun w3 =>
    if w3 = 0 then
      some ((q_nb 0), q2.2)
    else
      some ((q_nb 1), q2.2)
def f_Mo_leads_J22 (x : q_W) (v1 : Int32) (v2 : Int32) (s0 : Int32) : Option (Int32 × q_W) :=
  (f_Mo_refused x s0).bind fun q5 =>
  if ¬ q5.1 = 0 then
    some ((q_nb 0), q5.2)
  else
    (f_Mo_goes q5.2 v1 v2).bind fun w6 =>
    if w6 = 0 then
      some ((q_nb 0), q5.2)
    else
      some ((q_nb 1), q5.2)
def f_Mo_leads_J21 (x : q_W) (v1 : Int32) (v2 : Int32) : Option (Int32 × q_W) :=
  (f_Mo_leads_J22  x v1 v2 0)
def f_Mo_leads (x : q_W) (a1 : Int32) (a2 : Int32) : Option (Int32 × q_W) :=
  (f_Mo_isState x a1).bind fun w1 =>
  if w1 = 0 then
    (f_Mo_leads_J21  x a1 a2)
  else
    (f_Mo_isState x a2).bind fun w2 =>
    if w2 = 0 then
      (f_Mo_leads_J21  x a1 a2)
    else
      (f_Mo_leads_J22  x a1 a2 1)
def f_Mo_lasts (x : q_W) (a1 : Int32) : Option (Int32 × q_W) :=
  (f_Mo_isState x a1).bind fun w1 =>
  (f_Mo_refused x w1).bind fun q2 =>
  if ¬ q2.1 = 0 then
    some ((q_nb 0), q2.2)
  else
    (q_ld q2.2 51 256 a1).bind fun w3 =>
    if w3 = 0 then
      some ((q_nb 0), q2.2)
    else
      some ((q_nb 1), q2.2)
def f_Mo_lasting_L14 : Nat → q_W → Int32 → Int32 → Option (Int32 × q_W)
  | 0 => fun _ _ _ => none
  | n + 1 => fun x v1 v2 =>
    (f_Mo_count x).bind fun w3 =>
    if w3 ≤ v2 then
      some (v1, x)
    else
      (q_ld x 51 256 v2).bind fun w4 =>
      if w4 = 0 then
        ((f_Mo_lasting_L14  n) x v1 (v2 + 1))
      else
        q_let ((v1 + 1)) fun z5 =>
        ((f_Mo_lasting_L14  n) x z5 (v2 + 1))
def f_Mo_lasting (x : q_W) : Option (Int32 × q_W) :=
  (f_Mo_refused x 1).bind fun q1 =>
  if q1.1 = 0 then
    (f_Mo_lasting_L14  q_fu q1.2 0 0)
  else
    some (0, q1.2)
def f_Mo_promises (x : q_W) : Option (Int32 × q_W) :=
  (f_Mo_refused x 1).bind fun q1 =>
  if q1.1 = 0 then
    some (q1.2.2 32 11, q1.2)
  else
    some (0, q1.2)
def f_Mo_can (x : q_W) : Option (Int32 × q_W) :=
  (f_Mo_refused x 1).bind fun q1 =>
  if ¬ q1.1 = 0 then
    some ((q_nb 0), q1.2)
  else
    if q1.2.2 32 32 < 0 then
      some ((q_nb 0), q1.2)
    else
      some ((q_nb 1), q1.2)
def f_Mo_stem (x : q_W) : Option (Int32 × q_W) :=
  (f_Mo_refused x 1).bind fun q1 =>
  if q1.1 = 0 then
    some (q1.2.2 32 32, q1.2)
  else
    some (0, q1.2)
def f_Mo_loop (x : q_W) : Option (Int32 × q_W) :=
  (f_Mo_refused x 1).bind fun q1 =>
  if q1.1 = 0 then
    some (q1.2.2 32 33, q1.2)
  else
    some (0, q1.2)
def f_Mo_step_J41 (x : q_W) (v1 : Int32) (s0 : Int32) : Option (Int32 × q_W) :=
  q_let (q_wr x 32 0 s0) fun x5 =>
  if x5.2 32 0 ≤ 0 then
    (q_ld x5 55 1280 v1).bind fun w6 =>
    some (w6, x5)
  else
    some (0, x5)
def f_Mo_step_J36 (x : q_W) (v1 : Int32) : Option (Int32 × q_W) :=
  (f_Mo_step_J41  x v1 2)
def f_Mo_step_J15 (x : q_W) (v1 : Int32) : Option (Int32 × q_W) :=
  (f_Mo_step_J41  x v1 1)
def f_Mo_step (x : q_W) (a1 : Int32) : Option (Int32 × q_W) :=
  if x.2 32 3 = 0 then
    (f_Mo_step_J15  x a1)
  else
    if 0 ≤ x.2 32 32 then
      if a1 < 0 then
        (f_Mo_step_J36  x a1)
      else
        if a1 < ((x.2 32 32) + (x.2 32 33)) then
          (f_Mo_step_J41  x a1 0)
        else
          (f_Mo_step_J36  x a1)
    else
      (f_Mo_step_J15  x a1)
def f_Mo_shape_L71 : Nat → q_W → Int32 → Int32 → Int32 → Option q_W
  | 0 => fun _ _ _ _ => none
  | n + 1 => fun x v1 v2 v3 =>
    if 16 ≤ v3 then
      q_let (q_wr x 32 36 v1) fun x11 =>
      q_let (q_wr x11 32 37 v2) fun x12 =>
      some x12
    else
      (q_sto x 57 16 v3 0).bind fun x13 =>
      ((f_Mo_shape_L71  n) x13 v1 v2 (v3 + 1))
def f_Mo_shape_L48 : Nat → q_W → Int32 → Int32 → Int32 → Option q_W
  | 0 => fun _ _ _ _ => none
  | n + 1 => fun x v1 v2 v3 =>
    if 16 ≤ v3 then
      q_let ((v1 + v2)) fun z8 =>
      (f_Mo_shape_L71  q_fu x v1 v2 z8)
    else
      (q_sto x 57 16 v3 0).bind fun x9 =>
      ((f_Mo_shape_L48  n) x9 v1 v2 (v3 + 1))
def f_Mo_shape_J27 (x : q_W) (v1 : Int32) (v2 : Int32) (s0 : Int32) : Option q_W :=
  q_let (q_wr x 32 0 s0) fun x5 =>
  if x5.2 32 0 ≤ 0 then
    q_let (((x5.2 32 36) + (x5.2 32 37))) fun z6 =>
    (f_Mo_shape_L48  q_fu x5 v1 v2 z6)
  else
    some x5
def f_Mo_shape_J22 (x : q_W) (v1 : Int32) (v2 : Int32) : Option q_W :=
  (f_Mo_shape_J27  x v1 v2 1)
def f_Mo_shape (x : q_W) (a1 : Int32) (a2 : Int32) : Option q_W :=
  if a1 < 0 then
    (f_Mo_shape_J22  x a1 a2)
  else
    if 8 < a1 then
      (f_Mo_shape_J22  x a1 a2)
    else
      if a2 < 1 then
        (f_Mo_shape_J22  x a1 a2)
      else
        if a2 ≤ 8 then
          (f_Mo_shape_J27  x a1 a2 0)
        else
          (f_Mo_shape_J22  x a1 a2)
def f_Mo_set_J23 (x : q_W) (v1 : Int32) (v2 : Int32) (s0 : Int32) : Option (Int32 × q_W) :=
  q_let (q_wr x 32 0 s0) fun x3 =>
  if x3.2 32 0 ≤ 0 then
    (q_ld x3 57 16 v1).bind fun w4 =>
    (q_sto x3 57 16 v1 (v2 &&& 7)).bind fun x5 =>
    some (w4, x5)
  else
    some (0, x3)
def f_Mo_set_J18 (x : q_W) (v1 : Int32) (v2 : Int32) : Option (Int32 × q_W) :=
  (f_Mo_set_J23  x v1 v2 1)
def f_Mo_set (x : q_W) (a1 : Int32) (a2 : Int32) : Option (Int32 × q_W) :=
  if a1 < 0 then
    (f_Mo_set_J18  x a1 a2)
  else
    if a1 < ((x.2 32 36) + (x.2 32 37)) then
      (f_Mo_set_J23  x a1 a2 0)
    else
      (f_Mo_set_J18  x a1 a2)
def f_Mo_adopt_L53 : Nat → q_W → Int32 → Option (Int32 × q_W)
  | 0 => fun _ _ => none
  | n + 1 => fun x v1 =>
    if 16 ≤ v1 then
      some ((q_nb 1), x)
    else
      if ((x.2 32 32) + (x.2 32 33)) ≤ v1 then
        (q_sto x 57 16 v1 0).bind fun x8 =>
        ((f_Mo_adopt_L53  n) x8 (v1 + 1))
      else
        (q_ld x 55 1280 v1).bind fun w9 =>
        (q_sto x 57 16 v1 (w9 &&& 7)).bind fun x10 =>
        ((f_Mo_adopt_L53  n) x10 (v1 + 1))
def f_Mo_adopt (x : q_W) : Option (Int32 × q_W) :=
  (f_Mo_refused x 1).bind fun q1 =>
  if ¬ q1.1 = 0 then
    some ((q_nb 0), q1.2)
  else
    if q1.2.2 32 32 < 0 then
      some ((q_nb 0), q1.2)
    else
      if 8 < q1.2.2 32 32 then
        some ((q_nb 0), q1.2)
      else
        if q1.2.2 32 33 ≤ 8 then
          q_let (q_wr q1.2 32 36 (q1.2.2 32 32)) fun x2 =>
          q_let (q_wr x2 32 37 (x2.2 32 33)) fun x3 =>
          (f_Mo_adopt_L53  q_fu x3 0)
        else
          some ((q_nb 0), q1.2)
def f_Mo_placeOf (x : q_W) (a1 : Int32) : Option Int32 :=
  if x.2 32 36 ≤ a1 then
    if x.2 32 37 = 0 then none else
    some ((x.2 32 36) + ((a1 - (x.2 32 36)) - (a1 - (x.2 32 36)) / (x.2 32 37) * (x.2 32 37)))
  else
    some a1
def f_Mo_letter_J10 (x : q_W) (v1 : Int32) (s0 : Int32) : Option (Int32 × q_W) :=
  q_let (q_wr x 32 0 s0) fun x2 =>
  if x2.2 32 0 ≤ 0 then
    (f_Mo_placeOf x2 v1).bind fun w3 =>
    (q_ld x2 57 16 w3).bind fun w4 =>
    some (w4, x2)
  else
    some (0, x2)
def f_Mo_letter (x : q_W) (a1 : Int32) : Option (Int32 × q_W) :=
  if 0 ≤ a1 then
    (f_Mo_letter_J10  x a1 0)
  else
    (f_Mo_letter_J10  x a1 1)
def f_Mo_spread_J207 (K63 : q_W → Int32 → Int32 → Int32 → Option q_W) (K72 : q_W → Int32 → Int32 → Int32 → Int32 → Option q_W) (x : q_W) (v1 : Int32) (v2 : Int32) (v3 : Int32) (v4 : Int32) (s0 : Int32) : Option q_W :=
  (q_ld x 57 16 v4).bind fun w27 =>
  (f_Mo_valueOf x v1 s0 w27).bind fun w28 =>
  (q_sto x 58 288 ((16 * v1) + v4) (vp_nar .boolean w28)).bind fun x29 =>
  (K72 x29 v1 v2 v3 (v4 + 1))
def f_Mo_spread_J164 (K63 : q_W → Int32 → Int32 → Int32 → Option q_W) (K72 : q_W → Int32 → Int32 → Int32 → Int32 → Option q_W) (x : q_W) (v1 : Int32) (v2 : Int32) (v3 : Int32) (v4 : Int32) (v5 : Int32) : Option q_W :=
  (q_ld x 34 18 v1).bind fun w22 =>
  if ¬ w22 = 6 then
    (q_ld x 58 288 ((16 * v1) + v5)).bind fun w23 =>
    (f_Mo_spread_J207 K63 K72 x v1 v2 v3 v4 w23)
  else
    (q_ld x 36 18 v1).bind fun w24 =>
    (q_ld x 58 288 ((16 * w24) + v5)).bind fun w25 =>
    (f_Mo_spread_J207 K63 K72 x v1 v2 v3 v4 w25)
def f_Mo_spread_J97 (K63 : q_W → Int32 → Int32 → Int32 → Option q_W) (K72 : q_W → Int32 → Int32 → Int32 → Int32 → Option q_W) (x : q_W) (v1 : Int32) (v2 : Int32) (v3 : Int32) (v4 : Int32) (s0 : Int32) : Option q_W :=
  (q_ld x 35 18 v1).bind fun w12 =>
  if w12 < 0 then
    (f_Mo_spread_J164 K63 K72 x v1 v2 v3 v4 s0)
  else
    (q_ld x 35 18 v1).bind fun w13 =>
    (q_ld x 35 18 v1).bind fun w14 =>
    (q_ld x 58 288 ((16 * w14) + v4)).bind fun w15 =>
    (q_sto x 50 18 w13 (vp_nar .boolean w15)).bind fun x16 =>
    (q_ld x16 36 18 v1).bind fun w17 =>
    (q_ld x16 36 18 v1).bind fun w18 =>
    (q_ld x16 58 288 ((16 * w18) + v4)).bind fun w19 =>
    (q_sto x16 50 18 w17 (vp_nar .boolean w19)).bind fun x20 =>
    (f_Mo_spread_J164 K63 K72 x20 v1 v2 v3 v4 s0)
def f_Mo_spread_L72 (K63 : q_W → Int32 → Int32 → Int32 → Option q_W) : Nat → q_W → Int32 → Int32 → Int32 → Int32 → Option q_W
  | 0 => fun _ _ _ _ _ => none
  | n + 1 => fun x v1 v2 v3 v4 =>
    if v2 ≤ v4 then
      (K63 x v1 v2 (v3 + 1))
    else
      if v2 ≤ (v4 + 1) then
        (f_Mo_spread_J97 K63 (f_Mo_spread_L72 K63 n) x v1 v2 v3 v4 (x.2 32 36))
      else
        (f_Mo_spread_J97 K63 (f_Mo_spread_L72 K63 n) x v1 v2 v3 v4 (v4 + 1))
def f_Mo_spread_L63 : Nat → q_W → Int32 → Int32 → Int32 → Option q_W
  | 0 => fun _ _ _ _ => none
  | n + 1 => fun x v1 v2 v3 =>
    if 18 ≤ v3 then
      some x
    else
      (f_Mo_spread_L72 (f_Mo_spread_L63  n) q_fu x v1 v2 v3 0)
def f_Mo_spread_J49 (K12 : q_W → Int32 → Int32 → Int32 → Option q_W) (x : q_W) (v1 : Int32) (v2 : Int32) (v3 : Int32) (s0 : Int32) : Option q_W :=
  (q_sto x 58 288 s0 (vp_nar .boolean 1)).bind fun x9 =>
  (K12 x9 v1 v2 (v3 + 1))
def f_Mo_spread_L12 : Nat → q_W → Int32 → Int32 → Int32 → Option q_W
  | 0 => fun _ _ _ _ => none
  | n + 1 => fun x v1 v2 v3 =>
    if v2 ≤ v3 then
      (f_Mo_spread_L63  q_fu x v1 v2 0)
    else
      (q_ld x 34 18 v1).bind fun w2 =>
      if w2 = 8 then
        (f_Mo_spread_J49 (f_Mo_spread_L12  n) x v1 v2 v3 ((16 * v1) + v3))
      else
        (q_ld x 34 18 v1).bind fun w3 =>
        if ¬ w3 = 10 then
          (q_sto x 58 288 ((16 * v1) + v3) (vp_nar .boolean 0)).bind fun x4 =>
          ((f_Mo_spread_L12  n) x4 v1 v2 (v3 + 1))
        else
          (f_Mo_spread_J49 (f_Mo_spread_L12  n) x v1 v2 v3 ((16 * v1) + v3))
def f_Mo_spread (x : q_W) (a1 : Int32) : Option q_W :=
  q_let (((x.2 32 36) + (x.2 32 37))) fun z1 =>
  (f_Mo_spread_L12  q_fu x a1 z1 0)
def f_Mo_holds_L20 (E20 : q_W → Int32 → Option (Int32 × q_W)) : Nat → q_W → Int32 → Int32 → Option (Int32 × q_W)
  | 0 => fun _ _ _ => none
  | n + 1 => fun x v1 v2 =>
    if x.2 32 4 ≤ v2 then
      (E20 x v1)
    else
      (f_Mo_spread x v2).bind fun x8 =>
      ((f_Mo_holds_L20 E20 n) x8 v1 (v2 + 1))
def f_Mo_holds_J10 (x : q_W) (v1 : Int32) (s0 : Int32) : Option (Int32 × q_W) :=
  (f_Mo_refused x s0).bind fun q2 =>
  if q2.1 = 0 then
    (f_Mo_holds_L20 (fun x3 u4 => (f_Mo_placeOf x3 u4).bind fun w5 =>
    (q_ld x3 58 288 ((16 * ((x3.2 32 4) - 1)) + w5)).bind fun w6 =>
    some ((q_nb w6), x3)) q_fu q2.2 v1 0)
  else
    some ((q_nb 0), q2.2)
def f_Mo_holds (x : q_W) (a1 : Int32) : Option (Int32 × q_W) :=
  if a1 < 0 then
    (f_Mo_holds_J10  x a1 0)
  else
    (f_Mo_holds_J10  x a1 1)
def f_Lw_type (c d : Nat) (x : q_W) (a1 : Int32) : Option (Int32 × q_W) :=
  q_tcT (f_D_type c d x a1) (fun w1 x2 =>
    if w1 = 0 then
      q_let (0, x2.2) fun x3 =>
      some (0, x3)
    else
      q_let (1, x2.2) fun x4 =>
      some (0, x4)) (fun k6 x7 =>
    if k6 = 0 then
      some (1, x7)
    else none)
def f_Lw_formula (c d : Nat) (x : q_W) : Option (Int32 × (Nat × Nat × q_W)) :=
  q_tcT (f_D_formula c d x) (fun w1 x2 =>
    q_let (w1.toInt64, x2.2.2.2) fun x3 =>
    some (0, (x2.1, x2.2.1, x3))) (fun k4 x5 =>
    if k4 = 0 then
      some (1, (x5.1, x5.2.1, x5.2.2))
    else none)
def f_Lw_states (c d : Nat) (x : q_W) : Option (Int32 × q_W) :=
  q_tcP (f_D_states c d x) x (fun w1 _ =>
    q_let (w1.toInt64, x.2) fun x3 =>
    some (0, x3)) (fun k4 _ =>
    if k4 = 1 then
      some (1, x)
    else none)
def f_Lw_isAt (c d : Nat) (x : q_W) (a1 : Int32) : Option (Int32 × q_W) :=
  q_tcP (f_D_isAt c d x a1) x (fun w1 _ =>
    if w1 = 0 then
      q_let (0, x.2) fun x3 =>
      some (0, x3)
    else
      q_let (1, x.2) fun x4 =>
      some (0, x4)) (fun k6 _ =>
    if k6 = 1 then
      some (1, x)
    else if k6 = 2 then
      some (2, x)
    else none)
def f_Lw_leads (c d : Nat) (x : q_W) (a1 : Int32) (a2 : Int32) : Option (Int32 × q_W) :=
  q_tcP (f_D_leads c d x a1 a2) x (fun w1 _ =>
    if w1 = 0 then
      q_let (0, x.2) fun x3 =>
      some (0, x3)
    else
      q_let (1, x.2) fun x4 =>
      some (0, x4)) (fun k6 _ =>
    if k6 = 1 then
      some (1, x)
    else if k6 = 2 then
      some (2, x)
    else none)
def f_Lw_lasts (c d : Nat) (x : q_W) (a1 : Int32) : Option (Int32 × q_W) :=
  q_tcT (f_D_lasts c d x a1) (fun w1 x2 =>
    if w1 = 0 then
      q_let (0, x2.2) fun x3 =>
      some (0, x3)
    else
      q_let (1, x2.2) fun x4 =>
      some (0, x4)) (fun k6 x7 =>
    if k6 = 1 then
      some (1, x7)
    else if k6 = 2 then
      some (2, x7)
    else none)
def f_Lw_lasting (c d : Nat) (x : q_W) : Option (Int32 × q_W) :=
  q_tcT (f_D_lasting c d x) (fun w1 x2 =>
    q_let (w1.toInt64, x2.2) fun x3 =>
    some (0, x3)) (fun k4 x5 =>
    if k4 = 1 then
      some (1, x5)
    else none)
def f_Lw_promises (c d : Nat) (x : q_W) : Option (Int32 × q_W) :=
  q_tcP (f_D_promises c d x) x (fun w1 _ =>
    q_let (w1.toInt64, x.2) fun x3 =>
    some (0, x3)) (fun k4 _ =>
    if k4 = 1 then
      some (1, x)
    else none)
def f_Lw_can (c d : Nat) (x : q_W) : Option (Int32 × q_W) :=
  q_tcT (f_D_can c d x) (fun w1 x2 =>
    if w1 = 0 then
      q_let (0, x2.2) fun x3 =>
      some (0, x3)
    else
      q_let (1, x2.2) fun x4 =>
      some (0, x4)) (fun k6 x7 =>
    if k6 = 1 then
      some (1, x7)
    else none)
def f_Lw_stem (c d : Nat) (x : q_W) : Option (Int32 × q_W) :=
  q_tcT (f_D_stem c d x) (fun w1 x2 =>
    q_let (w1.toInt64, x2.2) fun x3 =>
    some (0, x3)) (fun k4 x5 =>
    if k4 = 1 then
      some (1, x5)
    else none)
def f_Lw_loop (c d : Nat) (x : q_W) : Option (Int32 × q_W) :=
  q_tcT (f_D_loop c d x) (fun w1 x2 =>
    q_let (w1.toInt64, x2.2) fun x3 =>
    some (0, x3)) (fun k4 x5 =>
    if k4 = 1 then
      some (1, x5)
    else none)
def f_Lw_step (c d : Nat) (x : q_W) (a1 : Int32) : Option (Int32 × q_W) :=
  q_tcT (f_D_step c d x a1) (fun w1 x2 =>
    q_let (w1.toInt64, x2.2) fun x3 =>
    some (0, x3)) (fun k4 x5 =>
    if k4 = 1 then
      some (1, x5)
    else if k4 = 2 then
      some (2, x5)
    else none)
def f_Lw_shape (c d : Nat) (x : q_W) (a1 : Int32) (a2 : Int32) : Option (Int32 × q_W) :=
  q_tcT (f_D_shape c d x a1 a2) (fun w1 x2 =>
    some (0, x2)) (fun k3 x4 =>
    if k3 = 0 then
      some (1, x4)
    else none)
def f_Lw_set (c d : Nat) (x : q_W) (a1 : Int32) (a2 : Int32) : Option (Int32 × q_W) :=
  q_tcT (f_D_set c d x a1 a2) (fun w1 x2 =>
    q_let (w1.toInt64, x2.2) fun x3 =>
    some (0, x3)) (fun k4 x5 =>
    if k4 = 2 then
      some (1, x5)
    else none)
def f_Lw_adopt (c d : Nat) (x : q_W) : Option (Int32 × q_W) :=
  q_tcT (f_D_adopt c d x) (fun w1 x2 =>
    if w1 = 0 then
      q_let (0, x2.2) fun x3 =>
      some (0, x3)
    else
      q_let (1, x2.2) fun x4 =>
      some (0, x4)) (fun k6 x7 =>
    if k6 = 1 then
      some (1, x7)
    else none)
def f_Lw_letter (c d : Nat) (x : q_W) (a1 : Int32) : Option (Int32 × q_W) :=
  q_tcP (f_D_letter c d x a1) x (fun w1 _ =>
    q_let (w1.toInt64, x.2) fun x3 =>
    some (0, x3)) (fun k4 _ =>
    if k4 = 2 then
      some (1, x)
    else none)
def f_Lw_holds (c d : Nat) (x : q_W) (a1 : Int32) : Option (Int32 × q_W) :=
  q_tcT (f_D_holds c d x a1) (fun w1 x2 =>
    if w1 = 0 then
      q_let (0, x2.2) fun x3 =>
      some (0, x3)
    else
      q_let (1, x2.2) fun x4 =>
      some (0, x4)) (fun k6 x7 =>
    if k6 = 1 then
      some (1, x7)
    else if k6 = 2 then
      some (2, x7)
    else none)
end
section
/-! ===== BEGIN words of one list among another's, by their places ===== -/
theorem goodIn_r {big : List Cond} (ws : List Cond) (ps : List Nat) (hp : ws = ps.filterMap (fun i => big[i]?)) (h : ws.all goodWord = true) : GoodIn big ws := by
  intro w hw
  have h1 := List.all_eq_true.mp h w hw
  rw [hp] at hw
  obtain ⟨i, -, hi⟩ := List.mem_filterMap.mp hw
  have hm : w ∈ big := by first | exact List.mem_of_getElem? hi | exact List.getElem?_mem hi
  exact ⟨hm, good_of_word h1⟩
theorem goodIn_app {big a b : List Cond} (ha : GoodIn big a) (hb : GoodIn big b) : GoodIn big (a ++ b) := fun w h => (List.mem_append.mp h).elim (ha w) (hb w)
theorem goodIn_ca {big a b : List Cond} {c : Cond} (ha : GoodIn big (c :: a)) (hb : GoodIn big b) : GoodIn big (c :: (a ++ b)) := fun w h => (List.mem_cons.mp h).elim (fun e => ha w (List.mem_cons.mpr (Or.inl e))) (fun h => (List.mem_append.mp h).elim (fun h => ha w (List.mem_cons.mpr (Or.inr h))) (hb w))
theorem goodIn_sub {big ws : List Cond} (hm : ∀ w ∈ ws, w ∈ big) (h : ws.all goodWord = true) : GoodIn big ws := fun w hw => ⟨hm w hw, good_of_word (List.all_eq_true.mp h w hw)⟩
/-! ===== END ===== -/

/-! ===== BEGIN exceptions that leave a method, and their catching by the caller (launches without stack traces) ===== -/
section VXA
/-! The laws vx_back, vx_callV, vx_callS, vx_callSW, vx_throw0, vx_throwS follow proofs of the library, with one case more: JvmDerived/Free/Laws.lean (Back.of_free), Shelf42/LK1.lean (callV, callS), Shelf/KitTraced.lean (throwNew0V, throwNewS). -/

/-- where a method has thrown q: the class by its name, the cell, what was written, the world -/
def vx_T (XC : String → State → State → Prop) (st : State) (q : Addr) (t : State) (mc ms : Nat) (free : Addr → Prop) : Prop :=
  ∃ (E : String) (ce : Cell) (L : List Loc), XC E st t ∧ t.heap[q]? = some ce ∧ ce.vm = .none ∧ st.vm.findClass E = some ce.cls ∧ st.WarmedH t.vm ∧ st.sameButNew ({ t with vm := st.vm } : State) L mc ms ∧ ∀ z ∈ L, free z.base
def vx_Q (Qc : Array Value → State → Outcome → State → Prop) (XC : String → State → State → Prop) (mc ms : Nat) (free : Addr → Prop) : Array Value → State → Outcome → State → Prop := fun a st o t =>
  (Qc a st o t ∧ ∃ L, FrameEnd st o t L mc ms ∧ ∀ q ∈ L, free q.base) ∨ ∃ q, o = .threw q ∧ vx_T XC st q t mc ms free
/-- a callee that returns or throws -/
def vx_Met (l : Launch) (y : MethodName) (ws : List Cond) (rm : Room) (Pc : Array Value → State → Prop) (Qc : Array Value → State → Outcome → State → Prop) (XC : String → State → State → Prop) (mc ms : Nat) (free : Addr → Prop) : Prop :=
  MetFree l y (headSpec ws rm) Pc (fun _ _ _ _ _ => True) (vx_Q Qc XC mc ms free)
def vx_Post (XC : String → State → State → Prop) (mc ms : Nat) (free : Addr → Prop) : Pt → Array Value → Addr → Pt → Prop := fun A a q B =>
  ∃ (g : JFrame) (mk : MethodId) (t : State) (L : List Loc) (E : String) (ce : Cell), B.U.heap = t.heap ∧ B.U.vm = t.vm ∧ XC E (A.U.calling g mk a) t ∧ t.heap[q]? = some ce ∧ ce.vm = .none ∧ A.U.vm.findClass E = some ce.cls ∧ B.locs = A.locs ++ L ∧ (∀ z ∈ L, free z.base) ∧ B.cells = A.cells + mc ∧ B.slots = A.slots + ms
def vx_Back (l : Launch) (R : Room) (p : Program) (e : Env) (below : List Frame) (s : State) (sargs : Array Value) (y : MethodName) (len W9 : Nat)
    (Pre : Pt → Array Value → Prop) (Post : Pt → Array Value → Option Value → Pt → Prop) (PostX : Pt → Array Value → Addr → Pt → Prop) : Prop :=
  ∀ (m : MethodId) (meth : Method) (c : Code) (A : Pt) (g : JFrame) (ig : Instr) (mk : MethodId) (a : Array Value),
    Stand p l e R s m sargs below meth c A.U A.locs A.cells A.slots → g.method = m → g.locals.size = c.maxLocals → decode c.code g.pc = .ok (ig, len) →
    2 * g.monitorRoom + (g.stack.map fun v => v.category).sum ≤ W9 → A.U.methodNamed? y = some mk → Pre A a →
    (∃ (v : Option Value) (B : Pt), Stand p l e R s m sargs below meth c B.U B.locs B.cells B.slots ∧ Post A a v B ∧
      Steps p.tables e below (doInvoke e (A.U.setTop g) [] mk a).1 (B.U.setTop { g with pc := g.pc + len, stack := v.toList ++ g.stack })) ∨
    (∃ (q : Addr) (B : Pt), Stand p l e R s m sargs below meth c B.U B.locs B.cells B.slots ∧ PostX A a q B ∧
      Steps p.tables e below (doInvoke e (A.U.setTop g) [] mk a).1 ((B.U.setTop g).pushFrame (.throwing q)))
section Payer
variable {l : Launch} {R : Room} {p : Program} {e : Env} {below : List Frame} {s : State} {sargs : Array Value} {y : MethodName} {len W9 : Nat}
theorem vx_back {ws : List Cond} {rm : Room} {Pc : Array Value → State → Prop} {Qc : Array Value → State → Outcome → State → Prop} {XC : String → State → State → Prop} {mc ms : Nat} {free : Addr → Prop} {bytes : ByteArray} {maxL : Nat} {ret : Option FieldType}
    (hM : vx_Met l y ws rm Pc Qc XC mc ms free) (hblind : FrameBlind Pc) (hrc : rm.cells = mc) (hrs : rm.slots = ms)
    (hframes : rm.frames + 1 ≤ R.frames) (hlocals : W9 + (maxL + 11) + rm.locals ≤ R.locals)
    (hws : ∀ w ∈ ws, ∀ a' U, s.WarmedH U.vm → w.before a' U = true) (hcode : Cond.code y bytes maxL ret ∈ ws) (hinit : ∀ a' U, s.WarmedH U.vm → (Cond.initialized y.cls).before a' U = true) :
    vx_Back l R p e below s sargs y len W9 (PreOf R mc ms Pc) (PostOf Qc mc ms free) (vx_Post XC mc ms free) := by
  intro m meth c A g ig mk a X hg hsize hdg hW hn hp
  have h1 : (headSpec ws rm).pre.before a A.U = true := atoms_intro fun w hw => hws w hw _ _ X.warmed
  have h2 : (Cond.code y bytes maxL ret).before a A.U = true := hws _ hcode _ _ X.warmed
  have h3 : (Cond.initialized y.cls).before a A.U = true := hinit _ _ X.warmed
  have h4 : A.cells + (headSpec ws rm).room.cells ≤ R.cells := by rw [show (headSpec ws rm).room.cells = mc from hrc]; exact hp.1
  have h5 : A.slots + (headSpec ws rm).room.slots ≤ R.slots := by rw [show (headSpec ws rm).room.slots = ms from hrs]; exact hp.2.1
  have hPc : Pc a (A.U.calling g mk a) := hblind _ _ _ _ hp.2.2
  obtain ⟨U, Ls, c0, s0⟩ := A
  dsimp only [Pt.U, Pt.locs, Pt.cells, Pt.slots] at h1 h2 h3 h4 h5 X hn hPc ⊢
  obtain ⟨methY, cY, hmY, hcY, -, hlY, -, -, -, -⟩ := Cond.code_spec hn h2
  obtain ⟨kY, hkY, -⟩ := className_of_methodNamed hn
  have hinitY : kY.init = .initialized := Cond.initialized_spec (findClass_of_methodNamed hn) hkY h3
  have h : At U g.method c below := by rw [hg]; exact X.here
  have hlocals9 : W9 + (maxL + 11) + (headSpec ws rm).room.locals ≤ R.locals := hlocals
  have happ : (headSpec ws rm).appliesLoose y e.platform (U.calling g mk a) = true :=
    Spec.appliesLoose_calling (g := g) h hdg hn hkY hinitY
      (X.room_calling (g := g) (R' := (headSpec ws rm).room) hsize hmY hcY hframes (by rw [hlY]; omega) h4 h5) h1
  obtain ⟨mid, hmid⟩ := h.above
  have hfr : (U.setTop g).frames = (.java g :: mid) ++ below := by rw [State.frames_setTop' g h.top, hmid]; rfl
  obtain ⟨o, s₂, hsteps, -, hend, hq⟩ := Steps.callFree hM p X.admits X.cas X.clock (acts := []) hfr happ hPc trivial
  have hq' : vx_Q Qc XC mc ms free a (U.calling g mk a) o s₂ := hq
  rw [State.frames_setTop' g h.top] at hend
  obtain ⟨g₀, hg0⟩ := Option.isSome_iff_exists.mp h.top
  obtain ⟨r, hr⟩ := State.topJava?_eq_some.mp hg0
  have hr' : (({ U with heap := s₂.heap, slotsUsed := s₂.slotsUsed } : State).setVm s₂.vm).frames = .java g₀ :: r := hr
  rcases hq' with ⟨hqc, L, hfe, hL⟩ | ⟨q, rfl, E, ce, L, hx, hce, hcv, hcl, hW₂, hsm, hL⟩
  · obtain ⟨⟨v, rfl⟩, hW₂, e2, q2, q3, q4, q5, q6⟩ := id hfe
    have e3 : s₂ = ({ (U.calling g mk a).setFrames s₂.frames with heap := s₂.heap, slotsUsed := s₂.slotsUsed } : State).setVm s₂.vm := by
      have : s₂ = ({ s₂ with vm := (U.calling g mk a).vm } : State).setVm s₂.vm := rfl
      rw [e2] at this
      exact this
    obtain ⟨c₂, i₂, len₂, hc₂, hd₂, hf₂⟩ := hend
    have hW' : U.WarmedH s₂.vm := hW₂
    have hcc : c₂ = c := by
      have h1 : s₂.code? g.method = U.code? g.method := by
        rw [State.code?_eq, State.code?_eq, hW'.alike.method?]
      exact Option.some.inj (hc₂.symm.trans (h1.trans h.code))
    subst hcc
    have hlen : len₂ = len := by rw [hdg] at hd₂; cases hd₂; rfl
    subst hlen
    have hs₂ : s₂ = (({ U with heap := s₂.heap, slotsUsed := s₂.slotsUsed } : State).setVm s₂.vm).setTop { g with pc := g.pc + len₂, stack := v.toList ++ g.stack } := by
      refine e3.trans ?_
      rw [hf₂, State.calling_eq h.top, State.setFrames_setFrames, State.setTop_of_frames _ hr', hr]
      rfl
    have hsame : U.sameButNew ({ U with heap := s₂.heap, slotsUsed := s₂.slotsUsed } : State) L mc ms := by
      refine ⟨?_, q2, q3, q4, q5, q6⟩
      obtain ⟨t, ht, -⟩ := State.frames_cons hr
      show ({ U with heap := s₂.heap, slotsUsed := s₂.slotsUsed } : State) = { U.setFrames U.frames with heap := s₂.heap, slotsUsed := s₂.slotsUsed }
      rw [State.setFrames_self ht]
    subst hg
    refine Or.inl ⟨v, ⟨(({ U with heap := s₂.heap, slotsUsed := s₂.slotsUsed } : State).setVm s₂.vm), Ls ++ L, c0 + mc, s0 + ms⟩,
      ⟨X.admits, X.cas, X.clock, X.frames, X.room, X.hears, X.method, X.code, (X.here.setHeapUsed s₂.heap s₂.slotsUsed).setVm hW'.alike, X.tail, State.WarmedH.trans X.warmed hW', X.limits, X.bytes, X.same.trans (hsame.setVm s.vm)⟩,
      ⟨g, mk, s₂, L, rfl, rfl, hqc, rfl, hL, rfl, rfl⟩, ?_⟩
    show Steps p.tables e below _ ((({ U with heap := s₂.heap, slotsUsed := s₂.slotsUsed } : State).setVm s₂.vm).setTop { g with pc := g.pc + len₂, stack := v.toList ++ g.stack })
    rw [← hs₂]
    exact hsteps
  · obtain ⟨e2, q2, q3, q4, q5, q6⟩ := id hsm
    have e3 : s₂ = ({ (U.calling g mk a).setFrames s₂.frames with heap := s₂.heap, slotsUsed := s₂.slotsUsed } : State).setVm s₂.vm := by
      have : s₂ = ({ s₂ with vm := (U.calling g mk a).vm } : State).setVm s₂.vm := rfl
      rw [e2] at this
      exact this
    have hf₂ : s₂.frames = .throwing q :: .java g :: U.frames.tail := hend
    have hW' : U.WarmedH s₂.vm := hW₂
    have hs₂ : s₂ = ((({ U with heap := s₂.heap, slotsUsed := s₂.slotsUsed } : State).setVm s₂.vm).setTop g).pushFrame (.throwing q) := by
      refine e3.trans ?_
      rw [hf₂, State.calling_eq h.top, State.setFrames_setFrames, State.pushFrame, State.frames_setTop _ hr', State.setTop_of_frames _ hr', State.setFrames_setFrames, hr]
      rfl
    have hsame : U.sameButNew ({ U with heap := s₂.heap, slotsUsed := s₂.slotsUsed } : State) L mc ms := by
      refine ⟨?_, q2, q3, q4, q5, q6⟩
      obtain ⟨t, ht, -⟩ := State.frames_cons hr
      show ({ U with heap := s₂.heap, slotsUsed := s₂.slotsUsed } : State) = { U.setFrames U.frames with heap := s₂.heap, slotsUsed := s₂.slotsUsed }
      rw [State.setFrames_self ht]
    subst hg
    refine Or.inr ⟨q, ⟨(({ U with heap := s₂.heap, slotsUsed := s₂.slotsUsed } : State).setVm s₂.vm), Ls ++ L, c0 + mc, s0 + ms⟩,
      ⟨X.admits, X.cas, X.clock, X.frames, X.room, X.hears, X.method, X.code, (X.here.setHeapUsed s₂.heap s₂.slotsUsed).setVm hW'.alike, X.tail, State.WarmedH.trans X.warmed hW', X.limits, X.bytes, X.same.trans (hsame.setVm s.vm)⟩,
      ⟨g, mk, s₂, L, E, ce, rfl, rfl, hx, hce, hcv, hcl, rfl, hL, rfl, rfl⟩, ?_⟩
    show Steps p.tables e below _ (((({ U with heap := s₂.heap, slotsUsed := s₂.slotsUsed } : State).setVm s₂.vm).setTop g).pushFrame (.throwing q))
    rw [← hs₂]
    exact hsteps
end Payer
section Calls
variable {p : Program} {l : Launch} {e : Env} {R : Room} {s : State} {m : MethodId} {args : Array Value} {below : List Frame} {meth : Method} {c : Code} {T : State} {locs : List Loc} {cells slots : Nat}
theorem vx_callV (X : Stand p l e R s m args below meth c T locs cells slots) (hexec : p.tables.exec = Jvm.exec) {own C : String} {index : Nat} {y : MethodName} {bytes : ByteArray} {maxL : Nat} {ret : Option FieldType}
    (hown : s.vm.findClass own = some m.cls) (hlink : (Cond.methodLink own index y).before args s = true) (hinst : (Cond.instanceMethod y).before args s = true) (hsel : (Cond.selects C y y).before args s = true)
    (hcode : (Cond.code y bytes maxL ret).before args s = true) (hy : y.cls ≠ "java/lang/invoke/MethodHandle" ∧ y.cls ≠ "java/lang/invoke/VarHandle")
    {W9 : Nat} {Pre : Pt → Array Value → Prop} {Post : Pt → Array Value → Option Value → Pt → Prop} {PostX : Pt → Array Value → Addr → Pt → Prop} (hK : vx_Back l R p e below s args y 3 W9 Pre Post PostX)
    {b : Addr} {cellB : Cell} (hcell : T.heap[b]? = some cellB) (hobj : cellB.vm.isStatics = false) (hcls : s.vm.findClass C = some cellB.cls)
    {g : JFrame} (hg : g.method = m) (hsize : g.locals.size = c.maxLocals) {argsL rest : List Value} (hlen : ∀ sig, parseMethodDescriptor y.desc = some sig → argsL.length = sig.parameters.length)
    (hstack : g.stack = argsL.reverse ++ .ref b :: rest) (hW : 2 * g.monitorRoom + (rest.map fun v => v.category).sum ≤ W9) (hdg : decode c.code g.pc = .ok (.invokevirtual index, 3))
    (hpre : ∀ vm₁, s.WarmedH vm₁ → Pre ⟨T.setVm vm₁, locs, cells, slots⟩ (Value.ref b :: argsL).toArray) :
    (∃ (v : Option Value) (vm₁ : Vm) (B : Pt), s.WarmedH vm₁ ∧ Stand p l e R s m args below meth c B.U B.locs B.cells B.slots ∧ Post ⟨T.setVm vm₁, locs, cells, slots⟩ (Value.ref b :: argsL).toArray v B ∧
      ∀ target, Steps p.tables e below (B.U.setTop { g with pc := g.pc + 3, stack := v.toList ++ rest }) target → Steps p.tables e below (T.setTop g) target) ∨
    (∃ (q : Addr) (vm₁ : Vm) (B : Pt), s.WarmedH vm₁ ∧ Stand p l e R s m args below meth c B.U B.locs B.cells B.slots ∧ PostX ⟨T.setVm vm₁, locs, cells, slots⟩ (Value.ref b :: argsL).toArray q B ∧
      Steps p.tables e below (T.setTop g) ((B.U.setTop { g with stack := rest }).pushFrame (.throwing q))) := by
  obtain ⟨mk, methM, hnamed, hmethM, hstM, habM⟩ := Cond.instanceMethod_spec hinst
  obtain ⟨methM', cM, hmethM', -, -, -, -, -, -, hsigM⟩ := Cond.code_spec hnamed hcode
  cases hmethM.symm.trans hmethM'
  obtain ⟨c2, r2, m2, q1, q2, q3, q4, kP, hkP, hkPi⟩ := Cond.selects_spec hsel
  cases hcls.symm.trans q1
  cases (State.methodFound?_of_named hnamed hy).symm.trans q2
  cases hnamed.symm.trans q3
  have hselP : selectMethod e.platform s.vm cellB.cls mk = .method mk := by rw [Launch.admits_selectMethod X.admits]; exact q4
  obtain ⟨vm₁, X₁, hstep₁⟩ := X.invokevirtual hexec hown hlink hnamed hmethM hstM hkP hkPi hy (a := b) (cell := cellB) hcell
    (fun z h => by rw [h] at hobj; cases hobj) hselP hmethM habM hkP hkPi (g := g) hg (argsL := argsL) (rest := rest) (hlen _ hsigM) hstack hdg
  rcases hK m meth c ⟨T.setVm vm₁, locs, cells, slots⟩ { g with stack := rest } (.invokevirtual index) mk (Value.ref b :: argsL).toArray X₁ hg hsize hdg hW (X₁.named hnamed) (hpre vm₁ X₁.warmed) with ⟨v, B, X', hpost, hsteps⟩ | ⟨q, B, X', hpost, hsteps⟩
  · exact Or.inl ⟨v, vm₁, B, X₁.warmed, X', hpost, fun target h => hstep₁ _ fun acts => by rw [doInvoke_state]; exact hsteps.trans h⟩
  · exact Or.inr ⟨q, vm₁, B, X₁.warmed, X', hpost, hstep₁ _ fun acts => by rw [doInvoke_state]; exact hsteps⟩
theorem vx_callS (X : Stand p l e R s m args below meth c T locs cells slots) (hexec : p.tables.exec = Jvm.exec) {own : String} {index : Nat} {y : MethodName} {bytes : ByteArray} {maxL : Nat} {ret : Option FieldType}
    (hown : s.vm.findClass own = some m.cls) (hlink : (Cond.methodLink own index y).before args s = true) (hstat : (Cond.static y).before args s = true) (hinit : (Cond.initialized y.cls).before args s = true)
    (hcode : (Cond.code y bytes maxL ret).before args s = true) (hy : y.cls ≠ "java/lang/invoke/MethodHandle" ∧ y.cls ≠ "java/lang/invoke/VarHandle")
    {W9 : Nat} {Pre : Pt → Array Value → Prop} {Post : Pt → Array Value → Option Value → Pt → Prop} {PostX : Pt → Array Value → Addr → Pt → Prop} (hK : vx_Back l R p e below s args y 3 W9 Pre Post PostX)
    {g : JFrame} (hg : g.method = m) (hsize : g.locals.size = c.maxLocals) {argsL rest : List Value} (hlen : ∀ sig, parseMethodDescriptor y.desc = some sig → argsL.length = sig.parameters.length)
    (hstack : g.stack = argsL.reverse ++ rest) (hW : 2 * g.monitorRoom + (rest.map fun v => v.category).sum ≤ W9) (hdg : decode c.code g.pc = .ok (.invokestatic index, 3))
    (hpre : ∀ vm₁, s.WarmedH vm₁ → Pre ⟨T.setVm vm₁, locs, cells, slots⟩ argsL.toArray) :
    (∃ (v : Option Value) (vm₁ : Vm) (B : Pt), s.WarmedH vm₁ ∧ Stand p l e R s m args below meth c B.U B.locs B.cells B.slots ∧ Post ⟨T.setVm vm₁, locs, cells, slots⟩ argsL.toArray v B ∧
      ∀ target, Steps p.tables e below (B.U.setTop { g with pc := g.pc + 3, stack := v.toList ++ rest }) target → Steps p.tables e below (T.setTop g) target) ∨
    (∃ (q : Addr) (vm₁ : Vm) (B : Pt), s.WarmedH vm₁ ∧ Stand p l e R s m args below meth c B.U B.locs B.cells B.slots ∧ PostX ⟨T.setVm vm₁, locs, cells, slots⟩ argsL.toArray q B ∧
      Steps p.tables e below (T.setTop g) ((B.U.setTop { g with stack := rest }).pushFrame (.throwing q))) := by
  obtain ⟨mk, hnamed⟩ := Cond.code_named hcode
  obtain ⟨methM, cM, hmethM, -, -, -, -, -, -, hsigM⟩ := Cond.code_spec hnamed hcode
  have hstatic : methM.isStatic = true := Cond.static_spec hnamed hmethM hstat
  obtain ⟨kP, hkP, -⟩ := className_of_methodNamed hnamed
  have hinitP : kP.init = .initialized := Cond.initialized_spec (findClass_of_methodNamed hnamed) hkP hinit
  obtain ⟨vm₁, X₁, hstep₁⟩ := X.invokestatic hexec hown hlink hnamed hmethM hstatic hkP hinitP hy (g := g) hg (argsL := argsL) (rest := rest) (hlen _ hsigM) hstack hdg
  rcases hK m meth c ⟨T.setVm vm₁, locs, cells, slots⟩ { g with stack := rest } (.invokestatic index) mk argsL.toArray X₁ hg hsize hdg hW (X₁.named hnamed) (hpre vm₁ X₁.warmed) with ⟨v, B, X', hpost, hsteps⟩ | ⟨q, B, X', hpost, hsteps⟩
  · exact Or.inl ⟨v, vm₁, B, X₁.warmed, X', hpost, fun target h => hstep₁ _ fun acts => by rw [doInvoke_state]; exact hsteps.trans h⟩
  · exact Or.inr ⟨q, vm₁, B, X₁.warmed, X', hpost, hstep₁ _ fun acts => by rw [doInvoke_state]; exact hsteps⟩
end Calls
theorem vx_cls {s : State} {T : State} {vm₁ : Vm} {E : String} {k : ClassId} (hW : s.WarmedH vm₁) (h : (T.setVm vm₁).vm.findClass E = some k) : s.vm.findClass E = some k := by
  have h1 : vm₁.findClass E = some k := h
  rw [hW.alike.findClass] at h1
  exact h1
/-- the method's frame g, with q thrown over it -/
def vx_W (p : Program) (l : Launch) (e : Env) (R : Room) (s : State) (m : MethodId) (args : Array Value) (below : List Frame) (meth : Method) (c : Code) (H : Heap) (locs : List Loc) (cells slots : Nat) (Q : State → Prop) (g : JFrame) (q : Addr) : Prop :=
  ∀ T : State, T.heap = H → Stand p l e R s m args below meth c T locs cells slots → ∃ t, Steps p.tables e below ((T.setTop g).pushFrame (.throwing q)) t ∧ Q t
def vx_Run (p : Program) (l : Launch) (e : Env) (R : Room) (s : State) (m : MethodId) (args : Array Value) (below : List Frame) (meth : Method) (c : Code) (H : Heap) (locs : List Loc) (cells slots mc ms : Nat) (g : JFrame) (rest : List Value) (Qa : State → Outcome → State → Prop) (XC : String → State → State → Prop) (free : Addr → Prop) : Prop :=
  ∀ T : State, T.heap = H → Stand p l e R s m args below meth c T locs cells slots →
    (∃ (v : Option Value) (st₀ t T' : State) (L : List Loc), st₀.heap = H ∧ Stand p l e R s m args below meth c T' (locs ++ L) (cells + mc) (slots + ms) ∧ (∀ q ∈ L, free q.base) ∧ T'.heap = t.heap ∧ T'.vm = t.vm ∧ Qa st₀ (.returned v) t ∧
      Goes p e below T g T' { g with pc := g.pc + 3, stack := v.toList ++ rest }) ∨
    (∃ (q : Addr) (st₀ t T' : State) (L : List Loc) (E : String) (ce : Cell), st₀.heap = H ∧ Stand p l e R s m args below meth c T' (locs ++ L) (cells + mc) (slots + ms) ∧ (∀ z ∈ L, free z.base) ∧ T'.heap = t.heap ∧ T'.vm = t.vm ∧ XC E st₀ t ∧ t.heap[q]? = some ce ∧ ce.vm = .none ∧ s.vm.findClass E = some ce.cls ∧
      Steps p.tables e below (T.setTop g) ((T'.setTop { g with stack := rest }).pushFrame (.throwing q)))
def vx_X {S : Type} (px : S → Prop) (B : String → S → State → Prop) (A : Nat → Prop) : String → State → State → Prop := fun E st t => ∃ u : S, px u ∧ B E u t ∧ va_F A st t
section Runs
variable {p : Program} {l : Launch} {e : Env} {R : Room} {s : State} {m : MethodId} {args : Array Value} {below : List Frame} {meth : Method} {c : Code} {H : Heap} {locs : List Loc} {cells slots : Nat}
variable {y : MethodName} {bytes cc : ByteArray} {maxL nL mc ms n index : Nat} {ret : Option FieldType} {ws : List Cond} {rm : Room} {Pc : Array Value → State → Prop} {Qc : Array Value → State → Outcome → State → Prop} {XC : String → State → State → Prop} {free : Addr → Prop} {Ts : List Cond} {own C : String} {b : Addr} {As rest : List Value} {g : JFrame}
theorem vx_callBack (cb : CallB R s args own index y bytes maxL ret ws rm mc ms n) (hM : vx_Met l y ws rm Pc Qc XC mc ms free) (hbl : FrameBlind Pc) : vx_Back l R p e below s args y 3 8 (PreOf R mc ms Pc) (PostOf Qc mc ms free) (vx_Post XC mc ms free) := by
  obtain ⟨hrc, hrs, hfr, hlo, hws, hcw, -, hini, -⟩ := cb
  exact vx_back (bytes := bytes) (maxL := maxL) (ret := ret) hM hbl hrc hrs hfr hlo hws hcw (fun a' U hW => word_at hW (Or.inl (by first | rfl | simp [Cond.onTables, Cond.keeps, Cond.steady])) hini)
theorem vx_runV (S : CallFix p m c cc nL s args Ts own) (hM : vx_Met l y ws rm Pc Qc XC mc ms free) (cw : CallW R s args own C index y bytes maxL ret ws rm mc ms n) (hp : PreV s H C b Pc As)
    (hg : g.method = m) (hn : As.length = n) (hsize : g.locals.size = nL) (hstack : g.stack = As.reverse ++ .ref b :: rest) (hW : 2 * g.monitorRoom + (rest.map fun v => v.category).sum ≤ 8) (hdg : decode cc g.pc = .ok (.invokevirtual index, 3)) (hf : cells + mc ≤ R.cells ∧ slots + ms ≤ R.slots) :
    vx_Run p l e R s m args below meth c H locs cells slots mc ms g rest (Qc (Value.ref b :: As).toArray) XC free := by
  have hK : vx_Back l R p e below s args y 3 8 (PreOf R mc ms Pc) (PostOf Qc mc ms free) (vx_Post XC mc ms free) := vx_callBack cw.1 hM hp.1
  obtain ⟨⟨-, -, -, -, -, -, hcode, -, hy, hlen, hl⟩, hin, hse⟩ := cw
  obtain ⟨hx, hb, hml, ho, -⟩ := S
  obtain ⟨-, ⟨cellB, hcB, hoB, hclB⟩, hPc⟩ := hp
  intro T hT X
  rcases vx_callV X hx (C := C) (bytes := bytes) (maxL := maxL) (ret := ret) ho hl hin hse hcode hy hK (by rw [hT]; exact hcB) hoB hclB hg (hsize.trans hml.symm) (argsL := As) (rest := rest) (fun sig h => hn.trans (hlen sig h)) hstack hW (by rw [hb]; exact hdg)
    (fun vm₁ hW₁ => ⟨hf.1, hf.2, hPc (T.setVm vm₁) hT hW₁⟩) with ⟨v, vm₁, ⟨U', l2, c2, s2⟩, hW₁, X', ⟨g', mk, t, L, e1, e2, hq, h1, hL, h2, h3⟩, st⟩ | ⟨q, vm₁, ⟨U', l2, c2, s2⟩, hW₁, X', ⟨g', mk, t, L, E, ce, e1, e2, hq, hce, hcv, hcl, h1, hL, h2, h3⟩, st⟩
  · dsimp only [Pt.U, Pt.locs, Pt.cells, Pt.slots] at X' e1 e2 h1 h2 h3 st
    subst h1; subst h2; subst h3
    exact Or.inl ⟨v, (T.setVm vm₁).calling g' mk (Value.ref b :: As).toArray, t, U', L, hT, X', hL, e1, e2, hq, st⟩
  · dsimp only [Pt.U, Pt.locs, Pt.cells, Pt.slots] at X' e1 e2 h1 h2 h3 st hcl
    subst h1; subst h2; subst h3
    exact Or.inr ⟨q, (T.setVm vm₁).calling g' mk (Value.ref b :: As).toArray, t, U', L, E, ce, hT, X', hL, e1, e2, hq, hce, hcv, vx_cls hW₁ hcl, st⟩
theorem vx_runS (S : CallFix p m c cc nL s args Ts own) (hM : vx_Met l y ws rm Pc Qc XC mc ms free) (cw : CallB R s args own index y bytes maxL ret ws rm mc ms n ∧ (Cond.static y).before args s = true) (hp : PreS s H Pc As)
    (hg : g.method = m) (hn : As.length = n) (hsize : g.locals.size = nL) (hstack : g.stack = As.reverse ++ rest) (hW : 2 * g.monitorRoom + (rest.map fun v => v.category).sum ≤ 8) (hdg : decode cc g.pc = .ok (.invokestatic index, 3)) (hf : cells + mc ≤ R.cells ∧ slots + ms ≤ R.slots) :
    vx_Run p l e R s m args below meth c H locs cells slots mc ms g rest (Qc As.toArray) XC free := by
  have hK : vx_Back l R p e below s args y 3 8 (PreOf R mc ms Pc) (PostOf Qc mc ms free) (vx_Post XC mc ms free) := vx_callBack cw.1 hM hp.1
  obtain ⟨⟨-, -, -, -, -, -, hcode, hini, hy, hlen, hl⟩, hstt⟩ := cw
  obtain ⟨hx, hb, hml, ho, -⟩ := S
  intro T hT X
  rcases vx_callS X hx (bytes := bytes) (maxL := maxL) (ret := ret) ho hl hstt hini hcode hy hK hg (hsize.trans hml.symm) (argsL := As) (rest := rest) (fun sig h => hn.trans (hlen sig h)) hstack hW (by rw [hb]; exact hdg)
    (fun vm₁ hW₁ => ⟨hf.1, hf.2, hp.2 (T.setVm vm₁) hT hW₁⟩) with ⟨v, vm₁, ⟨U', l2, c2, s2⟩, hW₁, X', ⟨g', mk, t, L, e1, e2, hq, h1, hL, h2, h3⟩, st⟩ | ⟨q, vm₁, ⟨U', l2, c2, s2⟩, hW₁, X', ⟨g', mk, t, L, E, ce, e1, e2, hq, hce, hcv, hcl, h1, hL, h2, h3⟩, st⟩
  · dsimp only [Pt.U, Pt.locs, Pt.cells, Pt.slots] at X' e1 e2 h1 h2 h3 st
    subst h1; subst h2; subst h3
    exact Or.inl ⟨v, (T.setVm vm₁).calling g' mk As.toArray, t, U', L, hT, X', hL, e1, e2, hq, st⟩
  · dsimp only [Pt.U, Pt.locs, Pt.cells, Pt.slots] at X' e1 e2 h1 h2 h3 st hcl
    subst h1; subst h2; subst h3
    exact Or.inr ⟨q, (T.setVm vm₁).calling g' mk As.toArray, t, U', L, E, ce, hT, X', hL, e1, e2, hq, hce, hcv, vx_cls hW₁ hcl, st⟩
end Runs
section Rows
variable {p : Program} {l : Launch} {e : Env} {R : Room} {s : State} {m : MethodId} {args : Array Value} {below : List Frame} {meth : Method} {c : Code} {H : Heap} {locs : List Loc} {cells slots : Nat} {Q : State → Prop}
variable {mc ms : Nat} {free : Addr → Prop} {A0 A1 : Nat → Prop} {H0 : Heap} {a : Array Value} {pc : Nat} {ls : Array Slot} {st0 rest : List Value}
theorem vx_keep {st₀ t T' : State} {L : List Loc} (h0 : st₀.heap = H) (e1 : T'.heap = t.heap) (hS : va_S A0 H0 H locs) (hA : ∀ q, q < H.size → A1 q → A0 q) (hf : ∀ q, free q → A0 q) (hL : ∀ q ∈ L, free q.base) (hF : va_F A1 st₀ t) :
    H.size ≤ T'.heap.size ∧ (∀ q : Nat, q < H.size → ¬ A1 q → T'.heap[q]? = H[q]?) ∧ va_S A0 H0 T'.heap (locs ++ L) := by
  obtain ⟨hz, hk⟩ := hF
  rw [h0] at hz hk
  exact ⟨by rw [e1]; exact hz, fun q h1 h2 => by rw [e1]; exact hk q h1 h2,
    ⟨Nat.le_trans hS.1 (by rw [e1]; exact hz), fun q h1 h2 => by rw [e1, hk q (Nat.lt_of_lt_of_le h1 hS.1) (fun z => h2 (hA q (Nat.lt_of_lt_of_le h1 hS.1) z))]; exact hS.2.1 q h1 h2, fun q hq => by
      rcases List.mem_append.mp hq with h | h
      · exact hS.2.2 q h
      · exact hf _ (hL q h)⟩⟩
theorem vx_calli {S SX : Type} {post : Int32 → S → Prop} {px : SX → Prop} {B : S → State → Prop} {BX : String → SX → State → Prop} {AX : Nat → Prop} (hr : vx_Run p l e R s m args below meth c H locs cells slots mc ms (F0 m pc ls st0) rest (va_Qi post B A1 a) (vx_X px BX AX) free) (hS : va_S A0 H0 H locs) (hA : ∀ q, q < H.size → A1 q → A0 q) (hf : ∀ q, free q → A0 q) (hAX : ∀ q, q < H.size → AX q → A0 q)
    (kx : ∀ (E : String) (ce : Cell) (q9 : Addr) (u : SX) (t : State) (H1 : Heap) (locs1 : List Loc), t.heap = H1 → s.vm.Alike t.vm → px u → BX E u t → H.size ≤ H1.size → (∀ q : Nat, q < H.size → ¬ AX q → H1[q]? = H[q]?) → va_S A0 H0 H1 locs1 → H1[q9]? = some ce → ce.vm = .none → s.vm.findClass E = some ce.cls → vx_W p l e R s m args below meth c H1 locs1 (cells + mc) (slots + ms) Q (F0 m pc ls rest) q9)
    (kk : ∀ (r : Int32) (u : S) (t : State) (H1 : Heap) (locs1 : List Loc), t.heap = H1 → s.vm.Alike t.vm → post r u → B u t → H.size ≤ H1.size → (∀ q : Nat, q < H.size → ¬ A1 q → H1[q]? = H[q]?) → va_S A0 H0 H1 locs1 → W p l e R s m args below meth c H1 locs1 (cells + mc) (slots + ms) Q (F0 m (pc + 3) ls (.int r :: rest))) : W p l e R s m args below meth c H locs cells slots Q (F0 m pc ls st0) := by
  intro T hT X
  rcases hr T hT X with ⟨v, st₀, t, T', L, h0, X', hL, e1, e2, ⟨⟨r, u, hv, hp, hb⟩, hF⟩, st⟩ | ⟨q, st₀, t, T', L, E, ce, h0, X', hL, e1, e2, ⟨u, hp, hb, hF⟩, hce, hcv, hcl, st⟩
  · cases hv
    obtain ⟨k1, k2, k3⟩ := vx_keep h0 e1 hS hA hf hL hF
    obtain ⟨t2, a1, b1⟩ := kk r u t T'.heap (locs ++ L) e1.symm (by rw [← e2]; exact X'.warmed.alike) hp hb k1 k2 k3 T' rfl X'
    exact ⟨t2, st t2 a1, b1⟩
  · obtain ⟨k1, k2, k3⟩ := vx_keep h0 e1 hS hAX hf hL hF
    obtain ⟨t2, a1, b1⟩ := kx E ce q u t T'.heap (locs ++ L) e1.symm (by rw [← e2]; exact X'.warmed.alike) hp hb k1 k2 k3 (by rw [e1]; exact hce) hcv hcl T' rfl X'
    exact ⟨t2, st.trans a1, b1⟩
theorem vx_calll {S SX : Type} {post : Int64 → S → Prop} {px : SX → Prop} {B : S → State → Prop} {BX : String → SX → State → Prop} {AX : Nat → Prop} (hr : vx_Run p l e R s m args below meth c H locs cells slots mc ms (F0 m pc ls st0) rest (va_Ql post B A1 a) (vx_X px BX AX) free) (hS : va_S A0 H0 H locs) (hA : ∀ q, q < H.size → A1 q → A0 q) (hf : ∀ q, free q → A0 q) (hAX : ∀ q, q < H.size → AX q → A0 q)
    (kx : ∀ (E : String) (ce : Cell) (q9 : Addr) (u : SX) (t : State) (H1 : Heap) (locs1 : List Loc), t.heap = H1 → s.vm.Alike t.vm → px u → BX E u t → H.size ≤ H1.size → (∀ q : Nat, q < H.size → ¬ AX q → H1[q]? = H[q]?) → va_S A0 H0 H1 locs1 → H1[q9]? = some ce → ce.vm = .none → s.vm.findClass E = some ce.cls → vx_W p l e R s m args below meth c H1 locs1 (cells + mc) (slots + ms) Q (F0 m pc ls rest) q9)
    (kk : ∀ (r : Int64) (u : S) (t : State) (H1 : Heap) (locs1 : List Loc), t.heap = H1 → s.vm.Alike t.vm → post r u → B u t → H.size ≤ H1.size → (∀ q : Nat, q < H.size → ¬ A1 q → H1[q]? = H[q]?) → va_S A0 H0 H1 locs1 → W p l e R s m args below meth c H1 locs1 (cells + mc) (slots + ms) Q (F0 m (pc + 3) ls (.long r :: rest))) : W p l e R s m args below meth c H locs cells slots Q (F0 m pc ls st0) := by
  intro T hT X
  rcases hr T hT X with ⟨v, st₀, t, T', L, h0, X', hL, e1, e2, ⟨⟨r, u, hv, hp, hb⟩, hF⟩, st⟩ | ⟨q, st₀, t, T', L, E, ce, h0, X', hL, e1, e2, ⟨u, hp, hb, hF⟩, hce, hcv, hcl, st⟩
  · cases hv
    obtain ⟨k1, k2, k3⟩ := vx_keep h0 e1 hS hA hf hL hF
    obtain ⟨t2, a1, b1⟩ := kk r u t T'.heap (locs ++ L) e1.symm (by rw [← e2]; exact X'.warmed.alike) hp hb k1 k2 k3 T' rfl X'
    exact ⟨t2, st t2 a1, b1⟩
  · obtain ⟨k1, k2, k3⟩ := vx_keep h0 e1 hS hAX hf hL hF
    obtain ⟨t2, a1, b1⟩ := kx E ce q u t T'.heap (locs ++ L) e1.symm (by rw [← e2]; exact X'.warmed.alike) hp hb k1 k2 k3 (by rw [e1]; exact hce) hcv hcl T' rfl X'
    exact ⟨t2, st.trans a1, b1⟩
theorem vx_callf {S SX : Type} {post : UInt32 → S → Prop} {px : SX → Prop} {B : S → State → Prop} {BX : String → SX → State → Prop} {AX : Nat → Prop} (hr : vx_Run p l e R s m args below meth c H locs cells slots mc ms (F0 m pc ls st0) rest (va_Qf post B A1 a) (vx_X px BX AX) free) (hS : va_S A0 H0 H locs) (hA : ∀ q, q < H.size → A1 q → A0 q) (hf : ∀ q, free q → A0 q) (hAX : ∀ q, q < H.size → AX q → A0 q)
    (kx : ∀ (E : String) (ce : Cell) (q9 : Addr) (u : SX) (t : State) (H1 : Heap) (locs1 : List Loc), t.heap = H1 → s.vm.Alike t.vm → px u → BX E u t → H.size ≤ H1.size → (∀ q : Nat, q < H.size → ¬ AX q → H1[q]? = H[q]?) → va_S A0 H0 H1 locs1 → H1[q9]? = some ce → ce.vm = .none → s.vm.findClass E = some ce.cls → vx_W p l e R s m args below meth c H1 locs1 (cells + mc) (slots + ms) Q (F0 m pc ls rest) q9)
    (kk : ∀ (r : UInt32) (u : S) (t : State) (H1 : Heap) (locs1 : List Loc), t.heap = H1 → s.vm.Alike t.vm → post r u → B u t → H.size ≤ H1.size → (∀ q : Nat, q < H.size → ¬ A1 q → H1[q]? = H[q]?) → va_S A0 H0 H1 locs1 → W p l e R s m args below meth c H1 locs1 (cells + mc) (slots + ms) Q (F0 m (pc + 3) ls (.float r :: rest))) : W p l e R s m args below meth c H locs cells slots Q (F0 m pc ls st0) := by
  intro T hT X
  rcases hr T hT X with ⟨v, st₀, t, T', L, h0, X', hL, e1, e2, ⟨⟨r, u, hv, hp, hb⟩, hF⟩, st⟩ | ⟨q, st₀, t, T', L, E, ce, h0, X', hL, e1, e2, ⟨u, hp, hb, hF⟩, hce, hcv, hcl, st⟩
  · cases hv
    obtain ⟨k1, k2, k3⟩ := vx_keep h0 e1 hS hA hf hL hF
    obtain ⟨t2, a1, b1⟩ := kk r u t T'.heap (locs ++ L) e1.symm (by rw [← e2]; exact X'.warmed.alike) hp hb k1 k2 k3 T' rfl X'
    exact ⟨t2, st t2 a1, b1⟩
  · obtain ⟨k1, k2, k3⟩ := vx_keep h0 e1 hS hAX hf hL hF
    obtain ⟨t2, a1, b1⟩ := kx E ce q u t T'.heap (locs ++ L) e1.symm (by rw [← e2]; exact X'.warmed.alike) hp hb k1 k2 k3 (by rw [e1]; exact hce) hcv hcl T' rfl X'
    exact ⟨t2, st.trans a1, b1⟩
theorem vx_calld {S SX : Type} {post : UInt64 → S → Prop} {px : SX → Prop} {B : S → State → Prop} {BX : String → SX → State → Prop} {AX : Nat → Prop} (hr : vx_Run p l e R s m args below meth c H locs cells slots mc ms (F0 m pc ls st0) rest (va_Qd post B A1 a) (vx_X px BX AX) free) (hS : va_S A0 H0 H locs) (hA : ∀ q, q < H.size → A1 q → A0 q) (hf : ∀ q, free q → A0 q) (hAX : ∀ q, q < H.size → AX q → A0 q)
    (kx : ∀ (E : String) (ce : Cell) (q9 : Addr) (u : SX) (t : State) (H1 : Heap) (locs1 : List Loc), t.heap = H1 → s.vm.Alike t.vm → px u → BX E u t → H.size ≤ H1.size → (∀ q : Nat, q < H.size → ¬ AX q → H1[q]? = H[q]?) → va_S A0 H0 H1 locs1 → H1[q9]? = some ce → ce.vm = .none → s.vm.findClass E = some ce.cls → vx_W p l e R s m args below meth c H1 locs1 (cells + mc) (slots + ms) Q (F0 m pc ls rest) q9)
    (kk : ∀ (r : UInt64) (u : S) (t : State) (H1 : Heap) (locs1 : List Loc), t.heap = H1 → s.vm.Alike t.vm → post r u → B u t → H.size ≤ H1.size → (∀ q : Nat, q < H.size → ¬ A1 q → H1[q]? = H[q]?) → va_S A0 H0 H1 locs1 → W p l e R s m args below meth c H1 locs1 (cells + mc) (slots + ms) Q (F0 m (pc + 3) ls (.double r :: rest))) : W p l e R s m args below meth c H locs cells slots Q (F0 m pc ls st0) := by
  intro T hT X
  rcases hr T hT X with ⟨v, st₀, t, T', L, h0, X', hL, e1, e2, ⟨⟨r, u, hv, hp, hb⟩, hF⟩, st⟩ | ⟨q, st₀, t, T', L, E, ce, h0, X', hL, e1, e2, ⟨u, hp, hb, hF⟩, hce, hcv, hcl, st⟩
  · cases hv
    obtain ⟨k1, k2, k3⟩ := vx_keep h0 e1 hS hA hf hL hF
    obtain ⟨t2, a1, b1⟩ := kk r u t T'.heap (locs ++ L) e1.symm (by rw [← e2]; exact X'.warmed.alike) hp hb k1 k2 k3 T' rfl X'
    exact ⟨t2, st t2 a1, b1⟩
  · obtain ⟨k1, k2, k3⟩ := vx_keep h0 e1 hS hAX hf hL hF
    obtain ⟨t2, a1, b1⟩ := kx E ce q u t T'.heap (locs ++ L) e1.symm (by rw [← e2]; exact X'.warmed.alike) hp hb k1 k2 k3 (by rw [e1]; exact hce) hcv hcl T' rfl X'
    exact ⟨t2, st.trans a1, b1⟩
theorem vx_callv {S SX : Type} {post : S → Prop} {px : SX → Prop} {B : S → State → Prop} {BX : String → SX → State → Prop} {AX : Nat → Prop} (hr : vx_Run p l e R s m args below meth c H locs cells slots mc ms (F0 m pc ls st0) rest (va_Qv post B A1 a) (vx_X px BX AX) free) (hS : va_S A0 H0 H locs) (hA : ∀ q, q < H.size → A1 q → A0 q) (hf : ∀ q, free q → A0 q) (hAX : ∀ q, q < H.size → AX q → A0 q)
    (kx : ∀ (E : String) (ce : Cell) (q9 : Addr) (u : SX) (t : State) (H1 : Heap) (locs1 : List Loc), t.heap = H1 → s.vm.Alike t.vm → px u → BX E u t → H.size ≤ H1.size → (∀ q : Nat, q < H.size → ¬ AX q → H1[q]? = H[q]?) → va_S A0 H0 H1 locs1 → H1[q9]? = some ce → ce.vm = .none → s.vm.findClass E = some ce.cls → vx_W p l e R s m args below meth c H1 locs1 (cells + mc) (slots + ms) Q (F0 m pc ls rest) q9)
    (kk : ∀ (u : S) (t : State) (H1 : Heap) (locs1 : List Loc), t.heap = H1 → s.vm.Alike t.vm → post u → B u t → H.size ≤ H1.size → (∀ q : Nat, q < H.size → ¬ A1 q → H1[q]? = H[q]?) → va_S A0 H0 H1 locs1 → W p l e R s m args below meth c H1 locs1 (cells + mc) (slots + ms) Q (F0 m (pc + 3) ls (rest))) : W p l e R s m args below meth c H locs cells slots Q (F0 m pc ls st0) := by
  intro T hT X
  rcases hr T hT X with ⟨v, st₀, t, T', L, h0, X', hL, e1, e2, ⟨⟨u, hv, hp, hb⟩, hF⟩, st⟩ | ⟨q, st₀, t, T', L, E, ce, h0, X', hL, e1, e2, ⟨u, hp, hb, hF⟩, hce, hcv, hcl, st⟩
  · cases hv
    obtain ⟨k1, k2, k3⟩ := vx_keep h0 e1 hS hA hf hL hF
    obtain ⟨t2, a1, b1⟩ := kk u t T'.heap (locs ++ L) e1.symm (by rw [← e2]; exact X'.warmed.alike) hp hb k1 k2 k3 T' rfl X'
    exact ⟨t2, st t2 a1, b1⟩
  · obtain ⟨k1, k2, k3⟩ := vx_keep h0 e1 hS hAX hf hL hF
    obtain ⟨t2, a1, b1⟩ := kx E ce q u t T'.heap (locs ++ L) e1.symm (by rw [← e2]; exact X'.warmed.alike) hp hb k1 k2 k3 (by rw [e1]; exact hce) hcv hcl T' rfl X'
    exact ⟨t2, st.trans a1, b1⟩
/-- caught by the row x of this method's table; the rows ahead don't take it -/
theorem vx_catch {own name : String} {E : String} {ce : Cell} {q : Addr} (hown : s.vm.findClass own = some m.cls) (pre : List ExceptionTableEntry) (x : ExceptionTableEntry) (suf : List ExceptionTableEntry) (hsplit : c.exceptionTable.toList = pre ++ x :: suf)
    (hpass : ∀ z ∈ pre, covers z pc = false ∨ (z.catchType ≠ 0 ∧ ∃ nm : String, (Cond.classLink own z.catchType nm).before args s = true ∧ va_Nc E nm s)) (hx : covers x pc = true) (h0 : x.catchType ≠ 0)
    (hlink : (Cond.classLink own x.catchType name).before args s = true) (hcast : (Cond.castable E name).before args s = true) (hcell : H[q]? = some ce) (hv : ce.vm = .none) (hcl : s.vm.findClass E = some ce.cls)
    (kk : W p l e R s m args below meth c H locs cells slots Q (F0 m x.handlerPc ls [.ref q])) : vx_W p l e R s m args below meth c H locs cells slots Q (F0 m pc ls rest) q := by
  intro T hT X
  have hpl : e.platform.magicAccessors = ({} : Platform).magicAccessors := by rw [X.admits.platform]
  obtain ⟨c3, c4, hc3, hc4, hasg⟩ := Cond.castable_spec hcast
  cases Option.some.inj (hc3.symm.trans hcl)
  obtain ⟨c5, hc5, hcl5⟩ := Cond.classLink_spec hown hlink e.platform hpl
  cases Option.some.inj (hc4.symm.trans hc5)
  obtain ⟨vm', X', st⟩ := X.thenCaughtThrough q (g := F0 m pc ls rest) rfl (Steps.refl _) (by rw [hT]; exact hcell) (by rw [hv]; rfl) (by obtain ⟨k9, h9, -⟩ := Vm.findClass_spec hcl; exact ⟨k9, h9⟩) pre x suf hsplit
    (fun z hz => by
      rcases hpass z hz with h | ⟨hz0, nm, hl1, hn1⟩
      · exact Or.inl h
      · obtain ⟨c6, hc6, hcl6⟩ := Cond.classLink_spec hown hl1 e.platform hpl
        obtain ⟨a8, b8, h1, h2, h3⟩ := hn1
        cases Option.some.inj (h1.symm.trans hcl)
        cases Option.some.inj (h2.symm.trans hc6)
        exact Or.inr ⟨hz0, _, hcl6, h3⟩) hx (Or.inr ⟨h0, c4, hcl5, hasg⟩)
  obtain ⟨t, a1, b1⟩ := kk (T.setVm vm') hT X'
  exact ⟨t, st.trans a1, b1⟩
end Rows
section Ends
variable {p : Program} {l : Launch} {e : Env} {R : Room} {s : State} {m : MethodId} {args : Array Value} {below : List Frame} {meth : Method} {c : Code} {H : Heap} {locs : List Loc} {cells slots : Nat} {Q : State → Prop}
variable {mc ms : Nat} {free : Addr → Prop} {A0 A1 : Nat → Prop} {H0 : Heap} {a : Array Value} {ls : Array Slot} {st0 rest : List Value}
variable {Qc : Array Value → State → Outcome → State → Prop} {XC : String → State → State → Prop}
/-- what a body that may throw owes at its end -/
def vx_MQ (below : List Frame) (Qc : Array Value → State → Outcome → State → Prop) (XC : String → State → State → Prop) (a : Array Value) (s : State) (mc ms : Nat) (free : Addr → Prop) : State → Prop := fun t =>
  ∃ o, t.status = .running ∧ Ended t below o ∧ vx_Q Qc XC mc ms free a s o t
theorem vx_ret {g : JFrame} {mc ms : Nat} (k : W p l e R s m args below meth c H locs cells slots (MQ below Qc args s mc ms free) g) : W p l e R s m args below meth c H locs cells slots (vx_MQ below Qc XC args s mc ms free) g := by
  intro T hT X
  obtain ⟨t, a1, o, b1, b2, b3, b4⟩ := k T hT X
  exact ⟨t, a1, o, b1, b2, Or.inl ⟨b3, b4⟩⟩
/-- not caught here: it goes on to the caller -/
theorem vx_widen {g : JFrame} {q : Addr} {k n : Nat} (h1 : cells ≤ k) (h2 : slots ≤ n) (kk : vx_W p l e R s m args below meth c H locs k n Q g q) : vx_W p l e R s m args below meth c H locs cells slots Q g q := fun T hT X => kk T hT (stand_widen X h1 h2)
theorem vx_out {pc : Nat} {E : String} {ce : Cell} {q : Addr} {mc ms : Nat} (hout : ∀ x ∈ c.exceptionTable.toList, covers x pc = false) (hlocks : meth.locks = false) (hcell : H[q]? = some ce) (hv : ce.vm = .none) (hcl : s.vm.findClass E = some ce.cls)
    (hx : ∀ t : State, t.heap = H → s.vm.Alike t.vm → XC E s t) (hf : ∀ z ∈ locs, free z.base) (hc : cells ≤ mc) (hs : slots ≤ ms) :
    vx_W p l e R s m args below meth c H locs cells slots (vx_MQ below Qc XC args s mc ms free) (F0 m pc ls rest) q := by
  intro T hT X
  obtain ⟨st1, hrun, hend, hW, hsm⟩ := X.leaveThrown q (g := F0 m pc ls rest) rfl rfl rfl hout hlocks
  have hcell9 : (T.setFrames (.throwing q :: below)).heap[q]? = some ce := by
    show T.heap[q]? = some ce
    rw [hT]; exact hcell
  exact ⟨_, st1, .threw q, hrun, hend, Or.inr ⟨q, rfl, E, ce, locs, hx _ hT hW.alike, hcell9, hv, hcl, hW, hsm.mono hc hs, hf⟩⟩
theorem vx_frame {U : State} {k n : Nat} (h : s.sameButNew ({ U with vm := s.vm } : State) locs k n) : s.heap.size ≤ U.heap.size ∧ ∀ q : Nat, q < s.heap.size → (∀ z ∈ locs, z.base ≠ q) → U.heap[q]? = s.heap[q]? := by
  obtain ⟨-, h2, -, -, -, h6⟩ := h
  refine ⟨h2, fun q hq hz => ?_⟩
  obtain ⟨c9, e1, e2, e3, e4⟩ := h6 q _ (Array.getElem?_eq_getElem hq)
  have hs : c9.slots = (s.heap[q]).slots := Array.ext_getElem? fun i => e4 i fun hm => hz _ hm rfl
  have h9 : c9 = s.heap[q] := by
    rw [hs] at e2
    exact e2
  have e5 : U.heap[q]? = some c9 := e1
  rw [e5, h9, Array.getElem?_eq_getElem hq]
/-- the words of a throw but the four that speak of the heap -/
def vx_no (w : Cond) : Bool := decide (w ≠ .isRef (.static Bundle.tN "UNASSIGNED_STACK" Bundle.steD)) && decide (w ≠ .isRef (.static Bundle.tN "SUPPRESSED_SENTINEL" Bundle.listD)) && decide (w ≠ .laysStatic Bundle.tN "UNASSIGNED_STACK" Bundle.steD) && decide (w ≠ .laysStatic Bundle.tN "SUPPRESSED_SENTINEL" Bundle.listD)
def vx_at0 (own : String) (ic : Nat) (X : String) (names : List String) : List Cond := (Bundle.ownAtoms0 own ic X names).filter vx_no
def vx_atS (own : String) (ic : Nat) (X : String) (names : List String) : List Cond := (Bundle.ownAtoms own ic X names).filter vx_no
/-- a word that the tables alone decide, or a good one -/
def vx_ot (w : Cond) : Bool := w.onTables || goodWord w
theorem vx_ot_at {args a' : Array Value} {s U : State} {w : Cond} (hW : s.WarmedH U.vm) (hvm : s.vm = U.vm) (hg : vx_ot w = true) (h : w.before args s = true) : w.before a' U = true := by
  simp only [vx_ot, Bool.or_eq_true] at hg
  rcases hg with hg | hg
  · exact va_tabs hg hvm h
  · exact word_at hW (good_of_word hg) h
/-- a list's words: the good ones out of the method's own list, the others by premises of their own -/
theorem vx_hat {args : Array Value} {s : State} {L B : List Cond} (h1 : ∀ w ∈ L.filter goodWord, w.before args s = true) (h2 : ∀ w ∈ L.filter (fun w => !goodWord w), w ∈ B) (h3 : ∀ w ∈ B, w.before args s = true) : ∀ w ∈ L, w.before args s = true := by
  intro w hw
  by_cases g : goodWord w = true
  · exact h1 w (List.mem_filter.mpr ⟨hw, g⟩)
  · refine h3 w (h2 w (List.mem_filter.mpr ⟨hw, ?_⟩))
    show (!goodWord w) = true
    cases hgw : goodWord w
    · rfl
    · exact absurd hgw g
theorem vx_c {args : Array Value} {s : State} {w : Cond} {B : List Cond} (h : w.before args s = true) (t : ∀ w ∈ B, w.before args s = true) : ∀ w' ∈ w :: B, w'.before args s = true := fun w' h' => (List.mem_cons.mp h').elim (fun e => by rw [e]; exact h) (t w')
theorem vx_n {args : Array Value} {s : State} : ∀ w ∈ ([] : List Cond), w.before args s = true := fun _ h => nomatch h
theorem vx_own {args : Array Value} {s : State} {L : List Cond} (h1 : ∀ w ∈ L.filter vx_no, w.before args s = true)
    (hU : (Cond.isRef (.static Bundle.tN "UNASSIGNED_STACK" Bundle.steD)).before args s = true) (hN : (Cond.isRef (.static Bundle.tN "SUPPRESSED_SENTINEL" Bundle.listD)).before args s = true)
    (lU : (Cond.laysStatic Bundle.tN "UNASSIGNED_STACK" Bundle.steD).before args s = true) (lN : (Cond.laysStatic Bundle.tN "SUPPRESSED_SENTINEL" Bundle.listD).before args s = true) : ∀ w ∈ L, w.before args s = true := by
  intro w hw
  by_cases e1 : w = .isRef (.static Bundle.tN "UNASSIGNED_STACK" Bundle.steD)
  · rw [e1]; exact hU
  · by_cases e2 : w = .isRef (.static Bundle.tN "SUPPRESSED_SENTINEL" Bundle.listD)
    · rw [e2]; exact hN
    · by_cases e3 : w = .laysStatic Bundle.tN "UNASSIGNED_STACK" Bundle.steD
      · rw [e3]; exact lU
      · by_cases e4 : w = .laysStatic Bundle.tN "SUPPRESSED_SENTINEL" Bundle.listD
        · rw [e4]; exact lN
        · exact h1 w (List.mem_filter.mpr ⟨hw, by unfold vx_no; rw [decide_eq_true e1, decide_eq_true e2, decide_eq_true e3, decide_eq_true e4]; rfl⟩)
/-- where a static field lies, its class's statics cell in H -/
def vx_L (C n d : String) (A : Nat → Prop) (U : State) (H : Heap) : Prop := ∃ (c : ClassId) (k : Class) (i : Nat) (f : Field) (a : Nat) (cell : Cell), U.vm.findClass C = some c ∧ U.fieldFound? C n d = some (c, k, i, f) ∧ f.isStatic = true ∧ k.statics = some a ∧ H[a]? = some cell ∧ cell.vm.isStatics = true ∧ cell.cls = c ∧ f.slot < cell.slots.size ∧ k.staticTypes[f.slot]? = some f.type ∧ ¬ A a
theorem vx_L.moved {C n d : String} {A : Nat → Prop} {u U : State} {H : Heap} (hvm : u.vm.Alike U.vm) (h : vx_L C n d A u H) : vx_L C n d A U H := by
  obtain ⟨c, k, i, f, a, cell, h1, h2, h3, h4, h5, h6, h7, h8, h9, h10⟩ := h
  obtain ⟨k', hi', he⟩ := State.fieldFound?_setVm hvm h2
  exact ⟨c, k', i, f, a, cell, by rw [hvm.findClass]; exact h1, hi', h3, by rw [he]; exact h4, h5, h6, h7, h8, by rw [he]; exact h9, h10⟩
theorem vx_L.kept {C n d : String} {A : Nat → Prop} {U : State} {H H1 : Heap} (h : vx_L C n d A U H) (hq : ∀ a : Nat, a < H.size → ¬ A a → H1[a]? = H[a]?) : vx_L C n d A U H1 := by
  obtain ⟨c, k, i, f, a, cell, h1, h2, h3, h4, h5, h6, h7, h8, h9, h10⟩ := h
  exact ⟨c, k, i, f, a, cell, h1, h2, h3, h4, by rw [hq a (Array.getElem?_eq_some_iff.mp h5).1 h10]; exact h5, h6, h7, h8, h9, h10⟩
theorem vx_L.narrow {C n d : String} {A B : Nat → Prop} {U : State} {H : Heap} (h : vx_L C n d A U H) (hAB : ∀ q, B q → A q) : vx_L C n d B U H := by
  obtain ⟨c, k, i, f, a, cell, h1, h2, h3, h4, h5, h6, h7, h8, h9, h10⟩ := h
  exact ⟨c, k, i, f, a, cell, h1, h2, h3, h4, h5, h6, h7, h8, h9, fun z => h10 (hAB _ z)⟩
theorem vx_L.word {C n d : String} {A : Nat → Prop} {s : State} {args : Array Value} (h : vx_L C n d A s s.heap) : (Cond.laysStatic C n d).before args s = true := by
  obtain ⟨c, k, i, f, a, cell, h1, h2, h3, h4, h5, h6, h7, h8, h9, -⟩ := h
  show (Cond.laysStatic C n d).holds args s none s [] = true
  exact Cond.laysStatic_of h1 h2 h3 h4 h5 h6 h7 h8 h9
/-- .. and what it holds: null or some reference -/
def vx_Zq (C n d : String) (A : Nat → Prop) (U : State) (H : Heap) : Prop := va_Zq C n d A U H ∧ vx_L C n d A U H
theorem vx_Zq.moved {C n d : String} {A : Nat → Prop} {u U : State} {H : Heap} (hvm : u.vm.Alike U.vm) (h : vx_Zq C n d A u H) : vx_Zq C n d A U H := ⟨va_Zq.moved hvm h.1, vx_L.moved hvm h.2⟩
theorem vx_Zq.kept {C n d : String} {A : Nat → Prop} {U : State} {H H1 : Heap} (h : vx_Zq C n d A U H) (hq : ∀ a : Nat, a < H.size → ¬ A a → H1[a]? = H[a]?) : vx_Zq C n d A U H1 := ⟨va_Zq.kept h.1 hq, vx_L.kept h.2 hq⟩
theorem vx_Zq.narrow {C n d : String} {A B : Nat → Prop} {U : State} {H : Heap} (h : vx_Zq C n d A U H) (hAB : ∀ q, B q → A q) : vx_Zq C n d B U H := ⟨va_Zq.narrow h.1 hAB, vx_L.narrow h.2 hAB⟩
theorem vx_Zqof {args : Array Value} {s : State} {C n d : String} {A : Nat → Prop} (hl : (Cond.laysStatic C n d).before args s = true) (hini : (Cond.initialized C).before args s = true) (h : (Cond.isRef (.static C n d)).before args s = true) (hA : ∀ a : Nat, a < s.heap.size → ¬ A a) : vx_Zq C n d A s s.heap := by
  refine ⟨va_Zqof hl hini h hA, ?_⟩
  obtain ⟨c, k, i, f, a, cell, h1, h2, h3, h4, h5, h6, h7, h8, h9⟩ := Cond.laysStatic_spec hl
  exact ⟨c, k, i, f, a, cell, h1, h2, h3, h4, h5, h6, h7, h8, h9, hA a (Array.getElem?_eq_some_iff.mp h5).1⟩
theorem vx_isRef {C n d : String} {v : Value} {A : Nat → Prop} {s : State} {args : Array Value} (h : va_Z C n d v A s s.heap) (hv : v.isRef = true) : (Cond.isRef (.static C n d)).before args s = true := by
  obtain ⟨cf, kf, fi, f, a, cell, h1, h2, h3, h4, h5, h6, h7, -⟩ := h
  have he : (Term.static C n d).eval args s none [] s = some v := by
    simp [Term.eval, State.fieldNamed?, h1, h2, h4, h5, h6, h7]
  simp only [Cond.before, Cond.holds, Cond.value, he]
  cases v <;> simp_all [Value.isRef]
theorem vx_isRefq {C n d : String} {A : Nat → Prop} {s : State} {args : Array Value} (h : va_Zq C n d A s s.heap) : (Cond.isRef (.static C n d)).before args s = true := by
  rcases h with h | ⟨t, h⟩
  · exact vx_isRef h rfl
  · exact vx_isRef h rfl
/-- the same frame, seen from here: as if the method were called anew in this heap -/
theorem vx_rebase {T : State} (X : Stand p l e R s m args below meth c T locs cells slots) {R' : Room} (hf : R'.frames ≤ R.frames) (hl : R'.locals ≤ R.locals) (hc : cells + R'.cells ≤ R.cells) (hs : slots + R'.slots ≤ R.slots) :
    Stand p l e R' ((T.setVm s.vm).setFrames (.invoking m args :: below)) m args below meth c T [] 0 0 := by
  have htop : (T.setVm s.vm).topJava?.isSome := X.here.top
  have hF : ((T.setVm s.vm).setFrames (.invoking m args :: below)).frames = .invoking m args :: below := State.frames_setFrames _ (State.cur_lt_of_top htop)
  obtain ⟨g₀, hg0⟩ := Option.isSome_iff_exists.mp htop
  obtain ⟨r, hr⟩ := State.topJava?_eq_some.mp hg0
  have hl9 : e.platform.stackLimits (T.setVm s.vm).me = e.platform.stackLimits s.me := X.limits
  have hb9 : (T.setVm s.vm).me.stackBytes = s.me.stackBytes := X.bytes
  refine ⟨X.admits, X.cas, X.clock, hF, ?_, X.hears, X.method, X.code, X.here, X.tail, X.warmed, ?_, ?_, ?_⟩
  · have h := X.room
    have hU : ((T.setVm s.vm).setFrames (.invoking m args :: below)).localsInUse = s.localsInUse := by
      rw [State.localsInUse_invoking hF (meth := meth) (c := c) X.method X.code, State.localsInUse_invoking X.frames X.method X.code]
    simp only [State.hasRoom, Bool.and_eq_true, decide_eq_true_eq] at h ⊢
    obtain ⟨⟨⟨⟨h1, h2, h3, h4, h5, h6⟩, h7⟩, h8⟩, h9⟩ := h
    rw [X.frames, List.length_cons] at h2 h3
    have q1 := X.heapSize
    have q2 := X.used
    simp only [hF, hU, List.length_cons, State.stackLimits_setFrames, State.stackBytes_setFrames, hl9, hb9]
    refine ⟨⟨⟨⟨by omega, by omega, by omega, by omega, by omega, h6⟩, ?_⟩, ?_⟩, X.book⟩
    · show T.heap.size + R'.cells ≤ e.platform.maxCells
      omega
    · show T.slotsUsed + R'.slots ≤ e.platform.maxSlots
      omega
  · rw [State.stackLimits_setFrames]; rfl
  · rw [State.stackBytes_setFrames]; rfl
  · refine ⟨?_, Nat.le_refl _, Nat.le_refl _, ?_, ?_, fun a c9 h9 => ⟨c9, h9, rfl, rfl, fun _ _ => rfl⟩⟩
    · obtain ⟨t, ht, -⟩ := State.frames_cons hr
      show T.setVm s.vm = { ((T.setVm s.vm).setFrames (.invoking m args :: below)).setFrames (T.setVm s.vm).frames with heap := T.heap, slotsUsed := T.slotsUsed }
      rw [State.setFrames_setFrames, State.setFrames_self ht]
      rfl
    · show T.slotsUsed = T.slotsUsed + ((T.heap.toList.drop T.heap.size).map (·.slots.size)).sum
      rw [List.drop_eq_nil_of_le (Nat.le_of_eq Array.length_toList)]
      rfl
    · show ((T.heap.toList.drop T.heap.size).map (·.slots.size)).sum ≤ 0
      rw [List.drop_eq_nil_of_le (Nat.le_of_eq Array.length_toList)]
      exact Nat.le_refl _
/-- 'throw new E()': new; dup; invokespecial; athrow -/
theorem vx_throw0 {cc : ByteArray} {pc : Nat} (hexec : p.tables.exec = Jvm.exec) (hb : c.code = cc) (hl : l.stackTraces = false) {own cls : String} {names : List String} {ik ic mc ms : Nat} {A : Nat → Prop}
    (hown : s.vm.findClass own = some m.cls) (hcls : Bundle.fit cls = true) (hnames : ∀ n ∈ names, Bundle.fit n = true)
    (hk : (Cond.classLink own ik cls).before args s = true) (hini : (Cond.initialized cls).before args s = true) (hat : ∀ w ∈ vx_at0 own ic cls names, w.before args s = true)
    (hgood : ∀ w ∈ Cond.classLink own ik cls :: Cond.initialized cls :: vx_at0 own ic cls names, vx_ot w = true)
    (hU : vx_Zq Bundle.tN "UNASSIGNED_STACK" Bundle.steD A s s.heap) (hN : vx_Zq Bundle.tN "SUPPRESSED_SENTINEL" Bundle.listD A s s.heap) (hS : va_S A s.heap H locs) (hsize : ls.size = c.maxLocals)
    (d0 : decode cc pc = .ok (.new ik, 3)) (d3 : decode cc (pc + 3) = .ok (.dup, 1)) (d4 : decode cc (pc + 4) = .ok (.invokespecial ic, 3)) (d7 : decode cc (pc + 7) = .ok (.athrow, 1))
    (hout : ∀ x ∈ c.exceptionTable.toList, covers x (pc + 7) = false)
    (hRframes : names.length + 3 < R.frames) (hRlocals : (rest.map fun v => v.category).sum + (13 * (names.length + 1) + 42) ≤ R.locals) (hRcells : cells + 1 ≤ R.cells) (hRslots : slots + 6 ≤ R.slots) (hlocks : meth.locks = false)
    (hx : ∀ t : State, s.vm.Alike t.vm → H.size ≤ t.heap.size → (∀ q : Nat, q < H.size → t.heap[q]? = H[q]?) → XC cls s t)
    (hf : ∀ z ∈ locs, free z.base) (hc : cells + 1 ≤ mc) (hs : slots + 6 ≤ ms) :
    W p l e R s m args below meth c H locs cells slots (vx_MQ below Qc XC args s mc ms free) (F0 m pc ls rest) := by
  intro T hT X
  have htr : e.platform.stackTraces = false := (show e.platform.stackTraces = l.stackTraces by rw [X.admits.platform]).trans hl
  have Y := vx_rebase X (R' := { frames := R.frames, locals := R.locals, cells := 1, slots := 6 }) (Nat.le_refl _) (Nat.le_refl _) hRcells hRslots
  obtain ⟨s', hA⟩ : ∃ z, z = (T.setVm s.vm).setFrames (.invoking m args :: below) := ⟨_, rfl⟩
  rw [← hA] at Y
  have hvm : s'.vm = s.vm := by rw [hA]; rfl
  have hhp : s'.heap = H := by rw [hA]; exact hT
  have hW0 : s.WarmedH s'.vm := by rw [hvm]; exact State.WarmedH.refl s
  have hat' : ∀ w ∈ vx_at0 own ic cls names, w.before args s' = true := fun w hw => vx_ot_at hW0 hvm.symm (hgood w (List.mem_cons_of_mem _ (List.mem_cons_of_mem _ hw))) (hat w hw)
  have hk' : (Cond.classLink own ik cls).before args s' = true := vx_ot_at hW0 hvm.symm (hgood _ List.mem_cons_self) hk
  have hini' : (Cond.initialized cls).before args s' = true := vx_ot_at hW0 hvm.symm (hgood _ (List.mem_cons_of_mem _ List.mem_cons_self)) hini
  have hU' : vx_Zq Bundle.tN "UNASSIGNED_STACK" Bundle.steD A s' s'.heap := by rw [hhp]; exact vx_Zq.moved hW0.alike (hU.kept hS.2.1)
  have hN' : vx_Zq Bundle.tN "SUPPRESSED_SENTINEL" Bundle.listD A s' s'.heap := by rw [hhp]; exact vx_Zq.moved hW0.alike (hN.kept hS.2.1)
  have h : ∀ w ∈ Bundle.ownAtoms0 own ic cls names, w.before args s' = true := vx_own hat' (vx_isRefq hU'.1) (vx_isRefq hN'.1) hU'.2.word hN'.2.word
  have hown' : s'.vm.findClass own = some m.cls := by rw [hvm]; exact hown
  have hins : (Cond.instantiable cls 6).before args s' = true := h _ (by simp [Bundle.ownAtoms0])
  obtain ⟨vm₁, cX, kX, hfX, hkX, -, -, X₁, st1⟩ := Y.newCold hexec (own := own) (C := cls) (index := ik) (n := 6) hown' hk' hins hini'
    (g := F0 m pc ls rest) rfl (by rw [hb]; exact d0) (Nat.le_refl _) (Nat.le_refl _)
  generalize hT1 : (T.setVm vm₁).pushCell { cls := cX, slots := kX.instanceTypes.map defaultValue, vm := .none } = T1 at X₁ st1
  have hcat : (Value.ref T.heap.size).category = 1 := rfl
  have hcellA : T1.heap[T.heap.size]? = some (freshCell cX kX) := by rw [← hT1]; exact State.heap_pushCell_size _ _
  have d3' : decode c.code (pc + 3) = .ok (.dup, 1) := by rw [hb]; exact d3
  obtain ⟨U, hsteps, hrun, hend, hW, hsame, ce, hce, hO⟩ := X₁.ctorThrow0 hexec htr (own := own) (cls := cls) (names := names) (ic := ic) hown' hcls hnames h (fun x hx => nomatch hx) hfX hkX hcellA (by rw [hhp, hT]; exact Nat.le_refl _)
    (g := { method := m, pc := pc + 4, locals := ls, stack := .ref T.heap.size :: .ref T.heap.size :: rest, locked := none }) rfl hsize rfl rfl (rest := rest) rfl
    (by rw [hb]; exact d4) (by rw [hb]; exact d7) hout hRframes (by simp only [List.map_cons, List.sum_cons, hcat]; omega) hlocks
  obtain ⟨f1, f2⟩ := vx_frame hsame
  rw [hhp] at f1 f2
  have hWs : s.WarmedH U.vm := State.WarmedH.trans hW0 hW
  have hcl : s.vm.findClass cls = some ce.cls := by
    have h9 := hO.cls
    rw [hvm] at h9
    exact h9
  have hall : s.sameButNew ({ U with vm := s.vm } : State) locs mc ms := by
    subst hA
    obtain ⟨e1, e2⟩ := hsame
    rw [State.setFrames_setFrames] at e1
    have h2 : (T.setVm s.vm).sameButNew ({ U with vm := s.vm } : State) [] (0 + 1) (0 + 6) := ⟨e1, e2⟩
    have h3 := X.same.trans h2
    rw [List.append_nil] at h3
    exact h3.mono hc hs
  refine ⟨U, ?_, .threw T.heap.size, hrun, hend, Or.inr ⟨T.heap.size, rfl, cls, ce, locs, hx U hWs.alike f1 (fun q hq => f2 q hq (fun z hz => nomatch hz)), hce, hO.vm, hcl, hWs, hall, hf⟩⟩
  refine st1 _ ?_
  show Steps p.tables e below (T1.setTop { method := m, pc := pc + 3, locals := ls, stack := .ref T.heap.size :: rest, locked := none }) _
  jvm_step X₁.here [X₁.here.top, hexec, d3', Value.category]
  exact hsteps
/-- 'throw new E("text")': new; dup; ldc; invokespecial; athrow -/
theorem vx_throwS {cc : ByteArray} {pc : Nat} (hexec : p.tables.exec = Jvm.exec) (hb : c.code = cc) (hl : l.stackTraces = false) {own cls text : String} {names : List String} {ik is ic mc ms sa : Nat} {A : Nat → Prop}
    (hown : s.vm.findClass own = some m.cls) (hcls : Bundle.fit cls = true) (hnames : ∀ n ∈ names, Bundle.fit n = true)
    (hk : (Cond.classLink own ik cls).before args s = true) (hini : (Cond.initialized cls).before args s = true) (hstr : vk_R own is text sa s) (hat : ∀ w ∈ vx_atS own ic cls names, w.before args s = true)
    (hgood : ∀ w ∈ Cond.classLink own ik cls :: Cond.initialized cls :: vx_atS own ic cls names, vx_ot w = true)
    (hU : vx_Zq Bundle.tN "UNASSIGNED_STACK" Bundle.steD A s s.heap) (hN : vx_Zq Bundle.tN "SUPPRESSED_SENTINEL" Bundle.listD A s s.heap) (hS : va_S A s.heap H locs) (hsize : ls.size = c.maxLocals)
    (d0 : decode cc pc = .ok (.new ik, 3)) (d3 : decode cc (pc + 3) = .ok (.dup, 1)) (d4 : decode cc (pc + 4) = .ok (.ldc is, 2)) (d6 : decode cc (pc + 6) = .ok (.invokespecial ic, 3)) (d9 : decode cc (pc + 9) = .ok (.athrow, 1))
    (hout : ∀ x ∈ c.exceptionTable.toList, covers x (pc + 9) = false)
    (hRframes : names.length + 3 < R.frames) (hRlocals : (rest.map fun v => v.category).sum + (13 * (names.length + 1) + 43) ≤ R.locals) (hRcells : cells + 1 ≤ R.cells) (hRslots : slots + 6 ≤ R.slots) (hlocks : meth.locks = false)
    (hx : ∀ t : State, s.vm.Alike t.vm → H.size ≤ t.heap.size → (∀ q : Nat, q < H.size → t.heap[q]? = H[q]?) → XC cls s t)
    (hf : ∀ z ∈ locs, free z.base) (hc : cells + 1 ≤ mc) (hs : slots + 6 ≤ ms) :
    W p l e R s m args below meth c H locs cells slots (vx_MQ below Qc XC args s mc ms free) (F0 m pc ls rest) := by
  intro T hT X
  have htr : e.platform.stackTraces = false := (show e.platform.stackTraces = l.stackTraces by rw [X.admits.platform]).trans hl
  have Y := vx_rebase X (R' := { frames := R.frames, locals := R.locals, cells := 1, slots := 6 }) (Nat.le_refl _) (Nat.le_refl _) hRcells hRslots
  obtain ⟨s', hA⟩ : ∃ z, z = (T.setVm s.vm).setFrames (.invoking m args :: below) := ⟨_, rfl⟩
  rw [← hA] at Y
  have hvm : s'.vm = s.vm := by rw [hA]; rfl
  have hhp : s'.heap = H := by rw [hA]; exact hT
  have hW0 : s.WarmedH s'.vm := by rw [hvm]; exact State.WarmedH.refl s
  have hat' : ∀ w ∈ vx_atS own ic cls names, w.before args s' = true := fun w hw => vx_ot_at hW0 hvm.symm (hgood w (List.mem_cons_of_mem _ (List.mem_cons_of_mem _ hw))) (hat w hw)
  have hk' : (Cond.classLink own ik cls).before args s' = true := vx_ot_at hW0 hvm.symm (hgood _ List.mem_cons_self) hk
  have hini' : (Cond.initialized cls).before args s' = true := vx_ot_at hW0 hvm.symm (hgood _ (List.mem_cons_of_mem _ List.mem_cons_self)) hini
  have hU' : vx_Zq Bundle.tN "UNASSIGNED_STACK" Bundle.steD A s' s'.heap := by rw [hhp]; exact vx_Zq.moved hW0.alike (hU.kept hS.2.1)
  have hN' : vx_Zq Bundle.tN "SUPPRESSED_SENTINEL" Bundle.listD A s' s'.heap := by rw [hhp]; exact vx_Zq.moved hW0.alike (hN.kept hS.2.1)
  have h : ∀ w ∈ Bundle.ownAtoms own ic cls names, w.before args s' = true := vx_own hat' (vx_isRefq hU'.1) (vx_isRefq hN'.1) hU'.2.word hN'.2.word
  have hown' : s'.vm.findClass own = some m.cls := by rw [hvm]; exact hown
  have hins : (Cond.instantiable cls 6).before args s' = true := h _ (by simp [Bundle.ownAtoms])
  obtain ⟨vm₁, cX, kX, hfX, hkX, -, -, X₁, st1⟩ := Y.newCold hexec (own := own) (C := cls) (index := ik) (n := 6) hown' hk' hins hini'
    (g := F0 m pc ls rest) rfl (by rw [hb]; exact d0) (Nat.le_refl _) (Nat.le_refl _)
  generalize hT1 : (T.setVm vm₁).pushCell { cls := cX, slots := kX.instanceTypes.map defaultValue, vm := .none } = T1 at X₁ st1
  have hcat : (Value.ref T.heap.size).category = 1 := rfl
  have hcellA : T1.heap[T.heap.size]? = some (freshCell cX kX) := by rw [← hT1]; exact State.heap_pushCell_size _ _
  have d3' : decode c.code (pc + 3) = .ok (.dup, 1) := by rw [hb]; exact d3
  have d4' : decode c.code (pc + 4) = .ok (.ldc is, 2) := by rw [hb]; exact d4
  have hstr' : vk_R own is text sa s' := vk_R.warm hW0 hstr
  obtain ⟨U, hsteps, hrun, hend, hW, hsame, ce, hce, hO⟩ := X₁.ctorThrowS hexec htr (own := own) (cls := cls) (names := names) (ic := ic) hown' hcls hnames h (fun x hx => nomatch hx) hfX hkX hcellA (by rw [hhp, hT]; exact Nat.le_refl _) (msg := .ref sa) rfl
    (g := { method := m, pc := pc + 6, locals := ls, stack := .ref sa :: .ref T.heap.size :: .ref T.heap.size :: rest, locked := none }) rfl hsize rfl rfl (rest := rest) rfl
    (by rw [hb]; exact d6) (by rw [hb]; exact d9) hout hRframes (by simp only [List.map_cons, List.sum_cons, hcat]; omega) hlocks
  obtain ⟨f1, f2⟩ := vx_frame hsame
  rw [hhp] at f1 f2
  have hWs : s.WarmedH U.vm := State.WarmedH.trans hW0 hW
  have hcl : s.vm.findClass cls = some ce.cls := by
    have h9 := hO.cls
    rw [hvm] at h9
    exact h9
  have hall : s.sameButNew ({ U with vm := s.vm } : State) locs mc ms := by
    subst hA
    obtain ⟨e1, e2⟩ := hsame
    rw [State.setFrames_setFrames] at e1
    have h2 : (T.setVm s.vm).sameButNew ({ U with vm := s.vm } : State) [] (0 + 1) (0 + 6) := ⟨e1, e2⟩
    have h3 := X.same.trans h2
    rw [List.append_nil] at h3
    exact h3.mono hc hs
  refine ⟨U, ?_, .threw T.heap.size, hrun, hend, Or.inr ⟨T.heap.size, rfl, cls, ce, locs, hx U hWs.alike f1 (fun q hq => f2 q hq (fun z hz => nomatch hz)), hce, hO.vm, hcl, hWs, hall, hf⟩⟩
  refine st1 _ ?_
  show Steps p.tables e below (T1.setTop { method := m, pc := pc + 3, locals := ls, stack := .ref T.heap.size :: rest, locked := none }) _
  jvm_step X₁.here [X₁.here.top, hexec, d3', Value.category]
  exact X₁.ldcString hexec (own := own) (text := text) (index := is) (a := sa) hown' hstr'.1 hstr'.2
    (g := { method := m, pc := pc + 4, locals := ls, stack := .ref T.heap.size :: .ref T.heap.size :: rest, locked := none }) rfl d4' _ hsteps
/-- 'throw new E("text")', the text by a wide index -/
theorem vx_throwSW {cc : ByteArray} {pc : Nat} (hexec : p.tables.exec = Jvm.exec) (hb : c.code = cc) (hl : l.stackTraces = false) {own cls text : String} {names : List String} {ik is ic mc ms sa : Nat} {A : Nat → Prop}
    (hown : s.vm.findClass own = some m.cls) (hcls : Bundle.fit cls = true) (hnames : ∀ n ∈ names, Bundle.fit n = true)
    (hk : (Cond.classLink own ik cls).before args s = true) (hini : (Cond.initialized cls).before args s = true) (hstr : vk_R own is text sa s) (hat : ∀ w ∈ vx_atS own ic cls names, w.before args s = true)
    (hgood : ∀ w ∈ Cond.classLink own ik cls :: Cond.initialized cls :: vx_atS own ic cls names, vx_ot w = true)
    (hU : vx_Zq Bundle.tN "UNASSIGNED_STACK" Bundle.steD A s s.heap) (hN : vx_Zq Bundle.tN "SUPPRESSED_SENTINEL" Bundle.listD A s s.heap) (hS : va_S A s.heap H locs) (hsize : ls.size = c.maxLocals)
    (d0 : decode cc pc = .ok (.new ik, 3)) (d3 : decode cc (pc + 3) = .ok (.dup, 1)) (d4 : decode cc (pc + 4) = .ok (.ldc_w is, 3)) (d7 : decode cc (pc + 7) = .ok (.invokespecial ic, 3)) (d10 : decode cc (pc + 10) = .ok (.athrow, 1))
    (hout : ∀ x ∈ c.exceptionTable.toList, covers x (pc + 10) = false)
    (hRframes : names.length + 3 < R.frames) (hRlocals : (rest.map fun v => v.category).sum + (13 * (names.length + 1) + 43) ≤ R.locals) (hRcells : cells + 1 ≤ R.cells) (hRslots : slots + 6 ≤ R.slots) (hlocks : meth.locks = false)
    (hx : ∀ t : State, s.vm.Alike t.vm → H.size ≤ t.heap.size → (∀ q : Nat, q < H.size → t.heap[q]? = H[q]?) → XC cls s t)
    (hf : ∀ z ∈ locs, free z.base) (hc : cells + 1 ≤ mc) (hs : slots + 6 ≤ ms) :
    W p l e R s m args below meth c H locs cells slots (vx_MQ below Qc XC args s mc ms free) (F0 m pc ls rest) := by
  intro T hT X
  have htr : e.platform.stackTraces = false := (show e.platform.stackTraces = l.stackTraces by rw [X.admits.platform]).trans hl
  have Y := vx_rebase X (R' := { frames := R.frames, locals := R.locals, cells := 1, slots := 6 }) (Nat.le_refl _) (Nat.le_refl _) hRcells hRslots
  obtain ⟨s', hA⟩ : ∃ z, z = (T.setVm s.vm).setFrames (.invoking m args :: below) := ⟨_, rfl⟩
  rw [← hA] at Y
  have hvm : s'.vm = s.vm := by rw [hA]; rfl
  have hhp : s'.heap = H := by rw [hA]; exact hT
  have hW0 : s.WarmedH s'.vm := by rw [hvm]; exact State.WarmedH.refl s
  have hat' : ∀ w ∈ vx_atS own ic cls names, w.before args s' = true := fun w hw => vx_ot_at hW0 hvm.symm (hgood w (List.mem_cons_of_mem _ (List.mem_cons_of_mem _ hw))) (hat w hw)
  have hk' : (Cond.classLink own ik cls).before args s' = true := vx_ot_at hW0 hvm.symm (hgood _ List.mem_cons_self) hk
  have hini' : (Cond.initialized cls).before args s' = true := vx_ot_at hW0 hvm.symm (hgood _ (List.mem_cons_of_mem _ List.mem_cons_self)) hini
  have hU' : vx_Zq Bundle.tN "UNASSIGNED_STACK" Bundle.steD A s' s'.heap := by rw [hhp]; exact vx_Zq.moved hW0.alike (hU.kept hS.2.1)
  have hN' : vx_Zq Bundle.tN "SUPPRESSED_SENTINEL" Bundle.listD A s' s'.heap := by rw [hhp]; exact vx_Zq.moved hW0.alike (hN.kept hS.2.1)
  have h : ∀ w ∈ Bundle.ownAtoms own ic cls names, w.before args s' = true := vx_own hat' (vx_isRefq hU'.1) (vx_isRefq hN'.1) hU'.2.word hN'.2.word
  have hown' : s'.vm.findClass own = some m.cls := by rw [hvm]; exact hown
  have hins : (Cond.instantiable cls 6).before args s' = true := h _ (by simp [Bundle.ownAtoms])
  obtain ⟨vm₁, cX, kX, hfX, hkX, -, -, X₁, st1⟩ := Y.newCold hexec (own := own) (C := cls) (index := ik) (n := 6) hown' hk' hins hini'
    (g := F0 m pc ls rest) rfl (by rw [hb]; exact d0) (Nat.le_refl _) (Nat.le_refl _)
  generalize hT1 : (T.setVm vm₁).pushCell { cls := cX, slots := kX.instanceTypes.map defaultValue, vm := .none } = T1 at X₁ st1
  have hcat : (Value.ref T.heap.size).category = 1 := rfl
  have hcellA : T1.heap[T.heap.size]? = some (freshCell cX kX) := by rw [← hT1]; exact State.heap_pushCell_size _ _
  have d3' : decode c.code (pc + 3) = .ok (.dup, 1) := by rw [hb]; exact d3
  have d4' : decode c.code (pc + 4) = .ok (.ldc_w is, 3) := by rw [hb]; exact d4
  have hstr' : vk_R own is text sa s' := vk_R.warm hW0 hstr
  obtain ⟨U, hsteps, hrun, hend, hW, hsame, ce, hce, hO⟩ := X₁.ctorThrowS hexec htr (own := own) (cls := cls) (names := names) (ic := ic) hown' hcls hnames h (fun x hx => nomatch hx) hfX hkX hcellA (by rw [hhp, hT]; exact Nat.le_refl _) (msg := .ref sa) rfl
    (g := { method := m, pc := pc + 7, locals := ls, stack := .ref sa :: .ref T.heap.size :: .ref T.heap.size :: rest, locked := none }) rfl hsize rfl rfl (rest := rest) rfl
    (by rw [hb]; exact d7) (by rw [hb]; exact d10) hout hRframes (by simp only [List.map_cons, List.sum_cons, hcat]; omega) hlocks
  obtain ⟨f1, f2⟩ := vx_frame hsame
  rw [hhp] at f1 f2
  have hWs : s.WarmedH U.vm := State.WarmedH.trans hW0 hW
  have hcl : s.vm.findClass cls = some ce.cls := by
    have h9 := hO.cls
    rw [hvm] at h9
    exact h9
  have hall : s.sameButNew ({ U with vm := s.vm } : State) locs mc ms := by
    subst hA
    obtain ⟨e1, e2⟩ := hsame
    rw [State.setFrames_setFrames] at e1
    have h2 : (T.setVm s.vm).sameButNew ({ U with vm := s.vm } : State) [] (0 + 1) (0 + 6) := ⟨e1, e2⟩
    have h3 := X.same.trans h2
    rw [List.append_nil] at h3
    exact h3.mono hc hs
  refine ⟨U, ?_, .threw T.heap.size, hrun, hend, Or.inr ⟨T.heap.size, rfl, cls, ce, locs, hx U hWs.alike f1 (fun q hq => f2 q hq (fun z hz => nomatch hz)), hce, hO.vm, hcl, hWs, hall, hf⟩⟩
  refine st1 _ ?_
  show Steps p.tables e below (T1.setTop { method := m, pc := pc + 3, locals := ls, stack := .ref T.heap.size :: rest, locked := none }) _
  jvm_step X₁.here [X₁.here.top, hexec, d3', Value.category]
  exact X₁.ldcStringW hexec (own := own) (text := text) (index := is) (a := sa) hown' hstr'.1 hstr'.2
    (g := { method := m, pc := pc + 4, locals := ls, stack := .ref T.heap.size :: .ref T.heap.size :: rest, locked := none }) rfl d4' _ hsteps
end Ends
section Bodies
variable {l : Launch}
theorem vx_ofW {y : MethodName} {ws ws' : List Cond} {rm : Room} {Pc : Array Value → State → Prop} {Qc : Array Value → State → Outcome → State → Prop} {XC : String → State → State → Prop} {mc ms : Nat} {free : Addr → Prop} {cc : ByteArray} {maxL : Nat} {ret : Option FieldType}
    (hy : plainName y.cls = true) (hw : ws = Cond.code y cc maxL ret :: ws')
    (body : ∀ p e s m args below meth c s₁, BodyLoose p l y (headSpec ws rm) cc maxL ret e s m args below meth c s₁ → c.maxLocals = maxL → (∀ x ∈ c.exceptionTable.toList, False) → Pc args s →
      W p l e (headSpec ws rm).room s m args below meth c s.heap [] 0 0 (vx_MQ below Qc XC args s mc ms free) (entryFrame m args maxL)) : vx_Met l y ws rm Pc Qc XC mc ms free := by
  refine MetFree.of_bodyS (code := cc) (maxLocals := maxL) (ret := ret) hy ?_ ?_
  · intro args s m h hn
    obtain ⟨meth, c, h1, h2, h3, h4, h5, h6, -, -⟩ := Cond.code_spec hn (atoms_spec (ws := ws) h _ (by rw [hw]; exact List.mem_cons_self))
    exact ⟨meth, c, h1, h2, h3, h4, h5, h6⟩
  · intro p e s m args below meth c s₁ B hml hP _
    have hh0 : s₁.heap = s.heap := by rw [B.state]; rfl
    have ht : ∀ x ∈ c.exceptionTable.toList, False := by
      obtain ⟨meth9, c9, h1, h2, -, -, -, -, h7, -⟩ := Cond.code_spec B.named (atoms_spec (ws := ws) B.pre _ (by rw [hw]; exact List.mem_cons_self))
      cases Option.some.inj (h1.symm.trans B.method)
      cases Option.some.inj (h2.symm.trans (Stand.of_body B).code)
      intro x hx
      rw [Array.isEmpty_iff.mp h7] at hx
      cases hx
    obtain ⟨t, a1, o, b1, b2, b3⟩ := body p e s m args below meth c s₁ B hml ht hP s₁ hh0 (Stand.of_body B)
    exact ⟨t, o, a1, b1, b2, b3⟩
/-- the table of a body with handlers -/
theorem vx_table {p : Program} {x y : MethodName} {S : Spec} {cc bytes : ByteArray} {maxL maxL' : Nat} {ret ret' : Option FieldType} {e : Env} {s s₁ : State} {m : MethodId} {args : Array Value} {below : List Frame} {meth : Method} {c : Code} {hh : List (Nat × Nat × Nat × Nat)}
    (B : BodyLoose p l y S cc maxL ret e s m args below meth c s₁) (h : (Cond.codeWith y bytes maxL' ret' hh).before args s = true) : c.exceptionTable.toList = tableOf hh := by
  obtain ⟨m9, meth9, c9, hn9, h1, h2, -, -, h6, -⟩ := Cond.codeWith_spec h
  cases Option.some.inj (hn9.symm.trans B.named)
  cases Option.some.inj (h1.symm.trans B.method)
  cases Option.some.inj (h2.symm.trans (Stand.of_body B).code)
  rw [← h6, table_eq]
end Bodies
end VXA
/-! ===== END ===== -/
end
section
theorem n_D_type : (parseMethodDescriptor y_D_type.desc).map (fun d => d.parameters.length) = some 1 := by decide +kernel
theorem n_D_formula : (parseMethodDescriptor y_D_formula.desc).map (fun d => d.parameters.length) = some 0 := by decide +kernel
theorem n_D_states : (parseMethodDescriptor y_D_states.desc).map (fun d => d.parameters.length) = some 0 := by decide +kernel
theorem n_D_isAt : (parseMethodDescriptor y_D_isAt.desc).map (fun d => d.parameters.length) = some 1 := by decide +kernel
theorem n_D_leads : (parseMethodDescriptor y_D_leads.desc).map (fun d => d.parameters.length) = some 2 := by decide +kernel
theorem n_D_lasts : (parseMethodDescriptor y_D_lasts.desc).map (fun d => d.parameters.length) = some 1 := by decide +kernel
theorem n_D_lasting : (parseMethodDescriptor y_D_lasting.desc).map (fun d => d.parameters.length) = some 0 := by decide +kernel
theorem n_D_promises : (parseMethodDescriptor y_D_promises.desc).map (fun d => d.parameters.length) = some 0 := by decide +kernel
theorem n_D_can : (parseMethodDescriptor y_D_can.desc).map (fun d => d.parameters.length) = some 0 := by decide +kernel
theorem n_D_stem : (parseMethodDescriptor y_D_stem.desc).map (fun d => d.parameters.length) = some 0 := by decide +kernel
theorem n_D_loop : (parseMethodDescriptor y_D_loop.desc).map (fun d => d.parameters.length) = some 0 := by decide +kernel
theorem n_D_step : (parseMethodDescriptor y_D_step.desc).map (fun d => d.parameters.length) = some 1 := by decide +kernel
theorem n_D_shape : (parseMethodDescriptor y_D_shape.desc).map (fun d => d.parameters.length) = some 2 := by decide +kernel
theorem n_D_set : (parseMethodDescriptor y_D_set.desc).map (fun d => d.parameters.length) = some 2 := by decide +kernel
theorem n_D_adopt : (parseMethodDescriptor y_D_adopt.desc).map (fun d => d.parameters.length) = some 0 := by decide +kernel
theorem n_D_letter : (parseMethodDescriptor y_D_letter.desc).map (fun d => d.parameters.length) = some 1 := by decide +kernel
theorem n_D_holds : (parseMethodDescriptor y_D_holds.desc).map (fun d => d.parameters.length) = some 1 := by decide +kernel
theorem n_D_requireFormula : (parseMethodDescriptor y_D_requireFormula.desc).map (fun d => d.parameters.length) = some 0 := by decide +kernel
theorem n_D_requireState : (parseMethodDescriptor y_D_requireState.desc).map (fun d => d.parameters.length) = some 1 := by decide +kernel
theorem n_D_requirePlace : (parseMethodDescriptor y_D_requirePlace.desc).map (fun d => d.parameters.length) = some 1 := by decide +kernel
theorem n_D_settle : (parseMethodDescriptor y_D_settle.desc).map (fun d => d.parameters.length) = some 0 := by decide +kernel
theorem n_D_hasBit : (parseMethodDescriptor y_D_hasBit.desc).map (fun d => d.parameters.length) = some 2 := by decide +kernel
theorem n_D_isTemporal : (parseMethodDescriptor y_D_isTemporal.desc).map (fun d => d.parameters.length) = some 1 := by decide +kernel
theorem n_Mo_thrown : (parseMethodDescriptor y_Mo_thrown.desc).map (fun d => d.parameters.length) = some 0 := by decide +kernel
theorem n_Mo_type : (parseMethodDescriptor y_Mo_type.desc).map (fun d => d.parameters.length) = some 1 := by decide +kernel
theorem n_Mo_tightness : (parseMethodDescriptor y_Mo_tightness.desc).map (fun d => d.parameters.length) = some 1 := by decide +kernel
theorem n_Mo_isTemporal : (parseMethodDescriptor y_Mo_isTemporal.desc).map (fun d => d.parameters.length) = some 1 := by decide +kernel
theorem n_Mo_part : (parseMethodDescriptor y_Mo_part.desc).map (fun d => d.parameters.length) = some 4 := by decide +kernel
theorem n_Mo_taken : (parseMethodDescriptor y_Mo_taken.desc).map (fun d => d.parameters.length) = some 0 := by decide +kernel
theorem n_Mo_settle : (parseMethodDescriptor y_Mo_settle.desc).map (fun d => d.parameters.length) = some 1 := by decide +kernel
theorem n_Mo_push : (parseMethodDescriptor y_Mo_push.desc).map (fun d => d.parameters.length) = some 1 := by decide +kernel
theorem n_Mo_leafOf : (parseMethodDescriptor y_Mo_leafOf.desc).map (fun d => d.parameters.length) = some 1 := by decide +kernel
theorem n_Mo_prefixOf : (parseMethodDescriptor y_Mo_prefixOf.desc).map (fun d => d.parameters.length) = some 1 := by decide +kernel
theorem n_Mo_signOf : (parseMethodDescriptor y_Mo_signOf.desc).map (fun d => d.parameters.length) = some 1 := by decide +kernel
theorem n_Mo_reads : (parseMethodDescriptor y_Mo_reads.desc).map (fun d => d.parameters.length) = some 1 := by decide +kernel
theorem n_Mo_formula : (parseMethodDescriptor y_Mo_formula.desc).map (fun d => d.parameters.length) = some 0 := by decide +kernel
theorem n_Mo_count : (parseMethodDescriptor y_Mo_count.desc).map (fun d => d.parameters.length) = some 0 := by decide +kernel
theorem n_Mo_valueOf : (parseMethodDescriptor y_Mo_valueOf.desc).map (fun d => d.parameters.length) = some 3 := by decide +kernel
theorem n_Mo_look : (parseMethodDescriptor y_Mo_look.desc).map (fun d => d.parameters.length) = some 1 := by decide +kernel
theorem n_Mo_goes : (parseMethodDescriptor y_Mo_goes.desc).map (fun d => d.parameters.length) = some 2 := by decide +kernel
theorem n_Mo_noteSome : (parseMethodDescriptor y_Mo_noteSome.desc).map (fun d => d.parameters.length) = some 0 := by decide +kernel
theorem n_Mo_leadsToOne : (parseMethodDescriptor y_Mo_leadsToOne.desc).map (fun d => d.parameters.length) = some 1 := by decide +kernel
theorem n_Mo_countSteps : (parseMethodDescriptor y_Mo_countSteps.desc).map (fun d => d.parameters.length) = some 1 := by decide +kernel
theorem n_Mo_takeOut : (parseMethodDescriptor y_Mo_takeOut.desc).map (fun d => d.parameters.length) = some 0 := by decide +kernel
theorem n_Mo_isDue : (parseMethodDescriptor y_Mo_isDue.desc).map (fun d => d.parameters.length) = some 2 := by decide +kernel
theorem n_Mo_dutyAt : (parseMethodDescriptor y_Mo_dutyAt.desc).map (fun d => d.parameters.length) = some 2 := by decide +kernel
theorem n_Mo_nextOf : (parseMethodDescriptor y_Mo_nextOf.desc).map (fun d => d.parameters.length) = some 2 := by decide +kernel
theorem n_Mo_firstState : (parseMethodDescriptor y_Mo_firstState.desc).map (fun d => d.parameters.length) = some 0 := by decide +kernel
theorem n_Mo_goWalk : (parseMethodDescriptor y_Mo_goWalk.desc).map (fun d => d.parameters.length) = some 0 := by decide +kernel
theorem n_Mo_refused : (parseMethodDescriptor y_Mo_refused.desc).map (fun d => d.parameters.length) = some 1 := by decide +kernel
theorem n_Mo_isState : (parseMethodDescriptor y_Mo_isState.desc).map (fun d => d.parameters.length) = some 1 := by decide +kernel
theorem n_Mo_states : (parseMethodDescriptor y_Mo_states.desc).map (fun d => d.parameters.length) = some 0 := by decide +kernel
theorem n_Mo_isAt : (parseMethodDescriptor y_Mo_isAt.desc).map (fun d => d.parameters.length) = some 1 := by decide +kernel
theorem n_Mo_leads : (parseMethodDescriptor y_Mo_leads.desc).map (fun d => d.parameters.length) = some 2 := by decide +kernel
theorem n_Mo_lasts : (parseMethodDescriptor y_Mo_lasts.desc).map (fun d => d.parameters.length) = some 1 := by decide +kernel
theorem n_Mo_lasting : (parseMethodDescriptor y_Mo_lasting.desc).map (fun d => d.parameters.length) = some 0 := by decide +kernel
theorem n_Mo_promises : (parseMethodDescriptor y_Mo_promises.desc).map (fun d => d.parameters.length) = some 0 := by decide +kernel
theorem n_Mo_can : (parseMethodDescriptor y_Mo_can.desc).map (fun d => d.parameters.length) = some 0 := by decide +kernel
theorem n_Mo_stem : (parseMethodDescriptor y_Mo_stem.desc).map (fun d => d.parameters.length) = some 0 := by decide +kernel
theorem n_Mo_loop : (parseMethodDescriptor y_Mo_loop.desc).map (fun d => d.parameters.length) = some 0 := by decide +kernel
theorem n_Mo_step : (parseMethodDescriptor y_Mo_step.desc).map (fun d => d.parameters.length) = some 1 := by decide +kernel
theorem n_Mo_shape : (parseMethodDescriptor y_Mo_shape.desc).map (fun d => d.parameters.length) = some 2 := by decide +kernel
theorem n_Mo_set : (parseMethodDescriptor y_Mo_set.desc).map (fun d => d.parameters.length) = some 2 := by decide +kernel
theorem n_Mo_adopt : (parseMethodDescriptor y_Mo_adopt.desc).map (fun d => d.parameters.length) = some 0 := by decide +kernel
theorem n_Mo_placeOf : (parseMethodDescriptor y_Mo_placeOf.desc).map (fun d => d.parameters.length) = some 1 := by decide +kernel
theorem n_Mo_letter : (parseMethodDescriptor y_Mo_letter.desc).map (fun d => d.parameters.length) = some 1 := by decide +kernel
theorem n_Mo_spread : (parseMethodDescriptor y_Mo_spread.desc).map (fun d => d.parameters.length) = some 1 := by decide +kernel
theorem n_Mo_holds : (parseMethodDescriptor y_Mo_holds.desc).map (fun d => d.parameters.length) = some 1 := by decide +kernel
theorem n_Fo_clear : (parseMethodDescriptor y_Fo_clear.desc).map (fun d => d.parameters.length) = some 0 := by decide +kernel
theorem n_Fo_add : (parseMethodDescriptor y_Fo_add.desc).map (fun d => d.parameters.length) = some 4 := by decide +kernel
theorem n_Fo_listPromises : (parseMethodDescriptor y_Fo_listPromises.desc).map (fun d => d.parameters.length) = some 0 := by decide +kernel
theorem n_Fo_size : (parseMethodDescriptor y_Fo_size.desc).map (fun d => d.parameters.length) = some 0 := by decide +kernel
theorem n_Fo_stateCount : (parseMethodDescriptor y_Fo_stateCount.desc).map (fun d => d.parameters.length) = some 0 := by decide +kernel
theorem n_Fo_promiseCount : (parseMethodDescriptor y_Fo_promiseCount.desc).map (fun d => d.parameters.length) = some 0 := by decide +kernel
theorem n_Fo_isWholeIn : (parseMethodDescriptor y_Fo_isWholeIn.desc).map (fun d => d.parameters.length) = some 1 := by decide +kernel
theorem n_Fo_partsAt : (parseMethodDescriptor y_Fo_partsAt.desc).map (fun d => d.parameters.length) = some 1 := by decide +kernel
theorem n_Fo_isPartAt : (parseMethodDescriptor y_Fo_isPartAt.desc).map (fun d => d.parameters.length) = some 3 := by decide +kernel
theorem n_Fo_expectedBefore : (parseMethodDescriptor y_Fo_expectedBefore.desc).map (fun d => d.parameters.length) = some 1 := by decide +kernel
theorem n_Fo_openIn : (parseMethodDescriptor y_Fo_openIn.desc).map (fun d => d.parameters.length) = some 1 := by decide +kernel
theorem n_Fo_keptIn : (parseMethodDescriptor y_Fo_keptIn.desc).map (fun d => d.parameters.length) = some 1 := by decide +kernel
theorem n_Fo_isForOnce : (parseMethodDescriptor y_Fo_isForOnce.desc).map (fun d => d.parameters.length) = some 1 := by decide +kernel
theorem n_Fo_placesOn : (parseMethodDescriptor y_Fo_placesOn.desc).map (fun d => d.parameters.length) = some 1 := by decide +kernel
theorem n_Fo_partPlaces : (parseMethodDescriptor y_Fo_partPlaces.desc).map (fun d => d.parameters.length) = some 2 := by decide +kernel
theorem n_Gw_fits : (parseMethodDescriptor y_Gw_fits.desc).map (fun d => d.parameters.length) = some 2 := by decide +kernel
theorem n_Gw_size : (parseMethodDescriptor y_Gw_size.desc).map (fun d => d.parameters.length) = some 0 := by decide +kernel
theorem n_Gw_reshape : (parseMethodDescriptor y_Gw_reshape.desc).map (fun d => d.parameters.length) = some 2 := by decide +kernel
theorem n_Gw_replace : (parseMethodDescriptor y_Gw_replace.desc).map (fun d => d.parameters.length) = some 2 := by decide +kernel
theorem n_Gw_take : (parseMethodDescriptor y_Gw_take.desc).map (fun d => d.parameters.length) = some 1 := by decide +kernel
theorem n_Gw_indexOf : (parseMethodDescriptor y_Gw_indexOf.desc).map (fun d => d.parameters.length) = some 1 := by decide +kernel
theorem n_Gw_letterAt : (parseMethodDescriptor y_Gw_letterAt.desc).map (fun d => d.parameters.length) = some 1 := by decide +kernel
theorem n_Gw_allPlaces : (parseMethodDescriptor y_Gw_allPlaces.desc).map (fun d => d.parameters.length) = some 0 := by decide +kernel
theorem n_Gw_placesWith : (parseMethodDescriptor y_Gw_placesWith.desc).map (fun d => d.parameters.length) = some 1 := by decide +kernel
theorem n_Gw_placesBefore : (parseMethodDescriptor y_Gw_placesBefore.desc).map (fun d => d.parameters.length) = some 1 := by decide +kernel
theorem n_Gw_placesUntil : (parseMethodDescriptor y_Gw_placesUntil.desc).map (fun d => d.parameters.length) = some 2 := by decide +kernel
theorem n_La_find : (parseMethodDescriptor y_La_find.desc).map (fun d => d.parameters.length) = some 1 := by decide +kernel
theorem n_La_lookAtStates : (parseMethodDescriptor y_La_lookAtStates.desc).map (fun d => d.parameters.length) = some 1 := by decide +kernel
theorem n_La_sweepDeadEnds : (parseMethodDescriptor y_La_sweepDeadEnds.desc).map (fun d => d.parameters.length) = some 0 := by decide +kernel
theorem n_La_sweepUnkept : (parseMethodDescriptor y_La_sweepUnkept.desc).map (fun d => d.parameters.length) = some 1 := by decide +kernel
theorem n_La_takeAway : (parseMethodDescriptor y_La_takeAway.desc).map (fun d => d.parameters.length) = some 1 := by decide +kernel
theorem n_La_countSteps : (parseMethodDescriptor y_La_countSteps.desc).map (fun d => d.parameters.length) = some 1 := by decide +kernel
theorem n_La_reachBefore : (parseMethodDescriptor y_La_reachBefore.desc).map (fun d => d.parameters.length) = some 3 := by decide +kernel
theorem n_La_stepsFrom : (parseMethodDescriptor y_La_stepsFrom.desc).map (fun d => d.parameters.length) = some 2 := by decide +kernel
theorem n_La_has : (parseMethodDescriptor y_La_has.desc).map (fun d => d.parameters.length) = some 1 := by decide +kernel
theorem n_La_size : (parseMethodDescriptor y_La_size.desc).map (fun d => d.parameters.length) = some 0 := by decide +kernel
theorem n_La_leastWhole : (parseMethodDescriptor y_La_leastWhole.desc).map (fun d => d.parameters.length) = some 0 := by decide +kernel
theorem n_La_dutyFrom : (parseMethodDescriptor y_La_dutyFrom.desc).map (fun d => d.parameters.length) = some 2 := by decide +kernel
theorem n_La_nextFrom : (parseMethodDescriptor y_La_nextFrom.desc).map (fun d => d.parameters.length) = some 2 := by decide +kernel
theorem n_La_isNearer : (parseMethodDescriptor y_La_isNearer.desc).map (fun d => d.parameters.length) = some 3 := by decide +kernel
theorem n_Li_countTyped : (parseMethodDescriptor y_Li_countTyped.desc).map (fun d => d.parameters.length) = some 1 := by decide +kernel
theorem n_Li_areVisible : (parseMethodDescriptor y_Li_areVisible.desc).map (fun d => d.parameters.length) = some 2 := by decide +kernel
theorem n_Li_byteOf : (parseMethodDescriptor y_Li_byteOf.desc).map (fun d => d.parameters.length) = some 2 := by decide +kernel
theorem n_Li_append : (parseMethodDescriptor y_Li_append.desc).map (fun d => d.parameters.length) = some 2 := by decide +kernel
theorem n_Li_clear : (parseMethodDescriptor y_Li_clear.desc).map (fun d => d.parameters.length) = some 0 := by decide +kernel
theorem n_Li_signAt : (parseMethodDescriptor y_Li_signAt.desc).map (fun d => d.parameters.length) = some 1 := by decide +kernel
theorem n_Li_temporalsBefore : (parseMethodDescriptor y_Li_temporalsBefore.desc).map (fun d => d.parameters.length) = some 1 := by decide +kernel
theorem n_Li_readInto : (parseMethodDescriptor y_Li_readInto.desc).map (fun d => d.parameters.length) = some 1 := by decide +kernel
theorem n_Li_readLevel : (parseMethodDescriptor y_Li_readLevel.desc).map (fun d => d.parameters.length) = some 3 := by decide +kernel
theorem n_Li_readSimple : (parseMethodDescriptor y_Li_readSimple.desc).map (fun d => d.parameters.length) = some 2 := by decide +kernel
theorem n_Li_readBracket : (parseMethodDescriptor y_Li_readBracket.desc).map (fun d => d.parameters.length) = some 2 := by decide +kernel
theorem n_Li_levelJoinedBy : (parseMethodDescriptor y_Li_levelJoinedBy.desc).map (fun d => d.parameters.length) = some 1 := by decide +kernel
theorem n_Wa_go : (parseMethodDescriptor y_Wa_go.desc).map (fun d => d.parameters.length) = some 1 := by decide +kernel
theorem n_Wa_exists : (parseMethodDescriptor y_Wa_exists.desc).map (fun d => d.parameters.length) = some 0 := by decide +kernel
theorem n_Wa_stemLength : (parseMethodDescriptor y_Wa_stemLength.desc).map (fun d => d.parameters.length) = some 0 := by decide +kernel
theorem n_Wa_loopLength : (parseMethodDescriptor y_Wa_loopLength.desc).map (fun d => d.parameters.length) = some 0 := by decide +kernel
theorem n_Wa_size : (parseMethodDescriptor y_Wa_size.desc).map (fun d => d.parameters.length) = some 0 := by decide +kernel
theorem n_Wa_stateAt : (parseMethodDescriptor y_Wa_stateAt.desc).map (fun d => d.parameters.length) = some 1 := by decide +kernel
theorem n_Lw_type : (parseMethodDescriptor y_Lw_type.desc).map (fun d => d.parameters.length) = some 3 := by decide +kernel
theorem n_Lw_formula : (parseMethodDescriptor y_Lw_formula.desc).map (fun d => d.parameters.length) = some 2 := by decide +kernel
theorem n_Lw_states : (parseMethodDescriptor y_Lw_states.desc).map (fun d => d.parameters.length) = some 2 := by decide +kernel
theorem n_Lw_isAt : (parseMethodDescriptor y_Lw_isAt.desc).map (fun d => d.parameters.length) = some 3 := by decide +kernel
theorem n_Lw_leads : (parseMethodDescriptor y_Lw_leads.desc).map (fun d => d.parameters.length) = some 4 := by decide +kernel
theorem n_Lw_lasts : (parseMethodDescriptor y_Lw_lasts.desc).map (fun d => d.parameters.length) = some 3 := by decide +kernel
theorem n_Lw_lasting : (parseMethodDescriptor y_Lw_lasting.desc).map (fun d => d.parameters.length) = some 2 := by decide +kernel
theorem n_Lw_promises : (parseMethodDescriptor y_Lw_promises.desc).map (fun d => d.parameters.length) = some 2 := by decide +kernel
theorem n_Lw_can : (parseMethodDescriptor y_Lw_can.desc).map (fun d => d.parameters.length) = some 2 := by decide +kernel
theorem n_Lw_stem : (parseMethodDescriptor y_Lw_stem.desc).map (fun d => d.parameters.length) = some 2 := by decide +kernel
theorem n_Lw_loop : (parseMethodDescriptor y_Lw_loop.desc).map (fun d => d.parameters.length) = some 2 := by decide +kernel
theorem n_Lw_step : (parseMethodDescriptor y_Lw_step.desc).map (fun d => d.parameters.length) = some 3 := by decide +kernel
theorem n_Lw_shape : (parseMethodDescriptor y_Lw_shape.desc).map (fun d => d.parameters.length) = some 3 := by decide +kernel
theorem n_Lw_set : (parseMethodDescriptor y_Lw_set.desc).map (fun d => d.parameters.length) = some 4 := by decide +kernel
theorem n_Lw_adopt : (parseMethodDescriptor y_Lw_adopt.desc).map (fun d => d.parameters.length) = some 2 := by decide +kernel
theorem n_Lw_letter : (parseMethodDescriptor y_Lw_letter.desc).map (fun d => d.parameters.length) = some 3 := by decide +kernel
theorem n_Lw_holds : (parseMethodDescriptor y_Lw_holds.desc).map (fun d => d.parameters.length) = some 3 := by decide +kernel
theorem n_Lw_law : (parseMethodDescriptor y_Lw_law.desc).map (fun d => d.parameters.length) = some 1 := by decide +kernel
theorem n_Ar_fill : (parseMethodDescriptor y_Ar_fill.desc).map (fun d => d.parameters.length) = some 2 := by decide +kernel
theorem n_D_init : (parseMethodDescriptor y_D_init.desc).map (fun d => d.parameters.length) = some 0 := by decide +kernel
theorem n_Mo_init : (parseMethodDescriptor y_Mo_init.desc).map (fun d => d.parameters.length) = some 0 := by decide +kernel
theorem n_Fo_init : (parseMethodDescriptor y_Fo_init.desc).map (fun d => d.parameters.length) = some 0 := by decide +kernel
theorem n_Gw_init : (parseMethodDescriptor y_Gw_init.desc).map (fun d => d.parameters.length) = some 0 := by decide +kernel
theorem n_La_init : (parseMethodDescriptor y_La_init.desc).map (fun d => d.parameters.length) = some 0 := by decide +kernel
theorem n_Li_init : (parseMethodDescriptor y_Li_init.desc).map (fun d => d.parameters.length) = some 0 := by decide +kernel
theorem n_Wa_init : (parseMethodDescriptor y_Wa_init.desc).map (fun d => d.parameters.length) = some 0 := by decide +kernel
end
section
/-! THROWS: 'throw new E("text")' over the abstract walk -/
def q_exn : List String := ["java/lang/RuntimeException", "java/lang/Exception"]
/-- a word that goes on holding -/
def q_kw (w : Cond) : Bool := (w.onTables && w.keeps) || (match w with
  | .castable _ _ => true
  | .declares _ => true
  | .arrayClass _ => true
  | _ => false)
theorem q_w2 {E : q_E} {s : State} {args : Array Value} (h0 : q_S0 E) (h : q_St E s) {w : Cond} (hw : w ∈ lw_tbl) (hg : q_kw w = true) : w.before args s = true := by
  unfold q_kw at hg
  by_cases h1 : (w.onTables && w.keeps) = true
  · exact q_w h0 h hw h1
  · have h2 : (w.onTables && w.keeps) = false := by simpa using h1
    rw [h2, Bool.false_or] at hg
    split at hg
    · exact va_Nw.use rfl (va_Nw.warmC h.1 (va_Nw.of rfl (h0.1 _ hw)))
    · exact va_Nw.use rfl (va_Nw.warmD h.1 (va_Nw.of rfl (h0.1 _ hw)))
    · exact q_wA h0 h hw
    · cases hg
theorem q_Z {E : q_E} {s : State} (h0 : q_S0 E) (h : q_St E s) {n d : String} (h1 : Cond.laysStatic Bundle.tN n d ∈ lw_tbl) (h2 : Cond.initialized Bundle.tN ∈ lw_tbl) (h3 : Cond.isRef (.static Bundle.tN n d) ∈ flatC (Jvm.Cond.and given_1 narrow_1)) : vx_Zq Bundle.tN n d (q_A (q_g E)) s s.heap := by
  have hz : vx_Zq Bundle.tN n d (q_A (q_g E)) (q_s E) (q_s E).heap := vx_Zqof (h0.1 _ h1) (h0.1 _ h2) (flat_of_before _ h0.2.2.2.2.2.1 _ h3) (fun a ha h' => absurd h' (Nat.not_le.mpr ha))
  exact vx_Zq.moved h.1.alike (hz.kept (fun a ha _ => h.2.2 a ha))
theorem q_str {E : q_E} {s : State} (h0 : q_S0 E) (h : q_St E s) {own tx : String} {k : Nat} (h1 : Cond.stringRef own k tx ∈ lw_tbl) (h2 : Cond.exactly (.string own k) "java/lang/String" ∈ flatC (Jvm.Cond.and given_1 narrow_1)) : ∃ a, vk_R own k tx a s := by
  have hx := flat_of_before _ h0.2.2.2.2.2.1 _ h2
  obtain ⟨a, c, cell, k9, h3, -⟩ := Cond.exactly_spec hx
  have h4 := h0.1 _ h1
  exact ⟨a, vk_R.warm h.1 (vk_R.of h4 h3)⟩
set_option maxHeartbeats 4000000 in
theorem q_throw {E : q_E} {R : Room} {M : q_M} {ws : List va_E} {ce sl pc mc ms ik is ic k : Nat} {text : String} {lv : List (Nat × Value)} {st : List Value} (hcls : Bundle.fit (q_ex k) = true) (hw1 : Cond.classLink M.2.2.2.1 ik (q_ex k) ∈ lw_tbl) (hw2 : Cond.initialized (q_ex k) ∈ lw_tbl) (hw3 : Cond.stringRef M.2.2.2.1 is text ∈ lw_tbl) (hw4 : Cond.exactly (.string M.2.2.2.1 is) "java/lang/String" ∈ flatC (Jvm.Cond.and given_1 narrow_1)) (hw5 : ∀ w ∈ vx_atS M.2.2.2.1 ic (q_ex k) q_exn, w ∈ lw_tbl ∧ q_kw w = true) (hw6 : ∀ w ∈ Cond.classLink M.2.2.2.1 ik (q_ex k) :: Cond.initialized (q_ex k) :: vx_atS M.2.2.2.1 ic (q_ex k) q_exn, vx_ot w = true)
    (d0 : decode M.1 pc = .ok (.new ik, 3)) (d3 : decode M.1 (pc + 3) = .ok (.dup, 1)) (d4 : decode M.1 (pc + 4) = .ok (.ldc is, 2)) (d6 : decode M.1 (pc + 6) = .ok (.invokespecial ic, 3)) (d9 : decode M.1 (pc + 9) = .ok (.athrow, 1)) (hM0 : M.2.2.2.2.2.1 = []) (hR : 5 < R.frames ∧ (st.map fun v => v.category).sum + 82 ≤ R.locals ∧ ce + 1 ≤ R.cells ∧ sl + 6 ≤ R.slots) (hmc : ce + 1 ≤ mc) (hms : sl + 6 ≤ ms)
    (hZ : Cond.laysStatic Bundle.tN "UNASSIGNED_STACK" Bundle.steD ∈ lw_tbl ∧ Cond.laysStatic Bundle.tN "SUPPRESSED_SENTINEL" Bundle.listD ∈ lw_tbl ∧ Cond.initialized Bundle.tN ∈ lw_tbl ∧ Cond.isRef (.static Bundle.tN "UNASSIGNED_STACK" Bundle.steD) ∈ flatC (Jvm.Cond.and given_1 narrow_1) ∧ Cond.isRef (.static Bundle.tN "SUPPRESSED_SENTINEL" Bundle.listD) ∈ flatC (Jvm.Cond.and given_1 narrow_1)) (hca : Cond.castable (q_ex k) (q_ex k) ∈ lw_tbl) :
    AW E R M ws ce sl pc lv st (.inr k, ws, mc, ms) := by
  intro p e s m args below meth c H locs ls hC hP hS hl
  obtain ⟨h0, ht, hx, hb, hml, hr, hlk, hh, hown, hnm, hn0⟩ := id hC
  obtain ⟨sa, hstr⟩ := q_str h0 ht hw3 hw4
  have hU := q_Z h0 ht hZ.1 hZ.2.2.1 hZ.2.2.2.1
  have hN := q_Z h0 ht hZ.2.1 hZ.2.2.1 hZ.2.2.2.2
  have hout : ∀ x ∈ c.exceptionTable.toList, covers x (pc + 9) = false := by
    intro x hx0
    have : (x.startPc, x.endPc, x.handlerPc, x.catchType) ∈ M.2.2.2.2.2.1 := by rw [← hh]; exact List.mem_map.mpr ⟨x, hx0, rfl⟩
    rw [hM0] at this
    cases this
  have hls : (l : Launch) → l = q_l E → l.stackTraces = false := by
    rintro l rfl
    unfold Launch.stackTraces
    rw [h0.2.2.2.2.1]
    decide
  have hw0 : ((st.map (q_cv (q_g E))).map fun v => v.category).sum = (st.map fun v => v.category).sum := by
    rw [List.map_map]
    have e0 : ((fun v : Value => v.category) ∘ q_cv (q_g E)) = fun v => v.category := by
      funext v
      exact q_cv_cat _ v
    rw [e0]
  have hk := vx_throwS (XC := fun E9 _ t => E9 = q_ex k ∧ H.size ≤ t.heap.size ∧ ∀ q : Nat, q < H.size → t.heap[q]? = H[q]?) (Qc := fun _ _ _ _ => False) (free := q_A (q_g E)) (args := args) (below := below) (mc := mc) (ms := ms) (names := q_exn) (ls := ls) (rest := st.map (q_cv (q_g E))) (cells := ce) (slots := sl) (R := R) (e := e) hx hb (hls _ rfl) hown hcls (by decide +kernel) (q_w2 h0 ht hw1 (by simp [q_kw, Cond.onTables, Cond.keeps])) (q_w2 h0 ht hw2 (by simp [q_kw, Cond.onTables, Cond.keeps, Cond.steady])) hstr (fun w hw => q_w2 h0 ht (hw5 w hw).1 (hw5 w hw).2) hw6 hU hN hS (hl.1.trans hml.symm) d0 d3 d4 d6 d9 hout hR.1 (by rw [hw0]; exact hR.2.1) hR.2.2.1 hR.2.2.2 hlk (fun t _ h1 h2 => ⟨rfl, h1, h2⟩) hS.2.2 hmc hms
  refine q_mono (fun t htt => ?_) hk
  obtain ⟨o, g1, g2, g3⟩ := htt
  rcases g3 with ⟨g3, -⟩ | ⟨q, rfl, E9, ce9, L9, ⟨rfl, f1, f2⟩, f3, f4, f5, f6, f7, f8⟩
  · exact g3.elim
  · obtain ⟨c3, c4, hc3, hc4, hasg⟩ := Cond.castable_spec (q_w2 (args := args) h0 ht hca (by simp [q_kw]))
    cases Option.some.inj (hc3.symm.trans f5)
    cases Option.some.inj (hc4.symm.trans f5)
    refine ⟨_, g1, g2, ⟨q, ce9, rfl, f3, f4, f5, hasg⟩, hP.kept (fun j x hx0 => f2 _ ((hP j x hx0).lt)), ⟨Nat.le_trans hS.1 f1, fun q' h1 h2 => ?_⟩, f6, L9, f7, f8⟩
    exact (f2 q' (Nat.lt_of_lt_of_le h1 hS.1)).trans (hS.2.1 q' h1 h2)
end
section
theorem q_thZ : Cond.laysStatic Bundle.tN "UNASSIGNED_STACK" Bundle.steD ∈ lw_tbl ∧ Cond.laysStatic Bundle.tN "SUPPRESSED_SENTINEL" Bundle.listD ∈ lw_tbl ∧ Cond.initialized Bundle.tN ∈ lw_tbl ∧ Cond.isRef (.static Bundle.tN "UNASSIGNED_STACK" Bundle.steD) ∈ flatC (Jvm.Cond.and given_1 narrow_1) ∧ Cond.isRef (.static Bundle.tN "SUPPRESSED_SENTINEL" Bundle.listD) ∈ flatC (Jvm.Cond.and given_1 narrow_1) := ⟨q_tb 220 (by decide +kernel), q_tb 222 (by decide +kernel), q_tb 8 (by decide +kernel), by decide +kernel, by decide +kernel⟩
theorem q_thW0 : ∀ w ∈ vx_atS "LassoDesk" 66 (q_ex 0) q_exn, w ∈ lw_tbl ∧ q_kw w = true := by decide +kernel
theorem q_thV0 : ∀ w ∈ Cond.classLink "LassoDesk" 62 (q_ex 0) :: Cond.initialized (q_ex 0) :: vx_atS "LassoDesk" 66 (q_ex 0) q_exn, vx_ot w = true := by decide +kernel
theorem q_thC0 : Cond.classLink "LassoDesk" 62 (q_ex 0) ∈ lw_tbl ∧ Cond.initialized (q_ex 0) ∈ lw_tbl ∧ Cond.castable (q_ex 0) (q_ex 0) ∈ lw_tbl := ⟨q_tb 193 (by decide +kernel), q_tb 11 (by decide +kernel), q_tb 195 (by decide +kernel)⟩
theorem q_thW1 : ∀ w ∈ vx_atS "LassoDesk" 129 (q_ex 1) q_exn, w ∈ lw_tbl ∧ q_kw w = true := by decide +kernel
theorem q_thV1 : ∀ w ∈ Cond.classLink "LassoDesk" 125 (q_ex 1) :: Cond.initialized (q_ex 1) :: vx_atS "LassoDesk" 129 (q_ex 1) q_exn, vx_ot w = true := by decide +kernel
theorem q_thC1 : Cond.classLink "LassoDesk" 125 (q_ex 1) ∈ lw_tbl ∧ Cond.initialized (q_ex 1) ∈ lw_tbl ∧ Cond.castable (q_ex 1) (q_ex 1) ∈ lw_tbl := ⟨q_tb 336 (by decide +kernel), q_tb 12 (by decide +kernel), q_tb 338 (by decide +kernel)⟩
theorem q_thW2 : ∀ w ∈ vx_atS "LassoDesk" 135 (q_ex 2) q_exn, w ∈ lw_tbl ∧ q_kw w = true := by decide +kernel
theorem q_thV2 : ∀ w ∈ Cond.classLink "LassoDesk" 131 (q_ex 2) :: Cond.initialized (q_ex 2) :: vx_atS "LassoDesk" 135 (q_ex 2) q_exn, vx_ot w = true := by decide +kernel
theorem q_thC2 : Cond.classLink "LassoDesk" 131 (q_ex 2) ∈ lw_tbl ∧ Cond.initialized (q_ex 2) ∈ lw_tbl ∧ Cond.castable (q_ex 2) (q_ex 2) ∈ lw_tbl := ⟨q_tb 368 (by decide +kernel), q_tb 13 (by decide +kernel), q_tb 370 (by decide +kernel)⟩
theorem q_throw_D_formula_23 {E : q_E} {c d : Nat} {x : q_W} {lv : List (Nat × Value)} : AW E (q_rm 74) m_D_formula (q_cells E c d x) 0 0 23 lv [] (.inr 0, q_cells E c d x, 1, 6) :=
  q_throw (ik := 62) (is := 79) (ic := 66) (text := "the line is no formula") (by decide +kernel) q_thC0.1 q_thC0.2.1 (q_tb 319 (by decide +kernel)) (by decide +kernel) q_thW0 q_thV0 d_D_formula_23 d_D_formula_26 d_D_formula_27 d_D_formula_29 d_D_formula_32 rfl ⟨by decide, by decide, by decide, by decide⟩ (by decide) (by decide) q_thZ q_thC0.2.2
theorem q_throw_D_requireFormula_7 {E : q_E} {c d : Nat} {x : q_W} {lv : List (Nat × Value)} : AW E (q_rm 6) m_D_requireFormula (q_cells E c d x) 0 0 7 lv [] (.inr 1, q_cells E c d x, 1, 6) :=
  q_throw (ik := 125) (is := 175) (ic := 129) (text := "there is no formula") (by decide +kernel) q_thC1.1 q_thC1.2.1 (q_tb 345 (by decide +kernel)) (by decide +kernel) q_thW1 q_thV1 d_D_requireFormula_7 d_D_requireFormula_10 d_D_requireFormula_11 d_D_requireFormula_13 d_D_requireFormula_16 rfl ⟨by decide, by decide, by decide, by decide⟩ (by decide) (by decide) q_thZ q_thC1.2.2
theorem q_throw_D_requirePlace_4 {E : q_E} {c d : Nat} {x : q_W} {lv : List (Nat × Value)} : AW E (q_rm 6) m_D_requirePlace (q_cells E c d x) 0 0 4 lv [] (.inr 2, q_cells E c d x, 1, 6) :=
  q_throw (ik := 131) (is := 179) (ic := 135) (text := "a place is not below 0") (by decide +kernel) q_thC2.1 q_thC2.2.1 (q_tb 629 (by decide +kernel)) (by decide +kernel) q_thW2 q_thV2 d_D_requirePlace_4 d_D_requirePlace_7 d_D_requirePlace_8 d_D_requirePlace_10 d_D_requirePlace_13 rfl ⟨by decide, by decide, by decide, by decide⟩ (by decide) (by decide) q_thZ q_thC2.2.2
theorem q_throw_D_requireState_15 {E : q_E} {c d : Nat} {x : q_W} {lv : List (Nat × Value)} : AW E (q_rm 6) m_D_requireState (q_cells E c d x) 0 0 15 lv [] (.inr 2, q_cells E c d x, 1, 6) :=
  q_throw (ik := 131) (is := 177) (ic := 135) (text := "there is no such state") (by decide +kernel) q_thC2.1 q_thC2.2.1 (q_tb 377 (by decide +kernel)) (by decide +kernel) q_thW2 q_thV2 d_D_requireState_15 d_D_requireState_18 d_D_requireState_19 d_D_requireState_21 d_D_requireState_24 rfl ⟨by decide, by decide, by decide, by decide⟩ (by decide) (by decide) q_thZ q_thC2.2.2
theorem q_throw_D_set_15 {E : q_E} {c d : Nat} {x : q_W} {lv : List (Nat × Value)} : AW E (q_rm 6) m_D_set (q_cells E c d x) 0 0 15 lv [] (.inr 2, q_cells E c d x, 1, 6) :=
  q_throw (ik := 131) (is := 149) (ic := 135) (text := "the given word has no such letter") (by decide +kernel) q_thC2.1 q_thC2.2.1 (q_tb 598 (by decide +kernel)) (by decide +kernel) q_thW2 q_thV2 d_D_set_15 d_D_set_18 d_D_set_19 d_D_set_21 d_D_set_24 rfl ⟨by decide, by decide, by decide, by decide⟩ (by decide) (by decide) q_thZ q_thC2.2.2
theorem q_throw_D_shape_8 {E : q_E} {c d : Nat} {x : q_W} {lv : List (Nat × Value)} : AW E (q_rm 6) m_D_shape (q_cells E c d x) 0 0 8 lv [] (.inr 0, q_cells E c d x, 1, 6) :=
  q_throw (ik := 62) (is := 142) (ic := 66) (text := "the stem is not 0 .. 8 or the loop not 1 .. 8") (by decide +kernel) q_thC0.1 q_thC0.2.1 (q_tb 581 (by decide +kernel)) (by decide +kernel) q_thW0 q_thV0 d_D_shape_8 d_D_shape_11 d_D_shape_12 d_D_shape_14 d_D_shape_17 rfl ⟨by decide, by decide, by decide, by decide⟩ (by decide) (by decide) q_thZ q_thC0.2.2
theorem q_throw_D_step_18 {E : q_E} {c d : Nat} {x : q_W} {lv : List (Nat × Value)} : AW E (q_rm 7) m_D_step (q_cells E c d x) 0 0 18 lv [] (.inr 1, q_cells E c d x, 1, 6) :=
  q_throw (ik := 125) (is := 127) (ic := 129) (text := "there is no walk") (by decide +kernel) q_thC1.1 q_thC1.2.1 (q_tb 560 (by decide +kernel)) (by decide +kernel) q_thW1 q_thV1 d_D_step_18 d_D_step_21 d_D_step_22 d_D_step_24 d_D_step_27 rfl ⟨by decide, by decide, by decide, by decide⟩ (by decide) (by decide) q_thZ q_thC1.2.2
theorem q_throw_D_step_43 {E : q_E} {c d : Nat} {x : q_W} {lv : List (Nat × Value)} : AW E (q_rm 7) m_D_step (q_cells E c d x) 0 0 43 lv [] (.inr 2, q_cells E c d x, 1, 6) :=
  q_throw (ik := 131) (is := 133) (ic := 135) (text := "the walk has no such state") (by decide +kernel) q_thC2.1 q_thC2.2.1 (q_tb 566 (by decide +kernel)) (by decide +kernel) q_thW2 q_thV2 d_D_step_43 d_D_step_46 d_D_step_47 d_D_step_49 d_D_step_52 rfl ⟨by decide, by decide, by decide, by decide⟩ (by decide) (by decide) q_thZ q_thC2.2.2
theorem q_throw_D_type_13 {E : q_E} {c d : Nat} {x : q_W} {lv : List (Nat × Value)} : AW E (q_rm 6) m_D_type (q_cells E c d x) 0 0 13 lv [] (.inr 0, q_cells E c d x, 1, 6) :=
  q_throw (ik := 62) (is := 64) (ic := 66) (text := "a character is not 33 .. 126") (by decide +kernel) q_thC0.1 q_thC0.2.1 (q_tb 234 (by decide +kernel)) (by decide +kernel) q_thW0 q_thV0 d_D_type_13 d_D_type_16 d_D_type_17 d_D_type_19 d_D_type_22 rfl ⟨by decide, by decide, by decide, by decide⟩ (by decide) (by decide) q_thZ q_thC0.2.2
end
section
theorem ml_Lw_77 : Cond.methodLink "LassoDeskLaw" 77 y_Lw_type ∈ lw_tbl := q_tb 176 (by decide +kernel)
theorem ml_Lw_82 : Cond.methodLink "LassoDeskLaw" 82 y_Mo_type ∈ lw_tbl := q_tb 804 (by decide +kernel)
theorem ml_Lw_83 : Cond.methodLink "LassoDeskLaw" 83 y_Mo_thrown ∈ lw_tbl := q_tb 800 (by decide +kernel)
theorem ml_Lw_86 : Cond.methodLink "LassoDeskLaw" 86 y_Lw_formula ∈ lw_tbl := q_tb 265 (by decide +kernel)
theorem ml_Lw_89 : Cond.methodLink "LassoDeskLaw" 89 y_Mo_formula ∈ lw_tbl := q_tb 808 (by decide +kernel)
theorem ml_Lw_90 : Cond.methodLink "LassoDeskLaw" 90 y_Lw_states ∈ lw_tbl := q_tb 324 (by decide +kernel)
theorem ml_Lw_92 : Cond.methodLink "LassoDeskLaw" 92 y_Mo_states ∈ lw_tbl := q_tb 900 (by decide +kernel)
theorem ml_Lw_93 : Cond.methodLink "LassoDeskLaw" 93 y_Lw_isAt ∈ lw_tbl := q_tb 356 (by decide +kernel)
theorem ml_Lw_95 : Cond.methodLink "LassoDeskLaw" 95 y_Mo_isAt ∈ lw_tbl := q_tb 908 (by decide +kernel)
theorem ml_Lw_96 : Cond.methodLink "LassoDeskLaw" 96 y_Lw_leads ∈ lw_tbl := q_tb 399 (by decide +kernel)
theorem ml_Lw_99 : Cond.methodLink "LassoDeskLaw" 99 y_Mo_leads ∈ lw_tbl := q_tb 916 (by decide +kernel)
theorem ml_Lw_100 : Cond.methodLink "LassoDeskLaw" 100 y_Lw_lasts ∈ lw_tbl := q_tb 410 (by decide +kernel)
theorem ml_Lw_102 : Cond.methodLink "LassoDeskLaw" 102 y_Mo_lasts ∈ lw_tbl := q_tb 920 (by decide +kernel)
theorem ml_Lw_103 : Cond.methodLink "LassoDeskLaw" 103 y_Lw_lasting ∈ lw_tbl := q_tb 501 (by decide +kernel)
theorem ml_Lw_105 : Cond.methodLink "LassoDeskLaw" 105 y_Mo_lasting ∈ lw_tbl := q_tb 924 (by decide +kernel)
theorem ml_Lw_106 : Cond.methodLink "LassoDeskLaw" 106 y_Lw_promises ∈ lw_tbl := q_tb 512 (by decide +kernel)
theorem ml_Lw_108 : Cond.methodLink "LassoDeskLaw" 108 y_Mo_promises ∈ lw_tbl := q_tb 928 (by decide +kernel)
theorem ml_Lw_109 : Cond.methodLink "LassoDeskLaw" 109 y_Lw_can ∈ lw_tbl := q_tb 520 (by decide +kernel)
theorem ml_Lw_111 : Cond.methodLink "LassoDeskLaw" 111 y_Mo_can ∈ lw_tbl := q_tb 932 (by decide +kernel)
theorem ml_Lw_112 : Cond.methodLink "LassoDeskLaw" 112 y_Lw_stem ∈ lw_tbl := q_tb 531 (by decide +kernel)
theorem ml_Lw_114 : Cond.methodLink "LassoDeskLaw" 114 y_Mo_stem ∈ lw_tbl := q_tb 936 (by decide +kernel)
theorem ml_Lw_115 : Cond.methodLink "LassoDeskLaw" 115 y_Lw_loop ∈ lw_tbl := q_tb 542 (by decide +kernel)
theorem ml_Lw_117 : Cond.methodLink "LassoDeskLaw" 117 y_Mo_loop ∈ lw_tbl := q_tb 940 (by decide +kernel)
theorem ml_Lw_118 : Cond.methodLink "LassoDeskLaw" 118 y_Lw_step ∈ lw_tbl := q_tb 553 (by decide +kernel)
theorem ml_Lw_120 : Cond.methodLink "LassoDeskLaw" 120 y_Mo_step ∈ lw_tbl := q_tb 944 (by decide +kernel)
theorem ml_Lw_121 : Cond.methodLink "LassoDeskLaw" 121 y_Lw_shape ∈ lw_tbl := q_tb 571 (by decide +kernel)
theorem ml_Lw_124 : Cond.methodLink "LassoDeskLaw" 124 y_Mo_shape ∈ lw_tbl := q_tb 948 (by decide +kernel)
theorem ml_Lw_125 : Cond.methodLink "LassoDeskLaw" 125 y_Lw_set ∈ lw_tbl := q_tb 590 (by decide +kernel)
theorem ml_Lw_127 : Cond.methodLink "LassoDeskLaw" 127 y_Mo_set ∈ lw_tbl := q_tb 952 (by decide +kernel)
theorem ml_Lw_128 : Cond.methodLink "LassoDeskLaw" 128 y_Lw_adopt ∈ lw_tbl := q_tb 603 (by decide +kernel)
theorem ml_Lw_130 : Cond.methodLink "LassoDeskLaw" 130 y_Mo_adopt ∈ lw_tbl := q_tb 956 (by decide +kernel)
theorem ml_Lw_131 : Cond.methodLink "LassoDeskLaw" 131 y_Lw_letter ∈ lw_tbl := q_tb 618 (by decide +kernel)
theorem ml_Lw_133 : Cond.methodLink "LassoDeskLaw" 133 y_Mo_letter ∈ lw_tbl := q_tb 960 (by decide +kernel)
theorem ml_Lw_134 : Cond.methodLink "LassoDeskLaw" 134 y_Lw_holds ∈ lw_tbl := q_tb 638 (by decide +kernel)
theorem ml_Lw_136 : Cond.methodLink "LassoDeskLaw" 136 y_Mo_holds ∈ lw_tbl := q_tb 968 (by decide +kernel)
end
section
theorem lc_Mo_188 : Cond.constant "LassoDeskModel" 188 100000 ∈ lw_tbl := q_tb 895 (by decide +kernel)
end
section
/-! CATCHING over the abstract walk, and counters raised -/
theorem q_widen {E : q_E} {R : Room} {M : q_M} {ws : List va_E} {ce sl ce' sl' pc : Nat} {lv : List (Nat × Value)} {st : List Value} {r : q_R} (h1 : ce ≤ ce') (h2 : sl ≤ sl') (k : AW E R M ws ce' sl' pc lv st r) : AW E R M ws ce sl pc lv st r :=
  fun p e s m args below meth c H locs ls hC hP hS hl => W.widen h1 h2 (k p e s m args below meth c H locs ls hC hP hS hl)
set_option maxHeartbeats 4000000 in
theorem q_callC {E : q_E} {R : Room} {M Y : q_M} {ws ws' : List va_E} {pc ce sl mc ms kx : Nat} {y : MethodName} {as rest : List Value} {rm : Room} {r : q_R} {lv lv' : List (Nat × Value)} {ig : Instr} {i : Fin 4} {name : String} (n : Nat) (hM : q_Ct E y Y rm ws as (.inr kx, ws', mc, ms)) (hI : q_Inv E R M ws pc y as rest) (hk : q_hd y Y ∈ lw_tbl ∧ Cond.initialized y.cls ∈ lw_tbl) (hro : rm.frames + 1 ≤ R.frames ∧ 8 + (Y.2.1 + 11) + rm.locals ≤ R.locals ∧ ce + rm.cells ≤ R.cells ∧ sl + rm.slots ≤ R.slots) (hst : (rest.map fun v => v.category).sum ≤ 8) (hd : decode M.1 pc = .ok (ig, 3))
    (hy0 : Y.2.2.2.2.2.2 = none) (pre : List (Nat × Nat × Nat × Nat)) (z : Nat × Nat × Nat × Nat) (suf : List (Nat × Nat × Nat × Nat)) (hsp : M.2.2.2.2.2.1 = pre ++ z :: suf)
    (hpass : ∀ q ∈ pre, (decide (q.1 ≤ pc) && decide (pc < q.2.1)) = false ∨ (q.2.2.2 ≠ 0 ∧ ∃ nm : String, Cond.classLink M.2.2.2.1 q.2.2.2 nm ∈ lw_tbl ∧ Cond.not (.castable (q_ex kx) nm) ∈ flatC (Jvm.Cond.and given_1 narrow_1)))
    (hz : (decide (z.1 ≤ pc) && decide (pc < z.2.1)) = true) (hz0 : z.2.2.2 ≠ 0) (hlk0 : Cond.classLink M.2.2.2.1 z.2.2.2 name ∈ lw_tbl) (hca : Cond.castable (q_ex kx) name ∈ lw_tbl) (hda : decode M.1 z.2.2.1 = .ok (.astore_n i, 1)) (hn : z.2.2.1 + 1 = n) (hi : (i : Nat) < M.2.1) (hlv : lv.filter (fun q => !(q.1 == (i : Nat)) && !(q.1 + 1 == (i : Nat) && q.2.category == 2)) = lv')
    (k : AW E R M ws' (ce + mc) (sl + ms) n lv' [] r) : AW E R M ws ce sl pc lv (as.reverse ++ rest) r := by
  subst hn
  subst hlv
  intro p e s m args below meth c H locs ls hC hP hS hl T hT X
  subst hT
  obtain ⟨h0, ht, hx, hb, hml, hr, hlk, hh, hown, hnm, hn0⟩ := id hC
  obtain ⟨o, B, Lc, XB, ho, hPB, hSB, hgo⟩ := q_res hM hI hk.1 hk.2 hro.1 hro.2.1 hro.2.2.1 hro.2.2.2 hst hd (Or.inl hy0) hC X hP hS hl.1
  obtain ⟨a, cell, rfl, g3, g4, g5, g6⟩ := ho
  rw [hsp] at hh
  obtain ⟨l1, l2, e1, e2, e3⟩ := List.map_eq_append_iff.mp hh
  obtain ⟨x, l3, e4, e5, e6⟩ := List.map_eq_cons_iff.mp e3
  subst e4
  have hkk : W p (q_l E) e R s m args below meth c B.heap (locs ++ Lc) (ce + mc) (sl + ms) (q_End E r s below) (F0 m x.handlerPc ls [.ref a]) := by
    have hpc : x.handlerPc = z.2.2.1 := by rw [← e5]
    rw [hpc]
    refine lv_astore_n hx hb hda rfl hl hi rfl (fun ls' hl' => ?_)
    have e7 := (List.cons.inj (show _ :: _ = _ :: _ from q_lv_put (q_g E) lv (i : Nat) (.ref 0))).2
    have hl2 : lv_has ls' M.2.1 (q_lv (q_g E) (lv.filter (fun q => !(q.1 == (i : Nat)) && !(q.1 + 1 == (i : Nat) && q.2.category == 2)))) := ⟨hl'.1, hl'.2.1, fun q hq => hl'.2.2 q (List.mem_cons_of_mem _ (e7 ▸ hq))⟩
    exact k p e s m args below meth c B.heap (locs ++ Lc) ls' hC hPB hSB hl2
  have hc := vx_catch (args := args) (pc := pc) (ls := ls) (rest := rest.map (q_cv (q_g E))) (E := q_ex kx) hown l1 x l3 e1 (fun w hw => ?_) (by rw [← e5] at hz; exact hz) (by rw [← e5] at hz0; exact hz0) (name := name) (by rw [← e5] at hlk0; exact q_w2 h0 ht hlk0 (by simp [q_kw, Cond.onTables, Cond.keeps])) (q_w2 h0 ht hca (by simp [q_kw])) g3 g4 g5 hkk
  · obtain ⟨t, a1, b1⟩ := hc B rfl XB
    exact ⟨t, hgo t a1, b1⟩
  · have hw' : (w.startPc, w.endPc, w.handlerPc, w.catchType) ∈ pre := by rw [← e2]; exact List.mem_map.mpr ⟨w, hw, rfl⟩
    rcases hpass _ hw' with h | ⟨h1, nm, h2, h3⟩
    · exact Or.inl h
    · exact Or.inr ⟨h1, nm, q_w2 h0 ht h2 (by simp [q_kw, Cond.onTables, Cond.keeps]), va_Nc.moved ht.1.alike (va_Nc.of (flat_of_before _ h0.2.2.2.2.2.1 _ h3))⟩
set_option maxHeartbeats 4000000 in
theorem q_callC2 {E : q_E} {R : Room} {M Y : q_M} {ws ws' : List va_E} {pc ce sl mc ms kx : Nat} {y : MethodName} {as rest : List Value} {rm : Room} {r : q_R} {lv lv' : List (Nat × Value)} {ig : Instr} {i : Nat} {name : String} (n : Nat) (hM : q_Ct E y Y rm ws as (.inr kx, ws', mc, ms)) (hI : q_Inv E R M ws pc y as rest) (hk : q_hd y Y ∈ lw_tbl ∧ Cond.initialized y.cls ∈ lw_tbl) (hro : rm.frames + 1 ≤ R.frames ∧ 8 + (Y.2.1 + 11) + rm.locals ≤ R.locals ∧ ce + rm.cells ≤ R.cells ∧ sl + rm.slots ≤ R.slots) (hst : (rest.map fun v => v.category).sum ≤ 8) (hd : decode M.1 pc = .ok (ig, 3))
    (hy0 : Y.2.2.2.2.2.2 = none) (pre : List (Nat × Nat × Nat × Nat)) (z : Nat × Nat × Nat × Nat) (suf : List (Nat × Nat × Nat × Nat)) (hsp : M.2.2.2.2.2.1 = pre ++ z :: suf)
    (hpass : ∀ q ∈ pre, (decide (q.1 ≤ pc) && decide (pc < q.2.1)) = false ∨ (q.2.2.2 ≠ 0 ∧ ∃ nm : String, Cond.classLink M.2.2.2.1 q.2.2.2 nm ∈ lw_tbl ∧ Cond.not (.castable (q_ex kx) nm) ∈ flatC (Jvm.Cond.and given_1 narrow_1)))
    (hz : (decide (z.1 ≤ pc) && decide (pc < z.2.1)) = true) (hz0 : z.2.2.2 ≠ 0) (hlk0 : Cond.classLink M.2.2.2.1 z.2.2.2 name ∈ lw_tbl) (hca : Cond.castable (q_ex kx) name ∈ lw_tbl) (hda : decode M.1 z.2.2.1 = .ok (.astore i, 2)) (hn : z.2.2.1 + 2 = n) (hi : i < M.2.1) (hlv : lv.filter (fun q => !(q.1 == i) && !(q.1 + 1 == i && q.2.category == 2)) = lv')
    (k : AW E R M ws' (ce + mc) (sl + ms) n lv' [] r) : AW E R M ws ce sl pc lv (as.reverse ++ rest) r := by
  subst hn
  subst hlv
  intro p e s m args below meth c H locs ls hC hP hS hl T hT X
  subst hT
  obtain ⟨h0, ht, hx, hb, hml, hr, hlk, hh, hown, hnm, hn0⟩ := id hC
  obtain ⟨o, B, Lc, XB, ho, hPB, hSB, hgo⟩ := q_res hM hI hk.1 hk.2 hro.1 hro.2.1 hro.2.2.1 hro.2.2.2 hst hd (Or.inl hy0) hC X hP hS hl.1
  obtain ⟨a, cell, rfl, g3, g4, g5, g6⟩ := ho
  rw [hsp] at hh
  obtain ⟨l1, l2, e1, e2, e3⟩ := List.map_eq_append_iff.mp hh
  obtain ⟨x, l3, e4, e5, e6⟩ := List.map_eq_cons_iff.mp e3
  subst e4
  have hkk : W p (q_l E) e R s m args below meth c B.heap (locs ++ Lc) (ce + mc) (sl + ms) (q_End E r s below) (F0 m x.handlerPc ls [.ref a]) := by
    have hpc : x.handlerPc = z.2.2.1 := by rw [← e5]
    rw [hpc]
    refine lv_astore hx hb hda hl hi rfl (fun ls' hl' => ?_)
    have e7 := (List.cons.inj (show _ :: _ = _ :: _ from q_lv_put (q_g E) lv i (.ref 0))).2
    have hl2 : lv_has ls' M.2.1 (q_lv (q_g E) (lv.filter (fun q => !(q.1 == i) && !(q.1 + 1 == i && q.2.category == 2)))) := ⟨hl'.1, hl'.2.1, fun q hq => hl'.2.2 q (List.mem_cons_of_mem _ (e7 ▸ hq))⟩
    exact k p e s m args below meth c B.heap (locs ++ Lc) ls' hC hPB hSB hl2
  have hc := vx_catch (args := args) (pc := pc) (ls := ls) (rest := rest.map (q_cv (q_g E))) (E := q_ex kx) hown l1 x l3 e1 (fun w hw => ?_) (by rw [← e5] at hz; exact hz) (by rw [← e5] at hz0; exact hz0) (name := name) (by rw [← e5] at hlk0; exact q_w2 h0 ht hlk0 (by simp [q_kw, Cond.onTables, Cond.keeps])) (q_w2 h0 ht hca (by simp [q_kw])) g3 g4 g5 hkk
  · obtain ⟨t, a1, b1⟩ := hc B rfl XB
    exact ⟨t, hgo t a1, b1⟩
  · have hw' : (w.startPc, w.endPc, w.handlerPc, w.catchType) ∈ pre := by rw [← e2]; exact List.mem_map.mpr ⟨w, hw, rfl⟩
    rcases hpass _ hw' with h | ⟨h1, nm, h2, h3⟩
    · exact Or.inl h
    · exact Or.inr ⟨h1, nm, q_w2 h0 ht h2 (by simp [q_kw, Cond.onTables, Cond.keeps]), va_Nc.moved ht.1.alike (va_Nc.of (flat_of_before _ h0.2.2.2.2.2.1 _ h3))⟩
section QXC
variable {E : q_E} {R : Room} {M Y : q_M} {c d ce sl pc : Nat} {x : q_W} {lv : List (Nat × Value)} {r : q_R} {β : Type} {ρ : β} {y : MethodName} {as rest st0 : List Value} {rm : Room} {ig : Instr} {vd' : Bool}
theorem q_xcatT {F : Option ((Int32 ⊕ Nat) × q_W)} {K : Int32 → q_W → Option β} {H : Nat → q_W → Option β} (n : Nat) (h : q_tcT F K H = some ρ) (hM : ∀ v, F = some v → q_Ct E y Y rm (q_cells E c d x) as (q_rT E c d vd' v)) (hI : q_Inv E R M (q_cells E c d x) pc y as rest) (hk : q_hd y Y ∈ lw_tbl ∧ Cond.initialized y.cls ∈ lw_tbl) (hro : rm.frames + 1 ≤ R.frames ∧ 8 + (Y.2.1 + 11) + rm.locals ≤ R.locals ∧ ce + rm.cells ≤ R.cells ∧ sl + rm.slots ≤ R.slots) (hst : (rest.map fun v => v.category).sum ≤ 8) (hd : decode M.1 pc = .ok (ig, 3)) (hn : pc + 3 = n) (hy0 : Y.2.2.2.2.2.2 = none) (hs : as.reverse ++ rest = st0) (k : ∀ v x', F = some (.inl v, x') → K v x' = some ρ → AW E R M (q_cells E c d x') ce sl n lv ((bif vd' then [] else [.int v]) ++ rest) r) (kt : ∀ kx x', F = some (.inr kx, x') → H kx x' = some ρ → AW E R M (q_cells E c d x) ce sl pc lv st0 r) : AW E R M (q_cells E c d x) ce sl pc lv st0 r := by
  cases hF : F with
  | none => rw [hF] at h; cases h
  | some v =>
    obtain ⟨v, x'⟩ := v
    cases v with
    | inl v =>
      subst hs
      have hk' := k v x' hF (by rw [hF] at h; exact h)
      cases vd' with
      | true => exact q_call n (hM _ hF) hI hk hro hst hd hn (Or.inl hy0) hk'
      | false => exact q_call n (hM _ hF) hI hk hro hst hd hn (Or.inl hy0) hk'
    | inr kx => exact kt kx x' hF (by rw [hF] at h; exact h)
theorem q_xcatP {F : Option (Int32 ⊕ Nat)} {K : Int32 → q_W → Option β} {H : Nat → q_W → Option β} (n : Nat) (h : q_tcP F x K H = some ρ) (hM : ∀ v, F = some v → q_Ct E y Y rm (q_cells E c d x) as (q_rPT E c d vd' x v)) (hI : q_Inv E R M (q_cells E c d x) pc y as rest) (hk : q_hd y Y ∈ lw_tbl ∧ Cond.initialized y.cls ∈ lw_tbl) (hro : rm.frames + 1 ≤ R.frames ∧ 8 + (Y.2.1 + 11) + rm.locals ≤ R.locals ∧ ce + rm.cells ≤ R.cells ∧ sl + rm.slots ≤ R.slots) (hst : (rest.map fun v => v.category).sum ≤ 8) (hd : decode M.1 pc = .ok (ig, 3)) (hn : pc + 3 = n) (hy0 : Y.2.2.2.2.2.2 = none) (hs : as.reverse ++ rest = st0) (k : ∀ v , F = some (.inl v) → K v x = some ρ → AW E R M (q_cells E c d x) ce sl n lv ((bif vd' then [] else [.int v]) ++ rest) r) (kt : ∀ kx , F = some (.inr kx) → H kx x = some ρ → AW E R M (q_cells E c d x) ce sl pc lv st0 r) : AW E R M (q_cells E c d x) ce sl pc lv st0 r := by
  cases hF : F with
  | none => rw [hF] at h; cases h
  | some v =>
    cases v with
    | inl v =>
      subst hs
      have hk' := k v  hF (by rw [hF] at h; exact h)
      cases vd' with
      | true => exact q_call n (hM _ hF) hI hk hro hst hd hn (Or.inl hy0) hk'
      | false => exact q_call n (hM _ hF) hI hk hro hst hd hn (Or.inl hy0) hk'
    | inr kx => exact kt kx  hF (by rw [hF] at h; exact h)
theorem q_xcatF {F : Option ((Int32 ⊕ Nat) × (Nat × Nat × q_W))} {K : Int32 → (Nat × Nat × q_W) → Option β} {H : Nat → (Nat × Nat × q_W) → Option β} (n : Nat) (h : q_tcT F K H = some ρ) (hM : ∀ v, F = some v → q_Ct E y Y rm (q_cells E c d x) as (q_rTF E v)) (hI : q_Inv E R M (q_cells E c d x) pc y as rest) (hk : q_hd y Y ∈ lw_tbl ∧ Cond.initialized y.cls ∈ lw_tbl) (hro : rm.frames + 1 ≤ R.frames ∧ 8 + (Y.2.1 + 11) + rm.locals ≤ R.locals ∧ ce + rm.cells ≤ R.cells ∧ sl + rm.slots ≤ R.slots) (hst : (rest.map fun v => v.category).sum ≤ 8) (hd : decode M.1 pc = .ok (ig, 3)) (hn : pc + 3 = n) (hy0 : Y.2.2.2.2.2.2 = none) (hs : as.reverse ++ rest = st0) (k : ∀ v x', F = some (.inl v, x') → K v x' = some ρ → AW E R M (q_cells E x'.1 x'.2.1 x'.2.2) ce sl n lv ([.int v] ++ rest) r) (kt : ∀ kx x', F = some (.inr kx, x') → H kx x' = some ρ → AW E R M (q_cells E c d x) ce sl pc lv st0 r) : AW E R M (q_cells E c d x) ce sl pc lv st0 r := by
  cases hF : F with
  | none => rw [hF] at h; cases h
  | some v =>
    obtain ⟨v, x'⟩ := v
    cases v with
    | inl v =>
      subst hs
      have hk' := k v x' hF (by rw [hF] at h; exact h)
      exact q_call n (hM _ hF) hI hk hro hst hd hn (Or.inl hy0) hk'
    | inr kx => exact kt kx x' hF (by rw [hF] at h; exact h)
theorem q_xcallL {F : Option (Int32 × q_W)} {K : Int32 × q_W → Option β} (n : Nat) (h : F.bind K = some ρ) (hM : ∀ v, F = some v → q_Ct E y Y rm (q_cells E c d x) as (q_rL E c d v)) (hI : q_Inv E R M (q_cells E c d x) pc y as rest) (hk : q_hd y Y ∈ lw_tbl ∧ Cond.initialized y.cls ∈ lw_tbl) (hro : rm.frames + 1 ≤ R.frames ∧ 8 + (Y.2.1 + 11) + rm.locals ≤ R.locals ∧ ce + rm.cells ≤ R.cells ∧ sl + rm.slots ≤ R.slots) (hst : (rest.map fun v => v.category).sum ≤ 8) (hd : decode M.1 pc = .ok (ig, 3)) (hn : pc + 3 = n) (hy0 : Y.2.2.2.2.2.2 = none) (hs : as.reverse ++ rest = st0) (k : ∀ v, F = some v → K v = some ρ → AW E R M (q_cells E c d v.2) (ce + 1) (sl + 6) n lv (.int v.1 :: rest) r) : AW E R M (q_cells E c d x) ce sl pc lv st0 r := by
  subst hs
  cases hF : F with
  | none => rw [hF] at h; cases h
  | some v => exact q_call n (hM v hF) hI hk hro hst hd hn (Or.inl hy0) (k v hF (by rw [hF] at h; exact h))
theorem q_xcallF {F : Option (Int32 × (Nat × Nat × q_W))} {K : Int32 × (Nat × Nat × q_W) → Option β} (n : Nat) (h : F.bind K = some ρ) (hM : ∀ v, F = some v → q_Ct E y Y rm (q_cells E c d x) as (q_rSF E v)) (hI : q_Inv E R M (q_cells E c d x) pc y as rest) (hk : q_hd y Y ∈ lw_tbl ∧ Cond.initialized y.cls ∈ lw_tbl) (hro : rm.frames + 1 ≤ R.frames ∧ 8 + (Y.2.1 + 11) + rm.locals ≤ R.locals ∧ ce + rm.cells ≤ R.cells ∧ sl + rm.slots ≤ R.slots) (hst : (rest.map fun v => v.category).sum ≤ 8) (hd : decode M.1 pc = .ok (ig, 3)) (hn : pc + 3 = n) (hy0 : Y.2.2.2.2.2.2 = none) (hs : as.reverse ++ rest = st0) (k : ∀ v, F = some v → K v = some ρ → AW E R M (q_cells E v.2.1 v.2.2.1 v.2.2.2) (ce + 1) (sl + 6) n lv (.int v.1 :: rest) r) : AW E R M (q_cells E c d x) ce sl pc lv st0 r := by
  subst hs
  cases hF : F with
  | none => rw [hF] at h; cases h
  | some v => exact q_call n (hM v hF) hI hk hro hst hd hn (Or.inl hy0) (k v hF (by rw [hF] at h; exact h))
end QXC
end
