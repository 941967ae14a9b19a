section
-- ===== PART A: goes FIRST, ahead of the names: the tables' words, and 'selects' of the private methods out of them =====
/-- a private method of a class that the tables say can be made, by its rows of tables_1 -/
def lw_okq (q : MethodName × Nat) : Prop := (q.1.cls ≠ "java/lang/invoke/MethodHandle" ∧ q.1.cls ≠ "java/lang/invoke/VarHandle") ∧ Cond.instantiable q.1.cls q.2 ∈ tables_1 ∧ Cond.privateMethod q.1 ∈ tables_1 ∧ Cond.instanceMethod q.1 ∈ tables_1
theorem lw_p0 : lw_okq (⟨"GridRouter$Grid", "link", "(III)V"⟩, 7) := ⟨⟨by decide +kernel, by decide +kernel⟩, List.mem_of_getElem? (i := 30) (by decide +kernel), List.mem_of_getElem? (i := 36) (by decide +kernel), List.mem_of_getElem? (i := 37) (by decide +kernel)⟩
theorem lw_p1 : lw_okq (⟨"GridRouter$Shapes", "isStart", "(I)Z"⟩, 2) := ⟨⟨by decide +kernel, by decide +kernel⟩, List.mem_of_getElem? (i := 287) (by decide +kernel), List.mem_of_getElem? (i := 330) (by decide +kernel), List.mem_of_getElem? (i := 331) (by decide +kernel)⟩
theorem lw_p2 : lw_okq (⟨"java/lang/Throwable", "fillInStackTrace", "(I)Ljava/lang/Throwable;"⟩, 6) := ⟨⟨by decide +kernel, by decide +kernel⟩, List.mem_of_getElem? (i := 396) (by decide +kernel), List.mem_of_getElem? (i := 394) (by decide +kernel), List.mem_of_getElem? (i := 395) (by decide +kernel)⟩
theorem lw_p3 : lw_okq (⟨"GridRouter$Rules", "isClose", "([III)Z"⟩, 5) := ⟨⟨by decide +kernel, by decide +kernel⟩, List.mem_of_getElem? (i := 144) (by decide +kernel), List.mem_of_getElem? (i := 458) (by decide +kernel), List.mem_of_getElem? (i := 459) (by decide +kernel)⟩
theorem lw_p4 : lw_okq (⟨"GridRouter$WayFinder", "pushToll", "(II)I"⟩, 12) := ⟨⟨by decide +kernel, by decide +kernel⟩, List.mem_of_getElem? (i := 217) (by decide +kernel), List.mem_of_getElem? (i := 519) (by decide +kernel), List.mem_of_getElem? (i := 520) (by decide +kernel)⟩
theorem lw_p5 : lw_okq (⟨"GridRouter$WayFinder", "freeToll", "(II)I"⟩, 12) := ⟨⟨by decide +kernel, by decide +kernel⟩, List.mem_of_getElem? (i := 217) (by decide +kernel), List.mem_of_getElem? (i := 528) (by decide +kernel), List.mem_of_getElem? (i := 529) (by decide +kernel)⟩
theorem lw_p6 : lw_okq (⟨"GridRouter$WayFinder", "spread", "(I)V"⟩, 12) := ⟨⟨by decide +kernel, by decide +kernel⟩, List.mem_of_getElem? (i := 217) (by decide +kernel), List.mem_of_getElem? (i := 532) (by decide +kernel), List.mem_of_getElem? (i := 533) (by decide +kernel)⟩
theorem lw_p7 : lw_okq (⟨"GridRouter$WayFinder", "enqueue", "(I)V"⟩, 12) := ⟨⟨by decide +kernel, by decide +kernel⟩, List.mem_of_getElem? (i := 217) (by decide +kernel), List.mem_of_getElem? (i := 537) (by decide +kernel), List.mem_of_getElem? (i := 538) (by decide +kernel)⟩
theorem lw_p8 : lw_okq (⟨"GridRouter$WayFinder", "dequeue", "()I"⟩, 12) := ⟨⟨by decide +kernel, by decide +kernel⟩, List.mem_of_getElem? (i := 217) (by decide +kernel), List.mem_of_getElem? (i := 541) (by decide +kernel), List.mem_of_getElem? (i := 542) (by decide +kernel)⟩
theorem lw_p9 : lw_okq (⟨"GridRouter$WayFinder", "spreadFrom", "(I)V"⟩, 12) := ⟨⟨by decide +kernel, by decide +kernel⟩, List.mem_of_getElem? (i := 217) (by decide +kernel), List.mem_of_getElem? (i := 545) (by decide +kernel), List.mem_of_getElem? (i := 546) (by decide +kernel)⟩
theorem lw_p10 : lw_okq (⟨"GridRouter$WayFinder", "stepCost", "(I)I"⟩, 12) := ⟨⟨by decide +kernel, by decide +kernel⟩, List.mem_of_getElem? (i := 217) (by decide +kernel), List.mem_of_getElem? (i := 550) (by decide +kernel), List.mem_of_getElem? (i := 551) (by decide +kernel)⟩
theorem lw_p11 : lw_okq (⟨"GridRouter$WayFinder", "trace", "(II)V"⟩, 12) := ⟨⟨by decide +kernel, by decide +kernel⟩, List.mem_of_getElem? (i := 217) (by decide +kernel), List.mem_of_getElem? (i := 554) (by decide +kernel), List.mem_of_getElem? (i := 555) (by decide +kernel)⟩
theorem lw_p12 : lw_okq (⟨"GridRouter$WayFinder", "predecessor", "(I)I"⟩, 12) := ⟨⟨by decide +kernel, by decide +kernel⟩, List.mem_of_getElem? (i := 217) (by decide +kernel), List.mem_of_getElem? (i := 558) (by decide +kernel), List.mem_of_getElem? (i := 559) (by decide +kernel)⟩
theorem lw_p13 : lw_okq (⟨"GridRouter$Router", "layWay", "(I)V"⟩, 8) := ⟨⟨by decide +kernel, by decide +kernel⟩, List.mem_of_getElem? (i := 198) (by decide +kernel), List.mem_of_getElem? (i := 562) (by decide +kernel), List.mem_of_getElem? (i := 563) (by decide +kernel)⟩
theorem lw_p14 : lw_okq (⟨"GridRouter$Router", "markPushedOut", "(I)V"⟩, 8) := ⟨⟨by decide +kernel, by decide +kernel⟩, List.mem_of_getElem? (i := 198) (by decide +kernel), List.mem_of_getElem? (i := 579) (by decide +kernel), List.mem_of_getElem? (i := 580) (by decide +kernel)⟩
theorem lw_p15 : lw_okq (⟨"GridRouter$Router", "markHolder", "(II)V"⟩, 8) := ⟨⟨by decide +kernel, by decide +kernel⟩, List.mem_of_getElem? (i := 198) (by decide +kernel), List.mem_of_getElem? (i := 583) (by decide +kernel), List.mem_of_getElem? (i := 584) (by decide +kernel)⟩
def lw_privs_1 : List (MethodName × Nat) := [(⟨"GridRouter$Grid", "link", "(III)V"⟩, 7), (⟨"GridRouter$Shapes", "isStart", "(I)Z"⟩, 2), (⟨"java/lang/Throwable", "fillInStackTrace", "(I)Ljava/lang/Throwable;"⟩, 6), (⟨"GridRouter$Rules", "isClose", "([III)Z"⟩, 5), (⟨"GridRouter$WayFinder", "pushToll", "(II)I"⟩, 12), (⟨"GridRouter$WayFinder", "freeToll", "(II)I"⟩, 12), (⟨"GridRouter$WayFinder", "spread", "(I)V"⟩, 12), (⟨"GridRouter$WayFinder", "enqueue", "(I)V"⟩, 12), (⟨"GridRouter$WayFinder", "dequeue", "()I"⟩, 12), (⟨"GridRouter$WayFinder", "spreadFrom", "(I)V"⟩, 12), (⟨"GridRouter$WayFinder", "stepCost", "(I)I"⟩, 12), (⟨"GridRouter$WayFinder", "trace", "(II)V"⟩, 12), (⟨"GridRouter$WayFinder", "predecessor", "(I)I"⟩, 12), (⟨"GridRouter$Router", "layWay", "(I)V"⟩, 8), (⟨"GridRouter$Router", "markPushedOut", "(I)V"⟩, 8), (⟨"GridRouter$Router", "markHolder", "(II)V"⟩, 8)]
theorem lw_r1 : ∀ q ∈ lw_privs_1, lw_okq q := List.forall_mem_cons.mpr ⟨lw_p0, List.forall_mem_cons.mpr ⟨lw_p1, List.forall_mem_cons.mpr ⟨lw_p2, List.forall_mem_cons.mpr ⟨lw_p3, List.forall_mem_cons.mpr ⟨lw_p4, List.forall_mem_cons.mpr ⟨lw_p5, List.forall_mem_cons.mpr ⟨lw_p6, List.forall_mem_cons.mpr ⟨lw_p7, List.forall_mem_cons.mpr ⟨lw_p8, List.forall_mem_cons.mpr ⟨lw_p9, List.forall_mem_cons.mpr ⟨lw_p10, List.forall_mem_cons.mpr ⟨lw_p11, List.forall_mem_cons.mpr ⟨lw_p12, List.forall_mem_cons.mpr ⟨lw_p13, List.forall_mem_cons.mpr ⟨lw_p14, List.forall_mem_cons.mpr ⟨lw_p15, fun _ h => absurd h List.not_mem_nil⟩⟩⟩⟩⟩⟩⟩⟩⟩⟩⟩⟩⟩⟩⟩⟩
theorem lw_p16 : lw_okq (⟨"GridRouter$Router", "stripPushedOut", "()V"⟩, 8) := ⟨⟨by decide +kernel, by decide +kernel⟩, List.mem_of_getElem? (i := 198) (by decide +kernel), List.mem_of_getElem? (i := 587) (by decide +kernel), List.mem_of_getElem? (i := 588) (by decide +kernel)⟩
theorem lw_p17 : lw_okq (⟨"GridRouter$Router", "lineUpPushedOut", "()V"⟩, 8) := ⟨⟨by decide +kernel, by decide +kernel⟩, List.mem_of_getElem? (i := 198) (by decide +kernel), List.mem_of_getElem? (i := 641) (by decide +kernel), List.mem_of_getElem? (i := 642) (by decide +kernel)⟩
theorem lw_p18 : lw_okq (⟨"GridRouter$Checker", "reach", "(II)V"⟩, 7) := ⟨⟨by decide +kernel, by decide +kernel⟩, List.mem_of_getElem? (i := 170) (by decide +kernel), List.mem_of_getElem? (i := 653) (by decide +kernel), List.mem_of_getElem? (i := 654) (by decide +kernel)⟩
theorem lw_p19 : lw_okq (⟨"GridRouter$Checker", "reachFrom", "(II)V"⟩, 7) := ⟨⟨by decide +kernel, by decide +kernel⟩, List.mem_of_getElem? (i := 170) (by decide +kernel), List.mem_of_getElem? (i := 657) (by decide +kernel), List.mem_of_getElem? (i := 658) (by decide +kernel)⟩
theorem lw_p20 : lw_okq (⟨"GridRouter$Checker", "misplaced", "()I"⟩, 7) := ⟨⟨by decide +kernel, by decide +kernel⟩, List.mem_of_getElem? (i := 170) (by decide +kernel), List.mem_of_getElem? (i := 719) (by decide +kernel), List.mem_of_getElem? (i := 720) (by decide +kernel)⟩
theorem lw_p21 : lw_okq (⟨"GridRouter$Checker", "crowded", "()I"⟩, 7) := ⟨⟨by decide +kernel, by decide +kernel⟩, List.mem_of_getElem? (i := 170) (by decide +kernel), List.mem_of_getElem? (i := 723) (by decide +kernel), List.mem_of_getElem? (i := 724) (by decide +kernel)⟩
theorem lw_p22 : lw_okq (⟨"GridRouter$Checker", "clash", "(II)I"⟩, 7) := ⟨⟨by decide +kernel, by decide +kernel⟩, List.mem_of_getElem? (i := 170) (by decide +kernel), List.mem_of_getElem? (i := 727) (by decide +kernel), List.mem_of_getElem? (i := 728) (by decide +kernel)⟩
theorem lw_p23 : lw_okq (⟨"GridRouter$Checker", "badVias", "()I"⟩, 7) := ⟨⟨by decide +kernel, by decide +kernel⟩, List.mem_of_getElem? (i := 170) (by decide +kernel), List.mem_of_getElem? (i := 731) (by decide +kernel), List.mem_of_getElem? (i := 732) (by decide +kernel)⟩
theorem lw_p24 : lw_okq (⟨"GridRouter$Shapes", "lastX", "(I)I"⟩, 2) := ⟨⟨by decide +kernel, by decide +kernel⟩, List.mem_of_getElem? (i := 287) (by decide +kernel), List.mem_of_getElem? (i := 754) (by decide +kernel), List.mem_of_getElem? (i := 755) (by decide +kernel)⟩
theorem lw_p25 : lw_okq (⟨"GridRouterModel", "at", "(III)I"⟩, 19) := ⟨⟨by decide +kernel, by decide +kernel⟩, List.mem_of_getElem? (i := 758) (by decide +kernel), List.mem_of_getElem? (i := 830) (by decide +kernel), List.mem_of_getElem? (i := 831) (by decide +kernel)⟩
theorem lw_p26 : lw_okq (⟨"GridRouterModel", "isPlace", "(II)Z"⟩, 19) := ⟨⟨by decide +kernel, by decide +kernel⟩, List.mem_of_getElem? (i := 758) (by decide +kernel), List.mem_of_getElem? (i := 834) (by decide +kernel), List.mem_of_getElem? (i := 835) (by decide +kernel)⟩
theorem lw_p27 : lw_okq (⟨"GridRouterModel", "isBarred", "(II)Z"⟩, 19) := ⟨⟨by decide +kernel, by decide +kernel⟩, List.mem_of_getElem? (i := 758) (by decide +kernel), List.mem_of_getElem? (i := 842) (by decide +kernel), List.mem_of_getElem? (i := 843) (by decide +kernel)⟩
theorem lw_p28 : lw_okq (⟨"GridRouterModel", "side", "(II)I"⟩, 19) := ⟨⟨by decide +kernel, by decide +kernel⟩, List.mem_of_getElem? (i := 758) (by decide +kernel), List.mem_of_getElem? (i := 849) (by decide +kernel), List.mem_of_getElem? (i := 850) (by decide +kernel)⟩
theorem lw_p29 : lw_okq (⟨"GridRouterModel", "isNet", "(I)Z"⟩, 19) := ⟨⟨by decide +kernel, by decide +kernel⟩, List.mem_of_getElem? (i := 758) (by decide +kernel), List.mem_of_getElem? (i := 857) (by decide +kernel), List.mem_of_getElem? (i := 858) (by decide +kernel)⟩
theorem lw_p30 : lw_okq (⟨"GridRouterModel", "find", "(IZ)I"⟩, 19) := ⟨⟨by decide +kernel, by decide +kernel⟩, List.mem_of_getElem? (i := 758) (by decide +kernel), List.mem_of_getElem? (i := 861) (by decide +kernel), List.mem_of_getElem? (i := 862) (by decide +kernel)⟩
theorem lw_p31 : lw_okq (⟨"GridRouterModel", "clear", "(I)V"⟩, 19) := ⟨⟨by decide +kernel, by decide +kernel⟩, List.mem_of_getElem? (i := 758) (by decide +kernel), List.mem_of_getElem? (i := 865) (by decide +kernel), List.mem_of_getElem? (i := 866) (by decide +kernel)⟩
def lw_privs_2 : List (MethodName × Nat) := [(⟨"GridRouter$Router", "stripPushedOut", "()V"⟩, 8), (⟨"GridRouter$Router", "lineUpPushedOut", "()V"⟩, 8), (⟨"GridRouter$Checker", "reach", "(II)V"⟩, 7), (⟨"GridRouter$Checker", "reachFrom", "(II)V"⟩, 7), (⟨"GridRouter$Checker", "misplaced", "()I"⟩, 7), (⟨"GridRouter$Checker", "crowded", "()I"⟩, 7), (⟨"GridRouter$Checker", "clash", "(II)I"⟩, 7), (⟨"GridRouter$Checker", "badVias", "()I"⟩, 7), (⟨"GridRouter$Shapes", "lastX", "(I)I"⟩, 2), (⟨"GridRouterModel", "at", "(III)I"⟩, 19), (⟨"GridRouterModel", "isPlace", "(II)Z"⟩, 19), (⟨"GridRouterModel", "isBarred", "(II)Z"⟩, 19), (⟨"GridRouterModel", "side", "(II)I"⟩, 19), (⟨"GridRouterModel", "isNet", "(I)Z"⟩, 19), (⟨"GridRouterModel", "find", "(IZ)I"⟩, 19), (⟨"GridRouterModel", "clear", "(I)V"⟩, 19)]
theorem lw_r2 : ∀ q ∈ lw_privs_2, lw_okq q := List.forall_mem_cons.mpr ⟨lw_p16, List.forall_mem_cons.mpr ⟨lw_p17, List.forall_mem_cons.mpr ⟨lw_p18, List.forall_mem_cons.mpr ⟨lw_p19, List.forall_mem_cons.mpr ⟨lw_p20, List.forall_mem_cons.mpr ⟨lw_p21, List.forall_mem_cons.mpr ⟨lw_p22, List.forall_mem_cons.mpr ⟨lw_p23, List.forall_mem_cons.mpr ⟨lw_p24, List.forall_mem_cons.mpr ⟨lw_p25, List.forall_mem_cons.mpr ⟨lw_p26, List.forall_mem_cons.mpr ⟨lw_p27, List.forall_mem_cons.mpr ⟨lw_p28, List.forall_mem_cons.mpr ⟨lw_p29, List.forall_mem_cons.mpr ⟨lw_p30, List.forall_mem_cons.mpr ⟨lw_p31, fun _ h => absurd h List.not_mem_nil⟩⟩⟩⟩⟩⟩⟩⟩⟩⟩⟩⟩⟩⟩⟩⟩
theorem lw_p32 : lw_okq (⟨"GridRouterModel", "many", "()I"⟩, 19) := ⟨⟨by decide +kernel, by decide +kernel⟩, List.mem_of_getElem? (i := 758) (by decide +kernel), List.mem_of_getElem? (i := 869) (by decide +kernel), List.mem_of_getElem? (i := 870) (by decide +kernel)⟩
theorem lw_p33 : lw_okq (⟨"GridRouterModel", "placeOf", "(I)I"⟩, 19) := ⟨⟨by decide +kernel, by decide +kernel⟩, List.mem_of_getElem? (i := 758) (by decide +kernel), List.mem_of_getElem? (i := 873) (by decide +kernel), List.mem_of_getElem? (i := 874) (by decide +kernel)⟩
theorem lw_p34 : lw_okq (⟨"GridRouterModel", "weigh", "(IZ)V"⟩, 19) := ⟨⟨by decide +kernel, by decide +kernel⟩, List.mem_of_getElem? (i := 758) (by decide +kernel), List.mem_of_getElem? (i := 877) (by decide +kernel), List.mem_of_getElem? (i := 878) (by decide +kernel)⟩
theorem lw_p35 : lw_okq (⟨"GridRouterModel", "toll", "(IIZ)I"⟩, 19) := ⟨⟨by decide +kernel, by decide +kernel⟩, List.mem_of_getElem? (i := 758) (by decide +kernel), List.mem_of_getElem? (i := 882) (by decide +kernel), List.mem_of_getElem? (i := 883) (by decide +kernel)⟩
theorem lw_p36 : lw_okq (⟨"GridRouterModel", "isTaken", "(II)Z"⟩, 19) := ⟨⟨by decide +kernel, by decide +kernel⟩, List.mem_of_getElem? (i := 758) (by decide +kernel), List.mem_of_getElem? (i := 886) (by decide +kernel), List.mem_of_getElem? (i := 887) (by decide +kernel)⟩
theorem lw_p37 : lw_okq (⟨"GridRouterModel", "lay", "(IZ)V"⟩, 19) := ⟨⟨by decide +kernel, by decide +kernel⟩, List.mem_of_getElem? (i := 758) (by decide +kernel), List.mem_of_getElem? (i := 890) (by decide +kernel), List.mem_of_getElem? (i := 891) (by decide +kernel)⟩
theorem lw_p38 : lw_okq (⟨"GridRouterModel", "before", "(IIZ)I"⟩, 19) := ⟨⟨by decide +kernel, by decide +kernel⟩, List.mem_of_getElem? (i := 758) (by decide +kernel), List.mem_of_getElem? (i := 894) (by decide +kernel), List.mem_of_getElem? (i := 895) (by decide +kernel)⟩
theorem lw_p39 : lw_okq (⟨"GridRouterModel", "pushOut", "(II)V"⟩, 19) := ⟨⟨by decide +kernel, by decide +kernel⟩, List.mem_of_getElem? (i := 758) (by decide +kernel), List.mem_of_getElem? (i := 898) (by decide +kernel), List.mem_of_getElem? (i := 899) (by decide +kernel)⟩
theorem lw_p40 : lw_okq (⟨"GridRouterModel", "leave", "(II)V"⟩, 19) := ⟨⟨by decide +kernel, by decide +kernel⟩, List.mem_of_getElem? (i := 758) (by decide +kernel), List.mem_of_getElem? (i := 902) (by decide +kernel), List.mem_of_getElem? (i := 903) (by decide +kernel)⟩
theorem lw_p41 : lw_okq (⟨"GridRouterModel", "standAll", "(Z)V"⟩, 19) := ⟨⟨by decide +kernel, by decide +kernel⟩, List.mem_of_getElem? (i := 758) (by decide +kernel), List.mem_of_getElem? (i := 918) (by decide +kernel), List.mem_of_getElem? (i := 919) (by decide +kernel)⟩
theorem lw_p42 : lw_okq (⟨"GridRouterModel", "spread", "(I)I"⟩, 19) := ⟨⟨by decide +kernel, by decide +kernel⟩, List.mem_of_getElem? (i := 758) (by decide +kernel), List.mem_of_getElem? (i := 922) (by decide +kernel), List.mem_of_getElem? (i := 923) (by decide +kernel)⟩
theorem lw_p43 : lw_okq (⟨"GridRouterModel", "stands", "(I)Z"⟩, 19) := ⟨⟨by decide +kernel, by decide +kernel⟩, List.mem_of_getElem? (i := 758) (by decide +kernel), List.mem_of_getElem? (i := 929) (by decide +kernel), List.mem_of_getElem? (i := 930) (by decide +kernel)⟩
theorem lw_p44 : lw_okq (⟨"GridRouterModel", "isJoined", "(I)Z"⟩, 19) := ⟨⟨by decide +kernel, by decide +kernel⟩, List.mem_of_getElem? (i := 758) (by decide +kernel), List.mem_of_getElem? (i := 933) (by decide +kernel), List.mem_of_getElem? (i := 934) (by decide +kernel)⟩
theorem lw_p45 : lw_okq (⟨"GridRouterModel", "touches", "(I)Z"⟩, 19) := ⟨⟨by decide +kernel, by decide +kernel⟩, List.mem_of_getElem? (i := 758) (by decide +kernel), List.mem_of_getElem? (i := 937) (by decide +kernel), List.mem_of_getElem? (i := 938) (by decide +kernel)⟩
theorem lw_p46 : lw_okq (⟨"GridRouterModel", "countOpen", "()I"⟩, 19) := ⟨⟨by decide +kernel, by decide +kernel⟩, List.mem_of_getElem? (i := 758) (by decide +kernel), List.mem_of_getElem? (i := 941) (by decide +kernel), List.mem_of_getElem? (i := 942) (by decide +kernel)⟩
theorem lw_p47 : lw_okq (⟨"GridRouterModel", "countNear", "()I"⟩, 19) := ⟨⟨by decide +kernel, by decide +kernel⟩, List.mem_of_getElem? (i := 758) (by decide +kernel), List.mem_of_getElem? (i := 965) (by decide +kernel), List.mem_of_getElem? (i := 966) (by decide +kernel)⟩
def lw_privs_3 : List (MethodName × Nat) := [(⟨"GridRouterModel", "many", "()I"⟩, 19), (⟨"GridRouterModel", "placeOf", "(I)I"⟩, 19), (⟨"GridRouterModel", "weigh", "(IZ)V"⟩, 19), (⟨"GridRouterModel", "toll", "(IIZ)I"⟩, 19), (⟨"GridRouterModel", "isTaken", "(II)Z"⟩, 19), (⟨"GridRouterModel", "lay", "(IZ)V"⟩, 19), (⟨"GridRouterModel", "before", "(IIZ)I"⟩, 19), (⟨"GridRouterModel", "pushOut", "(II)V"⟩, 19), (⟨"GridRouterModel", "leave", "(II)V"⟩, 19), (⟨"GridRouterModel", "standAll", "(Z)V"⟩, 19), (⟨"GridRouterModel", "spread", "(I)I"⟩, 19), (⟨"GridRouterModel", "stands", "(I)Z"⟩, 19), (⟨"GridRouterModel", "isJoined", "(I)Z"⟩, 19), (⟨"GridRouterModel", "touches", "(I)Z"⟩, 19), (⟨"GridRouterModel", "countOpen", "()I"⟩, 19), (⟨"GridRouterModel", "countNear", "()I"⟩, 19)]
theorem lw_r3 : ∀ q ∈ lw_privs_3, lw_okq q := List.forall_mem_cons.mpr ⟨lw_p32, List.forall_mem_cons.mpr ⟨lw_p33, List.forall_mem_cons.mpr ⟨lw_p34, List.forall_mem_cons.mpr ⟨lw_p35, List.forall_mem_cons.mpr ⟨lw_p36, List.forall_mem_cons.mpr ⟨lw_p37, List.forall_mem_cons.mpr ⟨lw_p38, List.forall_mem_cons.mpr ⟨lw_p39, List.forall_mem_cons.mpr ⟨lw_p40, List.forall_mem_cons.mpr ⟨lw_p41, List.forall_mem_cons.mpr ⟨lw_p42, List.forall_mem_cons.mpr ⟨lw_p43, List.forall_mem_cons.mpr ⟨lw_p44, List.forall_mem_cons.mpr ⟨lw_p45, List.forall_mem_cons.mpr ⟨lw_p46, List.forall_mem_cons.mpr ⟨lw_p47, fun _ h => absurd h List.not_mem_nil⟩⟩⟩⟩⟩⟩⟩⟩⟩⟩⟩⟩⟩⟩⟩⟩
theorem lw_p48 : lw_okq (⟨"GridRouterModel", "begins", "(I)Z"⟩, 19) := ⟨⟨by decide +kernel, by decide +kernel⟩, List.mem_of_getElem? (i := 758) (by decide +kernel), List.mem_of_getElem? (i := 973) (by decide +kernel), List.mem_of_getElem? (i := 974) (by decide +kernel)⟩
theorem lw_p49 : lw_okq (⟨"GridRouterModel", "fail", "(I)I"⟩, 19) := ⟨⟨by decide +kernel, by decide +kernel⟩, List.mem_of_getElem? (i := 758) (by decide +kernel), List.mem_of_getElem? (i := 981) (by decide +kernel), List.mem_of_getElem? (i := 982) (by decide +kernel)⟩
def lw_privs_4 : List (MethodName × Nat) := [(⟨"GridRouterModel", "begins", "(I)Z"⟩, 19), (⟨"GridRouterModel", "fail", "(I)I"⟩, 19)]
theorem lw_r4 : ∀ q ∈ lw_privs_4, lw_okq q := List.forall_mem_cons.mpr ⟨lw_p48, List.forall_mem_cons.mpr ⟨lw_p49, fun _ h => absurd h List.not_mem_nil⟩⟩
def lw_privs : List (MethodName × Nat) := lw_privs_1 ++ (lw_privs_2 ++ (lw_privs_3 ++ (lw_privs_4)))
def lw_tbl : List Cond := k2_sels lw_privs ++ tables_1
theorem lw_privs_ok : ∀ q ∈ lw_privs, lw_okq q := by
  show ∀ q ∈ lw_privs_1 ++ (lw_privs_2 ++ (lw_privs_3 ++ (lw_privs_4))), lw_okq q
  exact List.forall_mem_append.mpr ⟨lw_r1, List.forall_mem_append.mpr ⟨lw_r2, List.forall_mem_append.mpr ⟨lw_r3, lw_r4⟩⟩⟩
end
section
/-! classes, fields, codes, words, decoded rows: laid by wip/gen/drive.py -/
def zT0 : u_T := fun k => match k with
  | 0 => ("GridRouter", "grid", "LGridRouter$Grid;", true)
  | 1 => ("GridRouter", "nets", "LGridRouter$Nets;", true)
  | 2 => ("GridRouter", "layout", "LGridRouter$Layout;", true)
  | 3 => ("GridRouter", "rules", "LGridRouter$Rules;", true)
  | 4 => ("GridRouter", "router", "LGridRouter$Router;", true)
  | 5 => ("GridRouter", "checker", "LGridRouter$Checker;", true)
  | _ => ("GridRouter", "rows", "LGridRouter$Shapes;", true)
def zt0 : Nat → FieldType := fun k => match k with
  | 0 => .object "GridRouter$Grid"
  | 1 => .object "GridRouter$Nets"
  | 2 => .object "GridRouter$Layout"
  | 3 => .object "GridRouter$Rules"
  | 4 => .object "GridRouter$Router"
  | 5 => .object "GridRouter$Checker"
  | _ => .object "GridRouter$Shapes"
theorem zn0 : ∀ a, a < 7 → ∀ b, b < 7 → a ≠ b → (zT0 a).2.1 ≠ (zT0 b).2.1 := by decide +kernel
theorem zk0 : ∀ k, k < 7 → parseFieldDescriptor (zT0 k).2.2.1 = some (zt0 k) := by decide +kernel
def zT1 : u_T := fun k => match k with
  | 0 => ("GridRouter$Grid", "width", "I", true)
  | 1 => ("GridRouter$Grid", "height", "I", true)
  | 2 => ("GridRouter$Grid", "area", "I", true)
  | 3 => ("GridRouter$Grid", "cells", "I", true)
  | 4 => ("GridRouter$Grid", "xOf", "[I", true)
  | 5 => ("GridRouter$Grid", "yOf", "[I", true)
  | _ => ("GridRouter$Grid", "beside", "[I", true)
def zt1 : Nat → FieldType := fun k => match k with
  | 0 => .int
  | 1 => .int
  | 2 => .int
  | 3 => .int
  | 4 => .array .int
  | 5 => .array .int
  | _ => .array .int
theorem zn1 : ∀ a, a < 7 → ∀ b, b < 7 → a ≠ b → (zT1 a).2.1 ≠ (zT1 b).2.1 := by decide +kernel
theorem zk1 : ∀ k, k < 7 → parseFieldDescriptor (zT1 k).2.2.1 = some (zt1 k) := by decide +kernel
def zT2 : u_T := fun k => match k with
  | 0 => ("GridRouter$Nets", "first", "[I", true)
  | 1 => ("GridRouter$Nets", "second", "[I", true)
  | 2 => ("GridRouter$Nets", "pinOwner", "[I", true)
  | 3 => ("GridRouter$Nets", "count", "I", false)
  | _ => ("GridRouter$Nets", "grid", "LGridRouter$Grid;", true)
def zt2 : Nat → FieldType := fun k => match k with
  | 0 => .array .int
  | 1 => .array .int
  | 2 => .array .int
  | 3 => .int
  | _ => .object "GridRouter$Grid"
theorem zn2 : ∀ a, a < 5 → ∀ b, b < 5 → a ≠ b → (zT2 a).2.1 ≠ (zT2 b).2.1 := by decide +kernel
theorem zk2 : ∀ k, k < 5 → parseFieldDescriptor (zT2 k).2.2.1 = some (zt2 k) := by decide +kernel
def zT3 : u_T := fun k => match k with
  | 0 => ("GridRouter$Layout", "owner", "[I", true)
  | 1 => ("GridRouter$Layout", "vias", "[Z", true)
  | 2 => ("GridRouter$Layout", "grid", "LGridRouter$Grid;", true)
  | _ => ("GridRouter$Layout", "nets", "LGridRouter$Nets;", true)
def zt3 : Nat → FieldType := fun k => match k with
  | 0 => .array .int
  | 1 => .array .boolean
  | 2 => .object "GridRouter$Grid"
  | _ => .object "GridRouter$Nets"
theorem zn3 : ∀ a, a < 4 → ∀ b, b < 4 → a ≠ b → (zT3 a).2.1 ≠ (zT3 b).2.1 := by decide +kernel
theorem zk3 : ∀ k, k < 4 → parseFieldDescriptor (zT3 k).2.2.1 = some (zt3 k) := by decide +kernel
def zT4 : u_T := fun k => match k with
  | 0 => ("GridRouter$Rules", "blocked", "[Z", true)
  | 1 => ("GridRouter$Rules", "spaced", "Z", true)
  | 2 => ("GridRouter$Rules", "grid", "LGridRouter$Grid;", true)
  | 3 => ("GridRouter$Rules", "nets", "LGridRouter$Nets;", true)
  | _ => ("GridRouter$Rules", "layout", "LGridRouter$Layout;", true)
def zt4 : Nat → FieldType := fun k => match k with
  | 0 => .array .boolean
  | 1 => .boolean
  | 2 => .object "GridRouter$Grid"
  | 3 => .object "GridRouter$Nets"
  | _ => .object "GridRouter$Layout"
theorem zn4 : ∀ a, a < 5 → ∀ b, b < 5 → a ≠ b → (zT4 a).2.1 ≠ (zT4 b).2.1 := by decide +kernel
theorem zk4 : ∀ k, k < 5 → parseFieldDescriptor (zT4 k).2.2.1 = some (zt4 k) := by decide +kernel
def zT5 : u_T := fun k => match k with
  | 0 => ("GridRouter$Checker", "grid", "LGridRouter$Grid;", true)
  | 1 => ("GridRouter$Checker", "nets", "LGridRouter$Nets;", true)
  | 2 => ("GridRouter$Checker", "layout", "LGridRouter$Layout;", true)
  | 3 => ("GridRouter$Checker", "rules", "LGridRouter$Rules;", true)
  | 4 => ("GridRouter$Checker", "reached", "[I", true)
  | 5 => ("GridRouter$Checker", "seen", "[Z", true)
  | _ => ("GridRouter$Checker", "found", "I", false)
def zt5 : Nat → FieldType := fun k => match k with
  | 0 => .object "GridRouter$Grid"
  | 1 => .object "GridRouter$Nets"
  | 2 => .object "GridRouter$Layout"
  | 3 => .object "GridRouter$Rules"
  | 4 => .array .int
  | 5 => .array .boolean
  | _ => .int
theorem zn5 : ∀ a, a < 7 → ∀ b, b < 7 → a ≠ b → (zT5 a).2.1 ≠ (zT5 b).2.1 := by decide +kernel
theorem zk5 : ∀ k, k < 7 → parseFieldDescriptor (zT5 k).2.2.1 = some (zt5 k) := by decide +kernel
def zT6 : u_T := fun k => match k with
  | 0 => ("GridRouter$Router", "nets", "LGridRouter$Nets;", true)
  | 1 => ("GridRouter$Router", "layout", "LGridRouter$Layout;", true)
  | 2 => ("GridRouter$Router", "grid", "LGridRouter$Grid;", true)
  | 3 => ("GridRouter$Router", "rules", "LGridRouter$Rules;", true)
  | 4 => ("GridRouter$Router", "checker", "LGridRouter$Checker;", true)
  | 5 => ("GridRouter$Router", "finder", "LGridRouter$WayFinder;", true)
  | 6 => ("GridRouter$Router", "line", "LGridRouter$Line;", true)
  | _ => ("GridRouter$Router", "pushedOut", "[Z", true)
def zt6 : Nat → FieldType := fun k => match k with
  | 0 => .object "GridRouter$Nets"
  | 1 => .object "GridRouter$Layout"
  | 2 => .object "GridRouter$Grid"
  | 3 => .object "GridRouter$Rules"
  | 4 => .object "GridRouter$Checker"
  | 5 => .object "GridRouter$WayFinder"
  | 6 => .object "GridRouter$Line"
  | _ => .array .boolean
theorem zn6 : ∀ a, a < 8 → ∀ b, b < 8 → a ≠ b → (zT6 a).2.1 ≠ (zT6 b).2.1 := by decide +kernel
theorem zk6 : ∀ k, k < 8 → parseFieldDescriptor (zT6 k).2.2.1 = some (zt6 k) := by decide +kernel
def zT7 : u_T := fun k => match k with
  | 0 => ("GridRouter$Line", "members", "[I", true)
  | _ => ("GridRouter$Line", "size", "I", false)
def zt7 : Nat → FieldType := fun k => match k with
  | 0 => .array .int
  | _ => .int
theorem zn7 : ∀ a, a < 2 → ∀ b, b < 2 → a ≠ b → (zT7 a).2.1 ≠ (zT7 b).2.1 := by decide +kernel
theorem zk7 : ∀ k, k < 2 → parseFieldDescriptor (zT7 k).2.2.1 = some (zt7 k) := by decide +kernel
def zT8 : u_T := fun k => match k with
  | 0 => ("GridRouter$WayFinder", "way", "[I", true)
  | 1 => ("GridRouter$WayFinder", "length", "I", false)
  | 2 => ("GridRouter$WayFinder", "grid", "LGridRouter$Grid;", true)
  | 3 => ("GridRouter$WayFinder", "nets", "LGridRouter$Nets;", true)
  | 4 => ("GridRouter$WayFinder", "rules", "LGridRouter$Rules;", true)
  | 5 => ("GridRouter$WayFinder", "viaCost", "I", true)
  | 6 => ("GridRouter$WayFinder", "toll", "[I", true)
  | 7 => ("GridRouter$WayFinder", "least", "[I", true)
  | 8 => ("GridRouter$WayFinder", "queue", "[I", true)
  | 9 => ("GridRouter$WayFinder", "waits", "[Z", true)
  | 10 => ("GridRouter$WayFinder", "head", "I", false)
  | _ => ("GridRouter$WayFinder", "waiting", "I", false)
def zt8 : Nat → FieldType := fun k => match k with
  | 0 => .array .int
  | 1 => .int
  | 2 => .object "GridRouter$Grid"
  | 3 => .object "GridRouter$Nets"
  | 4 => .object "GridRouter$Rules"
  | 5 => .int
  | 6 => .array .int
  | 7 => .array .int
  | 8 => .array .int
  | 9 => .array .boolean
  | 10 => .int
  | _ => .int
theorem zn8 : ∀ a, a < 12 → ∀ b, b < 12 → a ≠ b → (zT8 a).2.1 ≠ (zT8 b).2.1 := by decide +kernel
theorem zk8 : ∀ k, k < 12 → parseFieldDescriptor (zT8 k).2.2.1 = some (zt8 k) := by decide +kernel
def zT9 : u_T := fun k => match k with
  | 0 => ("GridRouter$Shapes", "grid", "LGridRouter$Grid;", true)
  | _ => ("GridRouter$Shapes", "layout", "LGridRouter$Layout;", true)
def zt9 : Nat → FieldType := fun k => match k with
  | 0 => .object "GridRouter$Grid"
  | _ => .object "GridRouter$Layout"
theorem zn9 : ∀ a, a < 2 → ∀ b, b < 2 → a ≠ b → (zT9 a).2.1 ≠ (zT9 b).2.1 := by decide +kernel
theorem zk9 : ∀ k, k < 2 → parseFieldDescriptor (zT9 k).2.2.1 = some (zt9 k) := by decide +kernel
def zT10 : u_T := fun k => match k with
  | 0 => ("GridRouterModel", "width", "I", true)
  | 1 => ("GridRouterModel", "height", "I", true)
  | 2 => ("GridRouterModel", "viaCost", "I", true)
  | 3 => ("GridRouterModel", "wide", "Z", true)
  | 4 => ("GridRouterModel", "code", "I", false)
  | 5 => ("GridRouterModel", "blocked", "[Z", true)
  | 6 => ("GridRouterModel", "pin", "[I", true)
  | 7 => ("GridRouterModel", "owner", "[I", true)
  | 8 => ("GridRouterModel", "vias", "[Z", true)
  | 9 => ("GridRouterModel", "cost", "[I", true)
  | 10 => ("GridRouterModel", "mark", "[Z", true)
  | 11 => ("GridRouterModel", "way", "[I", true)
  | 12 => ("GridRouterModel", "climbs", "[Z", true)
  | 13 => ("GridRouterModel", "nets", "I", false)
  | 14 => ("GridRouterModel", "first", "[I", true)
  | 15 => ("GridRouterModel", "second", "[I", true)
  | 16 => ("GridRouterModel", "standing", "I", false)
  | 17 => ("GridRouterModel", "line", "[I", true)
  | _ => ("GridRouterModel", "out", "I", false)
def zt10 : Nat → FieldType := fun k => match k with
  | 0 => .int
  | 1 => .int
  | 2 => .int
  | 3 => .boolean
  | 4 => .int
  | 5 => .array .boolean
  | 6 => .array .int
  | 7 => .array .int
  | 8 => .array .boolean
  | 9 => .array .int
  | 10 => .array .boolean
  | 11 => .array .int
  | 12 => .array .boolean
  | 13 => .int
  | 14 => .array .int
  | 15 => .array .int
  | 16 => .int
  | 17 => .array .int
  | _ => .int
theorem zn10 : ∀ a, a < 19 → ∀ b, b < 19 → a ≠ b → (zT10 a).2.1 ≠ (zT10 b).2.1 := by decide +kernel
theorem zk10 : ∀ k, k < 19 → parseFieldDescriptor (zT10 k).2.2.1 = some (zt10 k) := by decide +kernel
abbrev vwCl : List vw_C := [("GridRouter", zT0, 7), ("GridRouter$Grid", zT1, 7), ("GridRouter$Nets", zT2, 5), ("GridRouter$Layout", zT3, 4), ("GridRouter$Rules", zT4, 5), ("GridRouter$Checker", zT5, 7), ("GridRouter$Router", zT6, 8), ("GridRouter$Line", zT7, 2), ("GridRouter$WayFinder", zT8, 12), ("GridRouter$Shapes", zT9, 2), ("GridRouterModel", zT10, 19)]
def zq_T : List Cond := lw_tbl.filter goodWord
theorem zq_good : ∀ t ∈ zq_T, (t.onTables && t.keeps) = true ∨ ∃ ty, t = .arrayClass ty := fun t h => good_of_word (List.mem_filter.mp h).2
theorem zq_tm {t : Cond} (i : Nat) (h : tables_1[i]? = some t) (hg : goodWord t = true) : t ∈ zq_T := List.mem_filter.mpr ⟨List.mem_append_right _ (List.mem_of_getElem? h), hg⟩
theorem zq_ts {t : Cond} (i : Nat) (h : (k2_sels lw_privs)[i]? = some t) (hg : goodWord t = true) : t ∈ zq_T := List.mem_filter.mpr ⟨List.mem_append_left _ (List.mem_of_getElem? h), hg⟩
abbrev zq_rm (f l : Nat) : Room := { frames := f, cells := 0, slots := 0, locals := l }
abbrev zy_Gr_block : MethodName := ⟨"GridRouter", "block", "(III)Z"⟩
abbrev zc_Gr_block : ByteArray := prog_1_method_2_code
abbrev zy_Gr_net : MethodName := ⟨"GridRouter", "net", "(IIIIII)I"⟩
abbrev zc_Gr_net : ByteArray := prog_1_method_3_code
abbrev zy_Gr_route : MethodName := ⟨"GridRouter", "route", "(I)I"⟩
abbrev zc_Gr_route : ByteArray := prog_1_method_4_code
abbrev zy_Gr_push : MethodName := ⟨"GridRouter", "push", "(I)I"⟩
abbrev zc_Gr_push : ByteArray := prog_1_method_5_code
abbrev zy_Gr_all : MethodName := ⟨"GridRouter", "all", "(ZI)I"⟩
abbrev zc_Gr_all : ByteArray := prog_1_method_6_code
abbrev zy_Gr_rip : MethodName := ⟨"GridRouter", "rip", "(I)V"⟩
abbrev zc_Gr_rip : ByteArray := prog_1_method_7_code
abbrev zy_Gr_paint : MethodName := ⟨"GridRouter", "paint", "(IIII)V"⟩
abbrev zc_Gr_paint : ByteArray := prog_1_method_8_code
abbrev zy_Gr_stitch : MethodName := ⟨"GridRouter", "stitch", "(II)Z"⟩
abbrev zc_Gr_stitch : ByteArray := prog_1_method_9_code
abbrev zy_Gr_cell : MethodName := ⟨"GridRouter", "cell", "(III)I"⟩
abbrev zc_Gr_cell : ByteArray := prog_1_method_10_code
abbrev zy_Gr_via : MethodName := ⟨"GridRouter", "via", "(II)Z"⟩
abbrev zc_Gr_via : ByteArray := prog_1_method_11_code
abbrev zy_Gr_faults : MethodName := ⟨"GridRouter", "faults", "(I)I"⟩
abbrev zc_Gr_faults : ByteArray := prog_1_method_12_code
abbrev zy_Gr_shapes : MethodName := ⟨"GridRouter", "shapes", "()I"⟩
abbrev zc_Gr_shapes : ByteArray := prog_1_method_13_code
abbrev zy_Gr_shape : MethodName := ⟨"GridRouter", "shape", "(II)I"⟩
abbrev zc_Gr_shape : ByteArray := prog_1_method_14_code
abbrev zy_Mo_thrown : MethodName := ⟨"GridRouterModel", "thrown", "()I"⟩
abbrev zc_Mo_thrown : ByteArray := prog_12_method_2_code
abbrev zy_Mo_fail : MethodName := ⟨"GridRouterModel", "fail", "(I)I"⟩
abbrev zc_Mo_fail : ByteArray := prog_12_method_3_code
abbrev zy_Mo_many : MethodName := ⟨"GridRouterModel", "many", "()I"⟩
abbrev zc_Mo_many : ByteArray := prog_12_method_4_code
abbrev zy_Mo_isPlace : MethodName := ⟨"GridRouterModel", "isPlace", "(II)Z"⟩
abbrev zc_Mo_isPlace : ByteArray := prog_12_method_5_code
abbrev zy_Mo_at : MethodName := ⟨"GridRouterModel", "at", "(III)I"⟩
abbrev zc_Mo_at : ByteArray := prog_12_method_6_code
abbrev zy_Mo_side : MethodName := ⟨"GridRouterModel", "side", "(II)I"⟩
abbrev zc_Mo_side : ByteArray := prog_12_method_7_code
abbrev zy_Mo_placeOf : MethodName := ⟨"GridRouterModel", "placeOf", "(I)I"⟩
abbrev zc_Mo_placeOf : ByteArray := prog_12_method_8_code
abbrev zy_Mo_isOther : MethodName := ⟨"GridRouterModel", "isOther", "(II)Z"⟩
abbrev zc_Mo_isOther : ByteArray := prog_12_method_9_code
abbrev zy_Mo_isBarred : MethodName := ⟨"GridRouterModel", "isBarred", "(II)Z"⟩
abbrev zc_Mo_isBarred : ByteArray := prog_12_method_10_code
abbrev zy_Mo_isTaken : MethodName := ⟨"GridRouterModel", "isTaken", "(II)Z"⟩
abbrev zc_Mo_isTaken : ByteArray := prog_12_method_11_code
abbrev zy_Mo_toll : MethodName := ⟨"GridRouterModel", "toll", "(IIZ)I"⟩
abbrev zc_Mo_toll : ByteArray := prog_12_method_12_code
abbrev zy_Mo_block : MethodName := ⟨"GridRouterModel", "block", "(III)Z"⟩
abbrev zc_Mo_block : ByteArray := prog_12_method_13_code
abbrev zy_Mo_net : MethodName := ⟨"GridRouterModel", "net", "(IIIIII)I"⟩
abbrev zc_Mo_net : ByteArray := prog_12_method_14_code
abbrev zy_Mo_isNet : MethodName := ⟨"GridRouterModel", "isNet", "(I)Z"⟩
abbrev zc_Mo_isNet : ByteArray := prog_12_method_15_code
abbrev zy_Mo_clear : MethodName := ⟨"GridRouterModel", "clear", "(I)V"⟩
abbrev zc_Mo_clear : ByteArray := prog_12_method_16_code
abbrev zy_Mo_weigh : MethodName := ⟨"GridRouterModel", "weigh", "(IZ)V"⟩
abbrev zc_Mo_weigh : ByteArray := prog_12_method_17_code
abbrev zy_Mo_before : MethodName := ⟨"GridRouterModel", "before", "(IIZ)I"⟩
abbrev zc_Mo_before : ByteArray := prog_12_method_18_code
abbrev zy_Mo_lay : MethodName := ⟨"GridRouterModel", "lay", "(IZ)V"⟩
abbrev zc_Mo_lay : ByteArray := prog_12_method_19_code
abbrev zy_Mo_pushOut : MethodName := ⟨"GridRouterModel", "pushOut", "(II)V"⟩
abbrev zc_Mo_pushOut : ByteArray := prog_12_method_20_code
abbrev zy_Mo_leave : MethodName := ⟨"GridRouterModel", "leave", "(II)V"⟩
abbrev zc_Mo_leave : ByteArray := prog_12_method_21_code
abbrev zy_Mo_find : MethodName := ⟨"GridRouterModel", "find", "(IZ)I"⟩
abbrev zc_Mo_find : ByteArray := prog_12_method_22_code
abbrev zy_Mo_route : MethodName := ⟨"GridRouterModel", "route", "(I)I"⟩
abbrev zc_Mo_route : ByteArray := prog_12_method_23_code
abbrev zy_Mo_push : MethodName := ⟨"GridRouterModel", "push", "(I)I"⟩
abbrev zc_Mo_push : ByteArray := prog_12_method_24_code
abbrev zy_Mo_rip : MethodName := ⟨"GridRouterModel", "rip", "(I)V"⟩
abbrev zc_Mo_rip : ByteArray := prog_12_method_25_code
abbrev zy_Mo_apart : MethodName := ⟨"GridRouterModel", "apart", "(II)I"⟩
abbrev zc_Mo_apart : ByteArray := prog_12_method_26_code
abbrev zy_Mo_spread : MethodName := ⟨"GridRouterModel", "spread", "(I)I"⟩
abbrev zc_Mo_spread : ByteArray := prog_12_method_27_code
abbrev zy_Mo_standAll : MethodName := ⟨"GridRouterModel", "standAll", "(Z)V"⟩
abbrev zc_Mo_standAll : ByteArray := prog_12_method_28_code
abbrev zy_Mo_stands : MethodName := ⟨"GridRouterModel", "stands", "(I)Z"⟩
abbrev zc_Mo_stands : ByteArray := prog_12_method_29_code
abbrev zy_Mo_all : MethodName := ⟨"GridRouterModel", "all", "(ZI)I"⟩
abbrev zc_Mo_all : ByteArray := prog_12_method_30_code
abbrev zy_Mo_paint : MethodName := ⟨"GridRouterModel", "paint", "(IIII)V"⟩
abbrev zc_Mo_paint : ByteArray := prog_12_method_31_code
abbrev zy_Mo_stitch : MethodName := ⟨"GridRouterModel", "stitch", "(II)Z"⟩
abbrev zc_Mo_stitch : ByteArray := prog_12_method_32_code
abbrev zy_Mo_cell : MethodName := ⟨"GridRouterModel", "cell", "(III)I"⟩
abbrev zc_Mo_cell : ByteArray := prog_12_method_33_code
abbrev zy_Mo_via : MethodName := ⟨"GridRouterModel", "via", "(II)Z"⟩
abbrev zc_Mo_via : ByteArray := prog_12_method_34_code
abbrev zy_Mo_isJoined : MethodName := ⟨"GridRouterModel", "isJoined", "(I)Z"⟩
abbrev zc_Mo_isJoined : ByteArray := prog_12_method_35_code
abbrev zy_Mo_touches : MethodName := ⟨"GridRouterModel", "touches", "(I)Z"⟩
abbrev zc_Mo_touches : ByteArray := prog_12_method_36_code
abbrev zy_Mo_countOpen : MethodName := ⟨"GridRouterModel", "countOpen", "()I"⟩
abbrev zc_Mo_countOpen : ByteArray := prog_12_method_37_code
abbrev zy_Mo_countNear : MethodName := ⟨"GridRouterModel", "countNear", "()I"⟩
abbrev zc_Mo_countNear : ByteArray := prog_12_method_38_code
abbrev zy_Mo_faults : MethodName := ⟨"GridRouterModel", "faults", "(I)I"⟩
abbrev zc_Mo_faults : ByteArray := prog_12_method_39_code
abbrev zy_Mo_begins : MethodName := ⟨"GridRouterModel", "begins", "(I)Z"⟩
abbrev zc_Mo_begins : ByteArray := prog_12_method_40_code
abbrev zy_Mo_shapes : MethodName := ⟨"GridRouterModel", "shapes", "()I"⟩
abbrev zc_Mo_shapes : ByteArray := prog_12_method_41_code
abbrev zy_Mo_shape : MethodName := ⟨"GridRouterModel", "shape", "(II)I"⟩
abbrev zc_Mo_shape : ByteArray := prog_12_method_42_code
abbrev zy_Checker_count : MethodName := ⟨"GridRouter$Checker", "count", "(I)I"⟩
abbrev zc_Checker_count : ByteArray := prog_2_method_2_code
abbrev zy_Checker_misplaced : MethodName := ⟨"GridRouter$Checker", "misplaced", "()I"⟩
abbrev zc_Checker_misplaced : ByteArray := prog_2_method_3_code
abbrev zy_Checker_crowded : MethodName := ⟨"GridRouter$Checker", "crowded", "()I"⟩
abbrev zc_Checker_crowded : ByteArray := prog_2_method_4_code
abbrev zy_Checker_clash : MethodName := ⟨"GridRouter$Checker", "clash", "(II)I"⟩
abbrev zc_Checker_clash : ByteArray := prog_2_method_5_code
abbrev zy_Checker_badVias : MethodName := ⟨"GridRouter$Checker", "badVias", "()I"⟩
abbrev zc_Checker_badVias : ByteArray := prog_2_method_6_code
abbrev zy_Checker_loose : MethodName := ⟨"GridRouter$Checker", "loose", "()I"⟩
abbrev zc_Checker_loose : ByteArray := prog_2_method_7_code
abbrev zy_Checker_isJoined : MethodName := ⟨"GridRouter$Checker", "isJoined", "(I)Z"⟩
abbrev zc_Checker_isJoined : ByteArray := prog_2_method_8_code
abbrev zy_Checker_reachFrom : MethodName := ⟨"GridRouter$Checker", "reachFrom", "(II)V"⟩
abbrev zc_Checker_reachFrom : ByteArray := prog_2_method_9_code
abbrev zy_Checker_reach : MethodName := ⟨"GridRouter$Checker", "reach", "(II)V"⟩
abbrev zc_Checker_reach : ByteArray := prog_2_method_10_code
abbrev zy_Grid_link : MethodName := ⟨"GridRouter$Grid", "link", "(III)V"⟩
abbrev zc_Grid_link : ByteArray := prog_3_method_2_code
abbrev zy_Grid_hasPlace : MethodName := ⟨"GridRouter$Grid", "hasPlace", "(II)Z"⟩
abbrev zc_Grid_hasPlace : ByteArray := prog_3_method_3_code
abbrev zy_Grid_hasCell : MethodName := ⟨"GridRouter$Grid", "hasCell", "(III)Z"⟩
abbrev zc_Grid_hasCell : ByteArray := prog_3_method_4_code
abbrev zy_Grid_cellAt : MethodName := ⟨"GridRouter$Grid", "cellAt", "(III)I"⟩
abbrev zc_Grid_cellAt : ByteArray := prog_3_method_5_code
abbrev zy_Grid_layerOf : MethodName := ⟨"GridRouter$Grid", "layerOf", "(I)I"⟩
abbrev zc_Grid_layerOf : ByteArray := prog_3_method_6_code
abbrev zy_Grid_placeOf : MethodName := ⟨"GridRouter$Grid", "placeOf", "(I)I"⟩
abbrev zc_Grid_placeOf : ByteArray := prog_3_method_7_code
abbrev zy_Grid_next : MethodName := ⟨"GridRouter$Grid", "next", "(II)I"⟩
abbrev zc_Grid_next : ByteArray := prog_3_method_8_code
abbrev zy_Layout_strip : MethodName := ⟨"GridRouter$Layout", "strip", "(I)V"⟩
abbrev zc_Layout_strip : ByteArray := prog_4_method_2_code
abbrev zy_Layout_clear : MethodName := ⟨"GridRouter$Layout", "clear", "(I)V"⟩
abbrev zc_Layout_clear : ByteArray := prog_4_method_3_code
abbrev zy_Layout_restorePins : MethodName := ⟨"GridRouter$Layout", "restorePins", "(I)V"⟩
abbrev zc_Layout_restorePins : ByteArray := prog_4_method_4_code
abbrev zy_Line_isEmpty : MethodName := ⟨"GridRouter$Line", "isEmpty", "()Z"⟩
abbrev zc_Line_isEmpty : ByteArray := prog_5_method_2_code
abbrev zy_Line_join : MethodName := ⟨"GridRouter$Line", "join", "(I)V"⟩
abbrev zc_Line_join : ByteArray := prog_5_method_3_code
abbrev zy_Line_leave : MethodName := ⟨"GridRouter$Line", "leave", "()I"⟩
abbrev zc_Line_leave : ByteArray := prog_5_method_4_code
abbrev zy_Line_sortBySpan : MethodName := ⟨"GridRouter$Line", "sortBySpan", "(LGridRouter$Nets;)V"⟩
abbrev zc_Line_sortBySpan : ByteArray := prog_5_method_5_code
abbrev zy_Nets_has : MethodName := ⟨"GridRouter$Nets", "has", "(I)Z"⟩
abbrev zc_Nets_has : ByteArray := prog_6_method_2_code
abbrev zy_Nets_add : MethodName := ⟨"GridRouter$Nets", "add", "(II)I"⟩
abbrev zc_Nets_add : ByteArray := prog_6_method_3_code
abbrev zy_Nets_span : MethodName := ⟨"GridRouter$Nets", "span", "(I)I"⟩
abbrev zc_Nets_span : ByteArray := prog_6_method_4_code
abbrev zy_Router_lay : MethodName := ⟨"GridRouter$Router", "lay", "(I)I"⟩
abbrev zc_Router_lay : ByteArray := prog_7_method_2_code
abbrev zy_Router_shove : MethodName := ⟨"GridRouter$Router", "shove", "(I)I"⟩
abbrev zc_Router_shove : ByteArray := prog_7_method_3_code
abbrev zy_Router_layWay : MethodName := ⟨"GridRouter$Router", "layWay", "(I)V"⟩
abbrev zc_Router_layWay : ByteArray := prog_7_method_4_code
abbrev zy_Router_markPushedOut : MethodName := ⟨"GridRouter$Router", "markPushedOut", "(I)V"⟩
abbrev zc_Router_markPushedOut : ByteArray := prog_7_method_5_code
abbrev zy_Router_markHolder : MethodName := ⟨"GridRouter$Router", "markHolder", "(II)V"⟩
abbrev zc_Router_markHolder : ByteArray := prog_7_method_6_code
abbrev zy_Router_stripPushedOut : MethodName := ⟨"GridRouter$Router", "stripPushedOut", "()V"⟩
abbrev zc_Router_stripPushedOut : ByteArray := prog_7_method_7_code
abbrev zy_Router_lineUp : MethodName := ⟨"GridRouter$Router", "lineUp", "(Z)V"⟩
abbrev zc_Router_lineUp : ByteArray := prog_7_method_8_code
abbrev zy_Router_serveLine : MethodName := ⟨"GridRouter$Router", "serveLine", "(I)V"⟩
abbrev zc_Router_serveLine : ByteArray := prog_7_method_9_code
abbrev zy_Router_lineUpPushedOut : MethodName := ⟨"GridRouter$Router", "lineUpPushedOut", "()V"⟩
abbrev zc_Router_lineUpPushedOut : ByteArray := prog_7_method_10_code
abbrev zy_Router_retryLoose : MethodName := ⟨"GridRouter$Router", "retryLoose", "()V"⟩
abbrev zc_Router_retryLoose : ByteArray := prog_7_method_11_code
abbrev zy_Rules_isBarred : MethodName := ⟨"GridRouter$Rules", "isBarred", "(II)Z"⟩
abbrev zc_Rules_isBarred : ByteArray := prog_8_method_2_code
abbrev zy_Rules_isTaken : MethodName := ⟨"GridRouter$Rules", "isTaken", "(II)Z"⟩
abbrev zc_Rules_isTaken : ByteArray := prog_8_method_3_code
abbrev zy_Rules_isClose : MethodName := ⟨"GridRouter$Rules", "isClose", "([III)Z"⟩
abbrev zc_Rules_isClose : ByteArray := prog_8_method_4_code
abbrev zy_Shapes_count : MethodName := ⟨"GridRouter$Shapes", "count", "()I"⟩
abbrev zc_Shapes_count : ByteArray := prog_9_method_2_code
abbrev zy_Shapes_startOf : MethodName := ⟨"GridRouter$Shapes", "startOf", "(I)I"⟩
abbrev zc_Shapes_startOf : ByteArray := prog_9_method_3_code
abbrev zy_Shapes_tell : MethodName := ⟨"GridRouter$Shapes", "tell", "(II)I"⟩
abbrev zc_Shapes_tell : ByteArray := prog_9_method_4_code
abbrev zy_Shapes_isStart : MethodName := ⟨"GridRouter$Shapes", "isStart", "(I)Z"⟩
abbrev zc_Shapes_isStart : ByteArray := prog_9_method_5_code
abbrev zy_Shapes_lastX : MethodName := ⟨"GridRouter$Shapes", "lastX", "(I)I"⟩
abbrev zc_Shapes_lastX : ByteArray := prog_9_method_6_code
abbrev zy_WayFinder_find : MethodName := ⟨"GridRouter$WayFinder", "find", "(IZ)I"⟩
abbrev zc_WayFinder_find : ByteArray := prog_10_method_2_code
abbrev zy_WayFinder_freeToll : MethodName := ⟨"GridRouter$WayFinder", "freeToll", "(II)I"⟩
abbrev zc_WayFinder_freeToll : ByteArray := prog_10_method_3_code
abbrev zy_WayFinder_pushToll : MethodName := ⟨"GridRouter$WayFinder", "pushToll", "(II)I"⟩
abbrev zc_WayFinder_pushToll : ByteArray := prog_10_method_4_code
abbrev zy_WayFinder_spread : MethodName := ⟨"GridRouter$WayFinder", "spread", "(I)V"⟩
abbrev zc_WayFinder_spread : ByteArray := prog_10_method_5_code
abbrev zy_WayFinder_spreadFrom : MethodName := ⟨"GridRouter$WayFinder", "spreadFrom", "(I)V"⟩
abbrev zc_WayFinder_spreadFrom : ByteArray := prog_10_method_6_code
abbrev zy_WayFinder_stepCost : MethodName := ⟨"GridRouter$WayFinder", "stepCost", "(I)I"⟩
abbrev zc_WayFinder_stepCost : ByteArray := prog_10_method_7_code
abbrev zy_WayFinder_enqueue : MethodName := ⟨"GridRouter$WayFinder", "enqueue", "(I)V"⟩
abbrev zc_WayFinder_enqueue : ByteArray := prog_10_method_8_code
abbrev zy_WayFinder_dequeue : MethodName := ⟨"GridRouter$WayFinder", "dequeue", "()I"⟩
abbrev zc_WayFinder_dequeue : ByteArray := prog_10_method_9_code
abbrev zy_WayFinder_trace : MethodName := ⟨"GridRouter$WayFinder", "trace", "(II)V"⟩
abbrev zc_WayFinder_trace : ByteArray := prog_10_method_10_code
abbrev zy_WayFinder_predecessor : MethodName := ⟨"GridRouter$WayFinder", "predecessor", "(I)I"⟩
abbrev zc_WayFinder_predecessor : ByteArray := prog_10_method_11_code
end
section
theorem tk_2 : (Jvm.Cond.initialized "GridRouter$Grid") ∈ zq_T := zq_tm 2 (by decide +kernel) (by decide +kernel)
theorem tk_3 : (Jvm.Cond.initialized "GridRouter$Nets") ∈ zq_T := zq_tm 3 (by decide +kernel) (by decide +kernel)
theorem tk_5 : (Jvm.Cond.initialized "GridRouter$Layout") ∈ zq_T := zq_tm 5 (by decide +kernel) (by decide +kernel)
theorem tk_6 : (Jvm.Cond.initialized "GridRouter$Rules") ∈ zq_T := zq_tm 6 (by decide +kernel) (by decide +kernel)
theorem tk_7 : (Jvm.Cond.initialized "GridRouter$Checker") ∈ zq_T := zq_tm 7 (by decide +kernel) (by decide +kernel)
theorem tk_8 : (Jvm.Cond.initialized "GridRouter$Router") ∈ zq_T := zq_tm 8 (by decide +kernel) (by decide +kernel)
theorem tk_9 : (Jvm.Cond.initialized "GridRouter$Line") ∈ zq_T := zq_tm 9 (by decide +kernel) (by decide +kernel)
theorem tk_10 : (Jvm.Cond.initialized "GridRouter$WayFinder") ∈ zq_T := zq_tm 10 (by decide +kernel) (by decide +kernel)
theorem tk_11 : (Jvm.Cond.initialized "GridRouter$Shapes") ∈ zq_T := zq_tm 11 (by decide +kernel) (by decide +kernel)
theorem tk_12 : (Jvm.Cond.initialized "GridRouterModel") ∈ zq_T := zq_tm 12 (by decide +kernel) (by decide +kernel)
theorem tk_19 : (Jvm.Cond.initialized "java/lang/Math") ∈ zq_T := zq_tm 19 (by decide +kernel) (by decide +kernel)
theorem tk_20 : (Jvm.Cond.initialized "java/lang/System") ∈ zq_T := zq_tm 20 (by decide +kernel) (by decide +kernel)
theorem tk_39 : (Jvm.Cond.fieldLink "GridRouter$Grid" (9 : Nat) "GridRouter$Grid" "width" "I") ∈ zq_T := zq_tm 39 (by decide +kernel) (by decide +kernel)
theorem tk_40 : (Jvm.Cond.fieldLink "GridRouter$Shapes" (52 : Nat) "GridRouter$Grid" "width" "I") ∈ zq_T := zq_tm 40 (by decide +kernel) (by decide +kernel)
theorem tk_41 : (Jvm.Cond.fieldLink "GridRouter$Grid" (15 : Nat) "GridRouter$Grid" "height" "I") ∈ zq_T := zq_tm 41 (by decide +kernel) (by decide +kernel)
theorem tk_42 : (Jvm.Cond.fieldLink "GridRouter$Grid" (18 : Nat) "GridRouter$Grid" "area" "I") ∈ zq_T := zq_tm 42 (by decide +kernel) (by decide +kernel)
theorem tk_44 : (Jvm.Cond.fieldLink "GridRouter$Checker" (83 : Nat) "GridRouter$Grid" "area" "I") ∈ zq_T := zq_tm 44 (by decide +kernel) (by decide +kernel)
theorem tk_45 : (Jvm.Cond.fieldLink "GridRouter$Layout" (19 : Nat) "GridRouter$Grid" "cells" "I") ∈ zq_T := zq_tm 45 (by decide +kernel) (by decide +kernel)
theorem tk_49 : (Jvm.Cond.fieldLink "GridRouter$Checker" (31 : Nat) "GridRouter$Grid" "cells" "I") ∈ zq_T := zq_tm 49 (by decide +kernel) (by decide +kernel)
theorem tk_50 : (Jvm.Cond.fieldLink "GridRouter$WayFinder" (36 : Nat) "GridRouter$Grid" "cells" "I") ∈ zq_T := zq_tm 50 (by decide +kernel) (by decide +kernel)
theorem tk_51 : (Jvm.Cond.fieldLink "GridRouter$Shapes" (19 : Nat) "GridRouter$Grid" "cells" "I") ∈ zq_T := zq_tm 51 (by decide +kernel) (by decide +kernel)
theorem tk_53 : (Jvm.Cond.fieldLink "GridRouter$Nets" (49 : Nat) "GridRouter$Grid" "xOf" "[I") ∈ zq_T := zq_tm 53 (by decide +kernel) (by decide +kernel)
theorem tk_54 : (Jvm.Cond.fieldLink "GridRouter$Shapes" (37 : Nat) "GridRouter$Grid" "xOf" "[I") ∈ zq_T := zq_tm 54 (by decide +kernel) (by decide +kernel)
theorem tk_56 : (Jvm.Cond.fieldLink "GridRouter$Shapes" (33 : Nat) "GridRouter$Grid" "yOf" "[I") ∈ zq_T := zq_tm 56 (by decide +kernel) (by decide +kernel)
theorem tk_57 : (Jvm.Cond.fieldLink "GridRouter$Nets" (52 : Nat) "GridRouter$Grid" "yOf" "[I") ∈ zq_T := zq_tm 57 (by decide +kernel) (by decide +kernel)
theorem tk_58 : (Jvm.Cond.fieldLink "GridRouter$Grid" (31 : Nat) "GridRouter$Grid" "beside" "[I") ∈ zq_T := zq_tm 58 (by decide +kernel) (by decide +kernel)
theorem tk_59 : (Jvm.Cond.fieldLink "GridRouter$Rules" (52 : Nat) "GridRouter$Grid" "beside" "[I") ∈ zq_T := zq_tm 59 (by decide +kernel) (by decide +kernel)
theorem tk_60 : (Jvm.Cond.laysFinal "GridRouter$Grid" "GridRouter$Grid" "width" "I") ∈ zq_T := zq_tm 60 (by decide +kernel) (by decide +kernel)
theorem tk_62 : (Jvm.Cond.laysFinal "GridRouter$Grid" "GridRouter$Grid" "height" "I") ∈ zq_T := zq_tm 62 (by decide +kernel) (by decide +kernel)
theorem tk_64 : (Jvm.Cond.laysFinal "GridRouter$Grid" "GridRouter$Grid" "area" "I") ∈ zq_T := zq_tm 64 (by decide +kernel) (by decide +kernel)
theorem tk_66 : (Jvm.Cond.laysFinal "GridRouter$Grid" "GridRouter$Grid" "cells" "I") ∈ zq_T := zq_tm 66 (by decide +kernel) (by decide +kernel)
theorem tk_68 : (Jvm.Cond.laysFinal "GridRouter$Grid" "GridRouter$Grid" "xOf" "[I") ∈ zq_T := zq_tm 68 (by decide +kernel) (by decide +kernel)
theorem tk_70 : (Jvm.Cond.laysFinal "GridRouter$Grid" "GridRouter$Grid" "yOf" "[I") ∈ zq_T := zq_tm 70 (by decide +kernel) (by decide +kernel)
theorem tk_72 : (Jvm.Cond.laysFinal "GridRouter$Grid" "GridRouter$Grid" "beside" "[I") ∈ zq_T := zq_tm 72 (by decide +kernel) (by decide +kernel)
theorem tk_85 : (Jvm.Cond.fieldLink "GridRouter$Nets" (9 : Nat) "GridRouter$Nets" "first" "[I") ∈ zq_T := zq_tm 85 (by decide +kernel) (by decide +kernel)
theorem tk_86 : (Jvm.Cond.fieldLink "GridRouter$WayFinder" (65 : Nat) "GridRouter$Nets" "first" "[I") ∈ zq_T := zq_tm 86 (by decide +kernel) (by decide +kernel)
theorem tk_87 : (Jvm.Cond.fieldLink "GridRouter$Layout" (53 : Nat) "GridRouter$Nets" "first" "[I") ∈ zq_T := zq_tm 87 (by decide +kernel) (by decide +kernel)
theorem tk_88 : (Jvm.Cond.fieldLink "GridRouter$Checker" (96 : Nat) "GridRouter$Nets" "first" "[I") ∈ zq_T := zq_tm 88 (by decide +kernel) (by decide +kernel)
theorem tk_89 : (Jvm.Cond.fieldLink "GridRouter$Nets" (15 : Nat) "GridRouter$Nets" "second" "[I") ∈ zq_T := zq_tm 89 (by decide +kernel) (by decide +kernel)
theorem tk_90 : (Jvm.Cond.fieldLink "GridRouter$WayFinder" (74 : Nat) "GridRouter$Nets" "second" "[I") ∈ zq_T := zq_tm 90 (by decide +kernel) (by decide +kernel)
theorem tk_91 : (Jvm.Cond.fieldLink "GridRouter$Layout" (58 : Nat) "GridRouter$Nets" "second" "[I") ∈ zq_T := zq_tm 91 (by decide +kernel) (by decide +kernel)
theorem tk_92 : (Jvm.Cond.fieldLink "GridRouter$Checker" (106 : Nat) "GridRouter$Nets" "second" "[I") ∈ zq_T := zq_tm 92 (by decide +kernel) (by decide +kernel)
theorem tk_93 : (Jvm.Cond.fieldLink "GridRouter$Nets" (31 : Nat) "GridRouter$Nets" "pinOwner" "[I") ∈ zq_T := zq_tm 93 (by decide +kernel) (by decide +kernel)
theorem tk_94 : (Jvm.Cond.fieldLink "GridRouter$Rules" (37 : Nat) "GridRouter$Nets" "pinOwner" "[I") ∈ zq_T := zq_tm 94 (by decide +kernel) (by decide +kernel)
theorem tk_95 : (Jvm.Cond.fieldLink "GridRouter" (87 : Nat) "GridRouter$Nets" "pinOwner" "[I") ∈ zq_T := zq_tm 95 (by decide +kernel) (by decide +kernel)
theorem tk_96 : (Jvm.Cond.fieldLink "GridRouter$WayFinder" (82 : Nat) "GridRouter$Nets" "pinOwner" "[I") ∈ zq_T := zq_tm 96 (by decide +kernel) (by decide +kernel)
theorem tk_97 : (Jvm.Cond.fieldLink "GridRouter$Checker" (62 : Nat) "GridRouter$Nets" "pinOwner" "[I") ∈ zq_T := zq_tm 97 (by decide +kernel) (by decide +kernel)
theorem tk_98 : (Jvm.Cond.fieldLink "GridRouter$Nets" (18 : Nat) "GridRouter$Nets" "count" "I") ∈ zq_T := zq_tm 98 (by decide +kernel) (by decide +kernel)
theorem tk_99 : (Jvm.Cond.fieldLink "GridRouter" (100 : Nat) "GridRouter$Nets" "count" "I") ∈ zq_T := zq_tm 99 (by decide +kernel) (by decide +kernel)
theorem tk_100 : (Jvm.Cond.fieldLink "GridRouter$Router" (104 : Nat) "GridRouter$Nets" "count" "I") ∈ zq_T := zq_tm 100 (by decide +kernel) (by decide +kernel)
theorem tk_101 : (Jvm.Cond.fieldLink "GridRouter$Checker" (89 : Nat) "GridRouter$Nets" "count" "I") ∈ zq_T := zq_tm 101 (by decide +kernel) (by decide +kernel)
theorem tk_102 : (Jvm.Cond.fieldLink "GridRouter$Nets" (22 : Nat) "GridRouter$Nets" "grid" "LGridRouter$Grid;") ∈ zq_T := zq_tm 102 (by decide +kernel) (by decide +kernel)
theorem tk_103 : (Jvm.Cond.laysFinal "GridRouter$Nets" "GridRouter$Nets" "first" "[I") ∈ zq_T := zq_tm 103 (by decide +kernel) (by decide +kernel)
theorem tk_105 : (Jvm.Cond.laysFinal "GridRouter$Nets" "GridRouter$Nets" "second" "[I") ∈ zq_T := zq_tm 105 (by decide +kernel) (by decide +kernel)
theorem tk_107 : (Jvm.Cond.laysFinal "GridRouter$Nets" "GridRouter$Nets" "pinOwner" "[I") ∈ zq_T := zq_tm 107 (by decide +kernel) (by decide +kernel)
theorem tk_109 : (Jvm.Cond.lays "GridRouter$Nets" "GridRouter$Nets" "count" "I") ∈ zq_T := zq_tm 109 (by decide +kernel) (by decide +kernel)
theorem tk_111 : (Jvm.Cond.laysFinal "GridRouter$Nets" "GridRouter$Nets" "grid" "LGridRouter$Grid;") ∈ zq_T := zq_tm 111 (by decide +kernel) (by decide +kernel)
theorem tk_121 : (Jvm.Cond.fieldLink "GridRouter$Layout" (25 : Nat) "GridRouter$Layout" "owner" "[I") ∈ zq_T := zq_tm 121 (by decide +kernel) (by decide +kernel)
theorem tk_122 : (Jvm.Cond.fieldLink "GridRouter$Rules" (47 : Nat) "GridRouter$Layout" "owner" "[I") ∈ zq_T := zq_tm 122 (by decide +kernel) (by decide +kernel)
theorem tk_123 : (Jvm.Cond.fieldLink "GridRouter$Checker" (57 : Nat) "GridRouter$Layout" "owner" "[I") ∈ zq_T := zq_tm 123 (by decide +kernel) (by decide +kernel)
theorem tk_124 : (Jvm.Cond.fieldLink "GridRouter" (119 : Nat) "GridRouter$Layout" "owner" "[I") ∈ zq_T := zq_tm 124 (by decide +kernel) (by decide +kernel)
theorem tk_125 : (Jvm.Cond.fieldLink "GridRouter$Router" (78 : Nat) "GridRouter$Layout" "owner" "[I") ∈ zq_T := zq_tm 125 (by decide +kernel) (by decide +kernel)
theorem tk_126 : (Jvm.Cond.fieldLink "GridRouter$Shapes" (43 : Nat) "GridRouter$Layout" "owner" "[I") ∈ zq_T := zq_tm 126 (by decide +kernel) (by decide +kernel)
theorem tk_127 : (Jvm.Cond.fieldLink "GridRouter$Layout" (32 : Nat) "GridRouter$Layout" "vias" "[Z") ∈ zq_T := zq_tm 127 (by decide +kernel) (by decide +kernel)
theorem tk_128 : (Jvm.Cond.fieldLink "GridRouter$Router" (87 : Nat) "GridRouter$Layout" "vias" "[Z") ∈ zq_T := zq_tm 128 (by decide +kernel) (by decide +kernel)
theorem tk_129 : (Jvm.Cond.fieldLink "GridRouter$Checker" (86 : Nat) "GridRouter$Layout" "vias" "[Z") ∈ zq_T := zq_tm 129 (by decide +kernel) (by decide +kernel)
theorem tk_130 : (Jvm.Cond.fieldLink "GridRouter" (162 : Nat) "GridRouter$Layout" "vias" "[Z") ∈ zq_T := zq_tm 130 (by decide +kernel) (by decide +kernel)
theorem tk_131 : (Jvm.Cond.fieldLink "GridRouter$Layout" (9 : Nat) "GridRouter$Layout" "grid" "LGridRouter$Grid;") ∈ zq_T := zq_tm 131 (by decide +kernel) (by decide +kernel)
theorem tk_132 : (Jvm.Cond.fieldLink "GridRouter$Layout" (15 : Nat) "GridRouter$Layout" "nets" "LGridRouter$Nets;") ∈ zq_T := zq_tm 132 (by decide +kernel) (by decide +kernel)
theorem tk_133 : (Jvm.Cond.laysFinal "GridRouter$Layout" "GridRouter$Layout" "owner" "[I") ∈ zq_T := zq_tm 133 (by decide +kernel) (by decide +kernel)
theorem tk_135 : (Jvm.Cond.laysFinal "GridRouter$Layout" "GridRouter$Layout" "vias" "[Z") ∈ zq_T := zq_tm 135 (by decide +kernel) (by decide +kernel)
theorem tk_137 : (Jvm.Cond.laysFinal "GridRouter$Layout" "GridRouter$Layout" "grid" "LGridRouter$Grid;") ∈ zq_T := zq_tm 137 (by decide +kernel) (by decide +kernel)
theorem tk_139 : (Jvm.Cond.laysFinal "GridRouter$Layout" "GridRouter$Layout" "nets" "LGridRouter$Nets;") ∈ zq_T := zq_tm 139 (by decide +kernel) (by decide +kernel)
theorem tk_149 : (Jvm.Cond.fieldLink "GridRouter$Rules" (33 : Nat) "GridRouter$Rules" "blocked" "[Z") ∈ zq_T := zq_tm 149 (by decide +kernel) (by decide +kernel)
theorem tk_150 : (Jvm.Cond.fieldLink "GridRouter" (96 : Nat) "GridRouter$Rules" "blocked" "[Z") ∈ zq_T := zq_tm 150 (by decide +kernel) (by decide +kernel)
theorem tk_151 : (Jvm.Cond.fieldLink "GridRouter$Checker" (67 : Nat) "GridRouter$Rules" "blocked" "[Z") ∈ zq_T := zq_tm 151 (by decide +kernel) (by decide +kernel)
theorem tk_152 : (Jvm.Cond.fieldLink "GridRouter$Rules" (23 : Nat) "GridRouter$Rules" "spaced" "Z") ∈ zq_T := zq_tm 152 (by decide +kernel) (by decide +kernel)
theorem tk_153 : (Jvm.Cond.fieldLink "GridRouter$Checker" (72 : Nat) "GridRouter$Rules" "spaced" "Z") ∈ zq_T := zq_tm 153 (by decide +kernel) (by decide +kernel)
theorem tk_154 : (Jvm.Cond.fieldLink "GridRouter$Router" (98 : Nat) "GridRouter$Rules" "spaced" "Z") ∈ zq_T := zq_tm 154 (by decide +kernel) (by decide +kernel)
theorem tk_155 : (Jvm.Cond.fieldLink "GridRouter$Rules" (9 : Nat) "GridRouter$Rules" "grid" "LGridRouter$Grid;") ∈ zq_T := zq_tm 155 (by decide +kernel) (by decide +kernel)
theorem tk_156 : (Jvm.Cond.fieldLink "GridRouter$Rules" (15 : Nat) "GridRouter$Rules" "nets" "LGridRouter$Nets;") ∈ zq_T := zq_tm 156 (by decide +kernel) (by decide +kernel)
theorem tk_157 : (Jvm.Cond.fieldLink "GridRouter$Rules" (19 : Nat) "GridRouter$Rules" "layout" "LGridRouter$Layout;") ∈ zq_T := zq_tm 157 (by decide +kernel) (by decide +kernel)
theorem tk_158 : (Jvm.Cond.laysFinal "GridRouter$Rules" "GridRouter$Rules" "blocked" "[Z") ∈ zq_T := zq_tm 158 (by decide +kernel) (by decide +kernel)
theorem tk_160 : (Jvm.Cond.laysFinal "GridRouter$Rules" "GridRouter$Rules" "spaced" "Z") ∈ zq_T := zq_tm 160 (by decide +kernel) (by decide +kernel)
theorem tk_162 : (Jvm.Cond.laysFinal "GridRouter$Rules" "GridRouter$Rules" "grid" "LGridRouter$Grid;") ∈ zq_T := zq_tm 162 (by decide +kernel) (by decide +kernel)
theorem tk_164 : (Jvm.Cond.laysFinal "GridRouter$Rules" "GridRouter$Rules" "nets" "LGridRouter$Nets;") ∈ zq_T := zq_tm 164 (by decide +kernel) (by decide +kernel)
theorem tk_166 : (Jvm.Cond.laysFinal "GridRouter$Rules" "GridRouter$Rules" "layout" "LGridRouter$Layout;") ∈ zq_T := zq_tm 166 (by decide +kernel) (by decide +kernel)
theorem tk_175 : (Jvm.Cond.fieldLink "GridRouter$Checker" (15 : Nat) "GridRouter$Checker" "grid" "LGridRouter$Grid;") ∈ zq_T := zq_tm 175 (by decide +kernel) (by decide +kernel)
theorem tk_176 : (Jvm.Cond.fieldLink "GridRouter$Checker" (19 : Nat) "GridRouter$Checker" "nets" "LGridRouter$Nets;") ∈ zq_T := zq_tm 176 (by decide +kernel) (by decide +kernel)
theorem tk_177 : (Jvm.Cond.fieldLink "GridRouter$Checker" (23 : Nat) "GridRouter$Checker" "layout" "LGridRouter$Layout;") ∈ zq_T := zq_tm 177 (by decide +kernel) (by decide +kernel)
theorem tk_178 : (Jvm.Cond.fieldLink "GridRouter$Checker" (27 : Nat) "GridRouter$Checker" "rules" "LGridRouter$Rules;") ∈ zq_T := zq_tm 178 (by decide +kernel) (by decide +kernel)
theorem tk_179 : (Jvm.Cond.fieldLink "GridRouter$Checker" (36 : Nat) "GridRouter$Checker" "reached" "[I") ∈ zq_T := zq_tm 179 (by decide +kernel) (by decide +kernel)
theorem tk_180 : (Jvm.Cond.fieldLink "GridRouter$Checker" (40 : Nat) "GridRouter$Checker" "seen" "[Z") ∈ zq_T := zq_tm 180 (by decide +kernel) (by decide +kernel)
theorem tk_181 : (Jvm.Cond.fieldLink "GridRouter$Checker" (9 : Nat) "GridRouter$Checker" "found" "I") ∈ zq_T := zq_tm 181 (by decide +kernel) (by decide +kernel)
theorem tk_182 : (Jvm.Cond.laysFinal "GridRouter$Checker" "GridRouter$Checker" "grid" "LGridRouter$Grid;") ∈ zq_T := zq_tm 182 (by decide +kernel) (by decide +kernel)
theorem tk_184 : (Jvm.Cond.laysFinal "GridRouter$Checker" "GridRouter$Checker" "nets" "LGridRouter$Nets;") ∈ zq_T := zq_tm 184 (by decide +kernel) (by decide +kernel)
theorem tk_186 : (Jvm.Cond.laysFinal "GridRouter$Checker" "GridRouter$Checker" "layout" "LGridRouter$Layout;") ∈ zq_T := zq_tm 186 (by decide +kernel) (by decide +kernel)
theorem tk_188 : (Jvm.Cond.laysFinal "GridRouter$Checker" "GridRouter$Checker" "rules" "LGridRouter$Rules;") ∈ zq_T := zq_tm 188 (by decide +kernel) (by decide +kernel)
theorem tk_190 : (Jvm.Cond.laysFinal "GridRouter$Checker" "GridRouter$Checker" "reached" "[I") ∈ zq_T := zq_tm 190 (by decide +kernel) (by decide +kernel)
theorem tk_192 : (Jvm.Cond.laysFinal "GridRouter$Checker" "GridRouter$Checker" "seen" "[Z") ∈ zq_T := zq_tm 192 (by decide +kernel) (by decide +kernel)
theorem tk_194 : (Jvm.Cond.lays "GridRouter$Checker" "GridRouter$Checker" "found" "I") ∈ zq_T := zq_tm 194 (by decide +kernel) (by decide +kernel)
theorem tk_209 : (Jvm.Cond.fieldLink "GridRouter$Line" (9 : Nat) "GridRouter$Line" "members" "[I") ∈ zq_T := zq_tm 209 (by decide +kernel) (by decide +kernel)
theorem tk_210 : (Jvm.Cond.fieldLink "GridRouter$Line" (15 : Nat) "GridRouter$Line" "size" "I") ∈ zq_T := zq_tm 210 (by decide +kernel) (by decide +kernel)
theorem tk_211 : (Jvm.Cond.laysFinal "GridRouter$Line" "GridRouter$Line" "members" "[I") ∈ zq_T := zq_tm 211 (by decide +kernel) (by decide +kernel)
theorem tk_213 : (Jvm.Cond.lays "GridRouter$Line" "GridRouter$Line" "size" "I") ∈ zq_T := zq_tm 213 (by decide +kernel) (by decide +kernel)
theorem tk_222 : (Jvm.Cond.fieldLink "GridRouter$WayFinder" (41 : Nat) "GridRouter$WayFinder" "way" "[I") ∈ zq_T := zq_tm 222 (by decide +kernel) (by decide +kernel)
theorem tk_223 : (Jvm.Cond.fieldLink "GridRouter$Router" (74 : Nat) "GridRouter$WayFinder" "way" "[I") ∈ zq_T := zq_tm 223 (by decide +kernel) (by decide +kernel)
theorem tk_224 : (Jvm.Cond.fieldLink "GridRouter$WayFinder" (9 : Nat) "GridRouter$WayFinder" "length" "I") ∈ zq_T := zq_tm 224 (by decide +kernel) (by decide +kernel)
theorem tk_225 : (Jvm.Cond.fieldLink "GridRouter$Router" (70 : Nat) "GridRouter$WayFinder" "length" "I") ∈ zq_T := zq_tm 225 (by decide +kernel) (by decide +kernel)
theorem tk_226 : (Jvm.Cond.fieldLink "GridRouter$WayFinder" (21 : Nat) "GridRouter$WayFinder" "grid" "LGridRouter$Grid;") ∈ zq_T := zq_tm 226 (by decide +kernel) (by decide +kernel)
theorem tk_227 : (Jvm.Cond.fieldLink "GridRouter$WayFinder" (25 : Nat) "GridRouter$WayFinder" "nets" "LGridRouter$Nets;") ∈ zq_T := zq_tm 227 (by decide +kernel) (by decide +kernel)
theorem tk_228 : (Jvm.Cond.fieldLink "GridRouter$WayFinder" (29 : Nat) "GridRouter$WayFinder" "rules" "LGridRouter$Rules;") ∈ zq_T := zq_tm 228 (by decide +kernel) (by decide +kernel)
theorem tk_229 : (Jvm.Cond.fieldLink "GridRouter$WayFinder" (33 : Nat) "GridRouter$WayFinder" "viaCost" "I") ∈ zq_T := zq_tm 229 (by decide +kernel) (by decide +kernel)
theorem tk_230 : (Jvm.Cond.fieldLink "GridRouter$WayFinder" (45 : Nat) "GridRouter$WayFinder" "toll" "[I") ∈ zq_T := zq_tm 230 (by decide +kernel) (by decide +kernel)
theorem tk_231 : (Jvm.Cond.fieldLink "GridRouter$WayFinder" (48 : Nat) "GridRouter$WayFinder" "least" "[I") ∈ zq_T := zq_tm 231 (by decide +kernel) (by decide +kernel)
theorem tk_232 : (Jvm.Cond.fieldLink "GridRouter$WayFinder" (51 : Nat) "GridRouter$WayFinder" "queue" "[I") ∈ zq_T := zq_tm 232 (by decide +kernel) (by decide +kernel)
theorem tk_233 : (Jvm.Cond.fieldLink "GridRouter$WayFinder" (54 : Nat) "GridRouter$WayFinder" "waits" "[Z") ∈ zq_T := zq_tm 233 (by decide +kernel) (by decide +kernel)
theorem tk_234 : (Jvm.Cond.fieldLink "GridRouter$WayFinder" (15 : Nat) "GridRouter$WayFinder" "head" "I") ∈ zq_T := zq_tm 234 (by decide +kernel) (by decide +kernel)
theorem tk_235 : (Jvm.Cond.fieldLink "GridRouter$WayFinder" (18 : Nat) "GridRouter$WayFinder" "waiting" "I") ∈ zq_T := zq_tm 235 (by decide +kernel) (by decide +kernel)
theorem tk_236 : (Jvm.Cond.laysFinal "GridRouter$WayFinder" "GridRouter$WayFinder" "way" "[I") ∈ zq_T := zq_tm 236 (by decide +kernel) (by decide +kernel)
theorem tk_238 : (Jvm.Cond.lays "GridRouter$WayFinder" "GridRouter$WayFinder" "length" "I") ∈ zq_T := zq_tm 238 (by decide +kernel) (by decide +kernel)
theorem tk_240 : (Jvm.Cond.laysFinal "GridRouter$WayFinder" "GridRouter$WayFinder" "grid" "LGridRouter$Grid;") ∈ zq_T := zq_tm 240 (by decide +kernel) (by decide +kernel)
theorem tk_242 : (Jvm.Cond.laysFinal "GridRouter$WayFinder" "GridRouter$WayFinder" "nets" "LGridRouter$Nets;") ∈ zq_T := zq_tm 242 (by decide +kernel) (by decide +kernel)
theorem tk_244 : (Jvm.Cond.laysFinal "GridRouter$WayFinder" "GridRouter$WayFinder" "rules" "LGridRouter$Rules;") ∈ zq_T := zq_tm 244 (by decide +kernel) (by decide +kernel)
theorem tk_246 : (Jvm.Cond.laysFinal "GridRouter$WayFinder" "GridRouter$WayFinder" "viaCost" "I") ∈ zq_T := zq_tm 246 (by decide +kernel) (by decide +kernel)
theorem tk_248 : (Jvm.Cond.laysFinal "GridRouter$WayFinder" "GridRouter$WayFinder" "toll" "[I") ∈ zq_T := zq_tm 248 (by decide +kernel) (by decide +kernel)
theorem tk_250 : (Jvm.Cond.laysFinal "GridRouter$WayFinder" "GridRouter$WayFinder" "least" "[I") ∈ zq_T := zq_tm 250 (by decide +kernel) (by decide +kernel)
theorem tk_252 : (Jvm.Cond.laysFinal "GridRouter$WayFinder" "GridRouter$WayFinder" "queue" "[I") ∈ zq_T := zq_tm 252 (by decide +kernel) (by decide +kernel)
theorem tk_254 : (Jvm.Cond.laysFinal "GridRouter$WayFinder" "GridRouter$WayFinder" "waits" "[Z") ∈ zq_T := zq_tm 254 (by decide +kernel) (by decide +kernel)
theorem tk_256 : (Jvm.Cond.lays "GridRouter$WayFinder" "GridRouter$WayFinder" "head" "I") ∈ zq_T := zq_tm 256 (by decide +kernel) (by decide +kernel)
theorem tk_258 : (Jvm.Cond.lays "GridRouter$WayFinder" "GridRouter$WayFinder" "waiting" "I") ∈ zq_T := zq_tm 258 (by decide +kernel) (by decide +kernel)
theorem tk_261 : (Jvm.Cond.fieldLink "GridRouter$Router" (26 : Nat) "GridRouter$Router" "nets" "LGridRouter$Nets;") ∈ zq_T := zq_tm 261 (by decide +kernel) (by decide +kernel)
theorem tk_262 : (Jvm.Cond.fieldLink "GridRouter$Router" (30 : Nat) "GridRouter$Router" "layout" "LGridRouter$Layout;") ∈ zq_T := zq_tm 262 (by decide +kernel) (by decide +kernel)
theorem tk_263 : (Jvm.Cond.fieldLink "GridRouter$Router" (22 : Nat) "GridRouter$Router" "grid" "LGridRouter$Grid;") ∈ zq_T := zq_tm 263 (by decide +kernel) (by decide +kernel)
theorem tk_264 : (Jvm.Cond.fieldLink "GridRouter$Router" (34 : Nat) "GridRouter$Router" "rules" "LGridRouter$Rules;") ∈ zq_T := zq_tm 264 (by decide +kernel) (by decide +kernel)
theorem tk_265 : (Jvm.Cond.fieldLink "GridRouter$Router" (38 : Nat) "GridRouter$Router" "checker" "LGridRouter$Checker;") ∈ zq_T := zq_tm 265 (by decide +kernel) (by decide +kernel)
theorem tk_266 : (Jvm.Cond.fieldLink "GridRouter$Router" (47 : Nat) "GridRouter$Router" "finder" "LGridRouter$WayFinder;") ∈ zq_T := zq_tm 266 (by decide +kernel) (by decide +kernel)
theorem tk_267 : (Jvm.Cond.fieldLink "GridRouter$Router" (12 : Nat) "GridRouter$Router" "line" "LGridRouter$Line;") ∈ zq_T := zq_tm 267 (by decide +kernel) (by decide +kernel)
theorem tk_268 : (Jvm.Cond.fieldLink "GridRouter$Router" (18 : Nat) "GridRouter$Router" "pushedOut" "[Z") ∈ zq_T := zq_tm 268 (by decide +kernel) (by decide +kernel)
theorem tk_269 : (Jvm.Cond.laysFinal "GridRouter$Router" "GridRouter$Router" "nets" "LGridRouter$Nets;") ∈ zq_T := zq_tm 269 (by decide +kernel) (by decide +kernel)
theorem tk_271 : (Jvm.Cond.laysFinal "GridRouter$Router" "GridRouter$Router" "layout" "LGridRouter$Layout;") ∈ zq_T := zq_tm 271 (by decide +kernel) (by decide +kernel)
theorem tk_273 : (Jvm.Cond.laysFinal "GridRouter$Router" "GridRouter$Router" "grid" "LGridRouter$Grid;") ∈ zq_T := zq_tm 273 (by decide +kernel) (by decide +kernel)
theorem tk_275 : (Jvm.Cond.laysFinal "GridRouter$Router" "GridRouter$Router" "rules" "LGridRouter$Rules;") ∈ zq_T := zq_tm 275 (by decide +kernel) (by decide +kernel)
theorem tk_277 : (Jvm.Cond.laysFinal "GridRouter$Router" "GridRouter$Router" "checker" "LGridRouter$Checker;") ∈ zq_T := zq_tm 277 (by decide +kernel) (by decide +kernel)
theorem tk_279 : (Jvm.Cond.laysFinal "GridRouter$Router" "GridRouter$Router" "finder" "LGridRouter$WayFinder;") ∈ zq_T := zq_tm 279 (by decide +kernel) (by decide +kernel)
theorem tk_281 : (Jvm.Cond.laysFinal "GridRouter$Router" "GridRouter$Router" "line" "LGridRouter$Line;") ∈ zq_T := zq_tm 281 (by decide +kernel) (by decide +kernel)
theorem tk_283 : (Jvm.Cond.laysFinal "GridRouter$Router" "GridRouter$Router" "pushedOut" "[Z") ∈ zq_T := zq_tm 283 (by decide +kernel) (by decide +kernel)
theorem tk_292 : (Jvm.Cond.fieldLink "GridRouter$Shapes" (9 : Nat) "GridRouter$Shapes" "grid" "LGridRouter$Grid;") ∈ zq_T := zq_tm 292 (by decide +kernel) (by decide +kernel)
theorem tk_293 : (Jvm.Cond.fieldLink "GridRouter$Shapes" (15 : Nat) "GridRouter$Shapes" "layout" "LGridRouter$Layout;") ∈ zq_T := zq_tm 293 (by decide +kernel) (by decide +kernel)
theorem tk_294 : (Jvm.Cond.laysFinal "GridRouter$Shapes" "GridRouter$Shapes" "grid" "LGridRouter$Grid;") ∈ zq_T := zq_tm 294 (by decide +kernel) (by decide +kernel)
theorem tk_296 : (Jvm.Cond.laysFinal "GridRouter$Shapes" "GridRouter$Shapes" "layout" "LGridRouter$Layout;") ∈ zq_T := zq_tm 296 (by decide +kernel) (by decide +kernel)
theorem tk_299 : (Jvm.Cond.fieldLink "GridRouter" (12 : Nat) "GridRouter" "grid" "LGridRouter$Grid;") ∈ zq_T := zq_tm 299 (by decide +kernel) (by decide +kernel)
theorem tk_300 : (Jvm.Cond.fieldLink "GridRouter" (23 : Nat) "GridRouter" "nets" "LGridRouter$Nets;") ∈ zq_T := zq_tm 300 (by decide +kernel) (by decide +kernel)
theorem tk_301 : (Jvm.Cond.fieldLink "GridRouter" (32 : Nat) "GridRouter" "layout" "LGridRouter$Layout;") ∈ zq_T := zq_tm 301 (by decide +kernel) (by decide +kernel)
theorem tk_302 : (Jvm.Cond.fieldLink "GridRouter" (41 : Nat) "GridRouter" "rules" "LGridRouter$Rules;") ∈ zq_T := zq_tm 302 (by decide +kernel) (by decide +kernel)
theorem tk_303 : (Jvm.Cond.fieldLink "GridRouter" (59 : Nat) "GridRouter" "router" "LGridRouter$Router;") ∈ zq_T := zq_tm 303 (by decide +kernel) (by decide +kernel)
theorem tk_304 : (Jvm.Cond.fieldLink "GridRouter" (50 : Nat) "GridRouter" "checker" "LGridRouter$Checker;") ∈ zq_T := zq_tm 304 (by decide +kernel) (by decide +kernel)
theorem tk_305 : (Jvm.Cond.fieldLink "GridRouter" (68 : Nat) "GridRouter" "rows" "LGridRouter$Shapes;") ∈ zq_T := zq_tm 305 (by decide +kernel) (by decide +kernel)
theorem tk_306 : (Jvm.Cond.laysFinal "GridRouter" "GridRouter" "grid" "LGridRouter$Grid;") ∈ zq_T := zq_tm 306 (by decide +kernel) (by decide +kernel)
theorem tk_308 : (Jvm.Cond.laysFinal "GridRouter" "GridRouter" "nets" "LGridRouter$Nets;") ∈ zq_T := zq_tm 308 (by decide +kernel) (by decide +kernel)
theorem tk_310 : (Jvm.Cond.laysFinal "GridRouter" "GridRouter" "layout" "LGridRouter$Layout;") ∈ zq_T := zq_tm 310 (by decide +kernel) (by decide +kernel)
theorem tk_312 : (Jvm.Cond.laysFinal "GridRouter" "GridRouter" "rules" "LGridRouter$Rules;") ∈ zq_T := zq_tm 312 (by decide +kernel) (by decide +kernel)
theorem tk_314 : (Jvm.Cond.laysFinal "GridRouter" "GridRouter" "router" "LGridRouter$Router;") ∈ zq_T := zq_tm 314 (by decide +kernel) (by decide +kernel)
theorem tk_316 : (Jvm.Cond.laysFinal "GridRouter" "GridRouter" "checker" "LGridRouter$Checker;") ∈ zq_T := zq_tm 316 (by decide +kernel) (by decide +kernel)
theorem tk_318 : (Jvm.Cond.laysFinal "GridRouter" "GridRouter" "rows" "LGridRouter$Shapes;") ∈ zq_T := zq_tm 318 (by decide +kernel) (by decide +kernel)
theorem tk_325 : (Jvm.Cond.methodLink "GridRouter" (169 : Nat) ({ cls := "GridRouter$Shapes", name := "count", desc := "()I" } : Jvm.MethodName)) ∈ zq_T := zq_tm 325 (by decide +kernel) (by decide +kernel)
theorem tk_326 : (Jvm.Cond.instanceMethod ({ cls := "GridRouter$Shapes", name := "count", desc := "()I" } : Jvm.MethodName)) ∈ zq_T := zq_tm 326 (by decide +kernel) (by decide +kernel)
theorem tk_327 : (Jvm.Cond.selects "GridRouter$Shapes" ({ cls := "GridRouter$Shapes", name := "count", desc := "()I" } : Jvm.MethodName) ({ cls := "GridRouter$Shapes", name := "count", desc := "()I" } : Jvm.MethodName)) ∈ zq_T := zq_tm 327 (by decide +kernel) (by decide +kernel)
theorem tk_328 : (Jvm.Cond.code ({ cls := "GridRouter$Shapes", name := "count", desc := "()I" } : Jvm.MethodName) prog_9_method_2_code (3 : Nat) (Option.some Jvm.ClassFile.FieldType.int)) ∈ zq_T := zq_tm 328 (by decide +kernel) (by decide +kernel)
theorem tk_329 : (Jvm.Cond.methodLink "GridRouter$Shapes" (25 : Nat) ({ cls := "GridRouter$Shapes", name := "isStart", desc := "(I)Z" } : Jvm.MethodName)) ∈ zq_T := zq_tm 329 (by decide +kernel) (by decide +kernel)
theorem tk_331 : (Jvm.Cond.instanceMethod ({ cls := "GridRouter$Shapes", name := "isStart", desc := "(I)Z" } : Jvm.MethodName)) ∈ zq_T := zq_tm 331 (by decide +kernel) (by decide +kernel)
theorem tk_332 : (Jvm.Cond.code ({ cls := "GridRouter$Shapes", name := "isStart", desc := "(I)Z" } : Jvm.MethodName) prog_9_method_5_code (4 : Nat) (Option.some Jvm.ClassFile.FieldType.boolean)) ∈ zq_T := zq_tm 332 (by decide +kernel) (by decide +kernel)
theorem tk_333 : (Jvm.Cond.methodLink "GridRouter$Shapes" (48 : Nat) ({ cls := "GridRouter$Grid", name := "next", desc := "(II)I" } : Jvm.MethodName)) ∈ zq_T := zq_tm 333 (by decide +kernel) (by decide +kernel)
theorem tk_334 : (Jvm.Cond.instanceMethod ({ cls := "GridRouter$Grid", name := "next", desc := "(II)I" } : Jvm.MethodName)) ∈ zq_T := zq_tm 334 (by decide +kernel) (by decide +kernel)
theorem tk_335 : (Jvm.Cond.selects "GridRouter$Grid" ({ cls := "GridRouter$Grid", name := "next", desc := "(II)I" } : Jvm.MethodName) ({ cls := "GridRouter$Grid", name := "next", desc := "(II)I" } : Jvm.MethodName)) ∈ zq_T := zq_tm 335 (by decide +kernel) (by decide +kernel)
theorem tk_336 : (Jvm.Cond.code ({ cls := "GridRouter$Grid", name := "next", desc := "(II)I" } : Jvm.MethodName) prog_3_method_8_code (3 : Nat) (Option.some Jvm.ClassFile.FieldType.int)) ∈ zq_T := zq_tm 336 (by decide +kernel) (by decide +kernel)
theorem tk_349 : (Jvm.Cond.methodLink "GridRouter" (72 : Nat) ({ cls := "GridRouter$Grid", name := "hasCell", desc := "(III)Z" } : Jvm.MethodName)) ∈ zq_T := zq_tm 349 (by decide +kernel) (by decide +kernel)
theorem tk_350 : (Jvm.Cond.instanceMethod ({ cls := "GridRouter$Grid", name := "hasCell", desc := "(III)Z" } : Jvm.MethodName)) ∈ zq_T := zq_tm 350 (by decide +kernel) (by decide +kernel)
theorem tk_351 : (Jvm.Cond.selects "GridRouter$Grid" ({ cls := "GridRouter$Grid", name := "hasCell", desc := "(III)Z" } : Jvm.MethodName) ({ cls := "GridRouter$Grid", name := "hasCell", desc := "(III)Z" } : Jvm.MethodName)) ∈ zq_T := zq_tm 351 (by decide +kernel) (by decide +kernel)
theorem tk_352 : (Jvm.Cond.code ({ cls := "GridRouter$Grid", name := "hasCell", desc := "(III)Z" } : Jvm.MethodName) prog_3_method_4_code (4 : Nat) (Option.some Jvm.ClassFile.FieldType.boolean)) ∈ zq_T := zq_tm 352 (by decide +kernel) (by decide +kernel)
theorem tk_353 : (Jvm.Cond.methodLink "GridRouter$Grid" (38 : Nat) ({ cls := "GridRouter$Grid", name := "hasPlace", desc := "(II)Z" } : Jvm.MethodName)) ∈ zq_T := zq_tm 353 (by decide +kernel) (by decide +kernel)
theorem tk_354 : (Jvm.Cond.instanceMethod ({ cls := "GridRouter$Grid", name := "hasPlace", desc := "(II)Z" } : Jvm.MethodName)) ∈ zq_T := zq_tm 354 (by decide +kernel) (by decide +kernel)
theorem tk_355 : (Jvm.Cond.selects "GridRouter$Grid" ({ cls := "GridRouter$Grid", name := "hasPlace", desc := "(II)Z" } : Jvm.MethodName) ({ cls := "GridRouter$Grid", name := "hasPlace", desc := "(II)Z" } : Jvm.MethodName)) ∈ zq_T := zq_tm 355 (by decide +kernel) (by decide +kernel)
theorem tk_356 : (Jvm.Cond.code ({ cls := "GridRouter$Grid", name := "hasPlace", desc := "(II)Z" } : Jvm.MethodName) prog_3_method_3_code (3 : Nat) (Option.some Jvm.ClassFile.FieldType.boolean)) ∈ zq_T := zq_tm 356 (by decide +kernel) (by decide +kernel)
theorem tk_425 : (Jvm.Cond.methodLink "GridRouter" (83 : Nat) ({ cls := "GridRouter$Grid", name := "cellAt", desc := "(III)I" } : Jvm.MethodName)) ∈ zq_T := zq_tm 425 (by decide +kernel) (by decide +kernel)
theorem tk_426 : (Jvm.Cond.instanceMethod ({ cls := "GridRouter$Grid", name := "cellAt", desc := "(III)I" } : Jvm.MethodName)) ∈ zq_T := zq_tm 426 (by decide +kernel) (by decide +kernel)
theorem tk_427 : (Jvm.Cond.selects "GridRouter$Grid" ({ cls := "GridRouter$Grid", name := "cellAt", desc := "(III)I" } : Jvm.MethodName) ({ cls := "GridRouter$Grid", name := "cellAt", desc := "(III)I" } : Jvm.MethodName)) ∈ zq_T := zq_tm 427 (by decide +kernel) (by decide +kernel)
theorem tk_428 : (Jvm.Cond.code ({ cls := "GridRouter$Grid", name := "cellAt", desc := "(III)I" } : Jvm.MethodName) prog_3_method_5_code (4 : Nat) (Option.some Jvm.ClassFile.FieldType.int)) ∈ zq_T := zq_tm 428 (by decide +kernel) (by decide +kernel)
theorem tk_453 : (Jvm.Cond.methodLink "GridRouter" (104 : Nat) ({ cls := "GridRouter$Rules", name := "isBarred", desc := "(II)Z" } : Jvm.MethodName)) ∈ zq_T := zq_tm 453 (by decide +kernel) (by decide +kernel)
theorem tk_454 : (Jvm.Cond.instanceMethod ({ cls := "GridRouter$Rules", name := "isBarred", desc := "(II)Z" } : Jvm.MethodName)) ∈ zq_T := zq_tm 454 (by decide +kernel) (by decide +kernel)
theorem tk_455 : (Jvm.Cond.selects "GridRouter$Rules" ({ cls := "GridRouter$Rules", name := "isBarred", desc := "(II)Z" } : Jvm.MethodName) ({ cls := "GridRouter$Rules", name := "isBarred", desc := "(II)Z" } : Jvm.MethodName)) ∈ zq_T := zq_tm 455 (by decide +kernel) (by decide +kernel)
theorem tk_456 : (Jvm.Cond.code ({ cls := "GridRouter$Rules", name := "isBarred", desc := "(II)Z" } : Jvm.MethodName) prog_8_method_2_code (3 : Nat) (Option.some Jvm.ClassFile.FieldType.boolean)) ∈ zq_T := zq_tm 456 (by decide +kernel) (by decide +kernel)
theorem tk_457 : (Jvm.Cond.methodLink "GridRouter$Rules" (43 : Nat) ({ cls := "GridRouter$Rules", name := "isClose", desc := "([III)Z" } : Jvm.MethodName)) ∈ zq_T := zq_tm 457 (by decide +kernel) (by decide +kernel)
theorem tk_459 : (Jvm.Cond.instanceMethod ({ cls := "GridRouter$Rules", name := "isClose", desc := "([III)Z" } : Jvm.MethodName)) ∈ zq_T := zq_tm 459 (by decide +kernel) (by decide +kernel)
theorem tk_460 : (Jvm.Cond.code ({ cls := "GridRouter$Rules", name := "isClose", desc := "([III)Z" } : Jvm.MethodName) prog_8_method_4_code (8 : Nat) (Option.some Jvm.ClassFile.FieldType.boolean)) ∈ zq_T := zq_tm 460 (by decide +kernel) (by decide +kernel)
theorem tk_478 : (Jvm.Cond.methodLink "GridRouter" (115 : Nat) ({ cls := "GridRouter$Nets", name := "add", desc := "(II)I" } : Jvm.MethodName)) ∈ zq_T := zq_tm 478 (by decide +kernel) (by decide +kernel)
theorem tk_479 : (Jvm.Cond.instanceMethod ({ cls := "GridRouter$Nets", name := "add", desc := "(II)I" } : Jvm.MethodName)) ∈ zq_T := zq_tm 479 (by decide +kernel) (by decide +kernel)
theorem tk_480 : (Jvm.Cond.selects "GridRouter$Nets" ({ cls := "GridRouter$Nets", name := "add", desc := "(II)I" } : Jvm.MethodName) ({ cls := "GridRouter$Nets", name := "add", desc := "(II)I" } : Jvm.MethodName)) ∈ zq_T := zq_tm 480 (by decide +kernel) (by decide +kernel)
theorem tk_481 : (Jvm.Cond.code ({ cls := "GridRouter$Nets", name := "add", desc := "(II)I" } : Jvm.MethodName) prog_6_method_3_code (4 : Nat) (Option.some Jvm.ClassFile.FieldType.int)) ∈ zq_T := zq_tm 481 (by decide +kernel) (by decide +kernel)
theorem tk_489 : (Jvm.Cond.methodLink "GridRouter" (122 : Nat) ({ cls := "GridRouter$Nets", name := "has", desc := "(I)Z" } : Jvm.MethodName)) ∈ zq_T := zq_tm 489 (by decide +kernel) (by decide +kernel)
theorem tk_490 : (Jvm.Cond.instanceMethod ({ cls := "GridRouter$Nets", name := "has", desc := "(I)Z" } : Jvm.MethodName)) ∈ zq_T := zq_tm 490 (by decide +kernel) (by decide +kernel)
theorem tk_491 : (Jvm.Cond.selects "GridRouter$Nets" ({ cls := "GridRouter$Nets", name := "has", desc := "(I)Z" } : Jvm.MethodName) ({ cls := "GridRouter$Nets", name := "has", desc := "(I)Z" } : Jvm.MethodName)) ∈ zq_T := zq_tm 491 (by decide +kernel) (by decide +kernel)
theorem tk_492 : (Jvm.Cond.code ({ cls := "GridRouter$Nets", name := "has", desc := "(I)Z" } : Jvm.MethodName) prog_6_method_2_code (2 : Nat) (Option.some Jvm.ClassFile.FieldType.boolean)) ∈ zq_T := zq_tm 492 (by decide +kernel) (by decide +kernel)
theorem tk_494 : (Jvm.Cond.methodLink "GridRouter" (128 : Nat) ({ cls := "GridRouter$Router", name := "lay", desc := "(I)I" } : Jvm.MethodName)) ∈ zq_T := zq_tm 494 (by decide +kernel) (by decide +kernel)
theorem tk_495 : (Jvm.Cond.instanceMethod ({ cls := "GridRouter$Router", name := "lay", desc := "(I)I" } : Jvm.MethodName)) ∈ zq_T := zq_tm 495 (by decide +kernel) (by decide +kernel)
theorem tk_496 : (Jvm.Cond.selects "GridRouter$Router" ({ cls := "GridRouter$Router", name := "lay", desc := "(I)I" } : Jvm.MethodName) ({ cls := "GridRouter$Router", name := "lay", desc := "(I)I" } : Jvm.MethodName)) ∈ zq_T := zq_tm 496 (by decide +kernel) (by decide +kernel)
theorem tk_497 : (Jvm.Cond.code ({ cls := "GridRouter$Router", name := "lay", desc := "(I)I" } : Jvm.MethodName) prog_7_method_2_code (3 : Nat) (Option.some Jvm.ClassFile.FieldType.int)) ∈ zq_T := zq_tm 497 (by decide +kernel) (by decide +kernel)
theorem tk_498 : (Jvm.Cond.methodLink "GridRouter$Router" (51 : Nat) ({ cls := "GridRouter$Layout", name := "strip", desc := "(I)V" } : Jvm.MethodName)) ∈ zq_T := zq_tm 498 (by decide +kernel) (by decide +kernel)
theorem tk_499 : (Jvm.Cond.instanceMethod ({ cls := "GridRouter$Layout", name := "strip", desc := "(I)V" } : Jvm.MethodName)) ∈ zq_T := zq_tm 499 (by decide +kernel) (by decide +kernel)
theorem tk_500 : (Jvm.Cond.selects "GridRouter$Layout" ({ cls := "GridRouter$Layout", name := "strip", desc := "(I)V" } : Jvm.MethodName) ({ cls := "GridRouter$Layout", name := "strip", desc := "(I)V" } : Jvm.MethodName)) ∈ zq_T := zq_tm 500 (by decide +kernel) (by decide +kernel)
theorem tk_501 : (Jvm.Cond.code ({ cls := "GridRouter$Layout", name := "strip", desc := "(I)V" } : Jvm.MethodName) prog_4_method_2_code (2 : Nat) (Option.none : Option Jvm.ClassFile.FieldType)) ∈ zq_T := zq_tm 501 (by decide +kernel) (by decide +kernel)
theorem tk_502 : (Jvm.Cond.methodLink "GridRouter$Layout" (42 : Nat) ({ cls := "GridRouter$Layout", name := "clear", desc := "(I)V" } : Jvm.MethodName)) ∈ zq_T := zq_tm 502 (by decide +kernel) (by decide +kernel)
theorem tk_503 : (Jvm.Cond.instanceMethod ({ cls := "GridRouter$Layout", name := "clear", desc := "(I)V" } : Jvm.MethodName)) ∈ zq_T := zq_tm 503 (by decide +kernel) (by decide +kernel)
theorem tk_504 : (Jvm.Cond.selects "GridRouter$Layout" ({ cls := "GridRouter$Layout", name := "clear", desc := "(I)V" } : Jvm.MethodName) ({ cls := "GridRouter$Layout", name := "clear", desc := "(I)V" } : Jvm.MethodName)) ∈ zq_T := zq_tm 504 (by decide +kernel) (by decide +kernel)
theorem tk_505 : (Jvm.Cond.code ({ cls := "GridRouter$Layout", name := "clear", desc := "(I)V" } : Jvm.MethodName) prog_4_method_3_code (3 : Nat) (Option.none : Option Jvm.ClassFile.FieldType)) ∈ zq_T := zq_tm 505 (by decide +kernel) (by decide +kernel)
theorem tk_506 : (Jvm.Cond.methodLink "GridRouter$Layout" (49 : Nat) ({ cls := "GridRouter$Grid", name := "placeOf", desc := "(I)I" } : Jvm.MethodName)) ∈ zq_T := zq_tm 506 (by decide +kernel) (by decide +kernel)
theorem tk_507 : (Jvm.Cond.instanceMethod ({ cls := "GridRouter$Grid", name := "placeOf", desc := "(I)I" } : Jvm.MethodName)) ∈ zq_T := zq_tm 507 (by decide +kernel) (by decide +kernel)
theorem tk_508 : (Jvm.Cond.selects "GridRouter$Grid" ({ cls := "GridRouter$Grid", name := "placeOf", desc := "(I)I" } : Jvm.MethodName) ({ cls := "GridRouter$Grid", name := "placeOf", desc := "(I)I" } : Jvm.MethodName)) ∈ zq_T := zq_tm 508 (by decide +kernel) (by decide +kernel)
theorem tk_509 : (Jvm.Cond.code ({ cls := "GridRouter$Grid", name := "placeOf", desc := "(I)I" } : Jvm.MethodName) prog_3_method_7_code (2 : Nat) (Option.some Jvm.ClassFile.FieldType.int)) ∈ zq_T := zq_tm 509 (by decide +kernel) (by decide +kernel)
theorem tk_510 : (Jvm.Cond.methodLink "GridRouter$Layout" (46 : Nat) ({ cls := "GridRouter$Layout", name := "restorePins", desc := "(I)V" } : Jvm.MethodName)) ∈ zq_T := zq_tm 510 (by decide +kernel) (by decide +kernel)
theorem tk_511 : (Jvm.Cond.instanceMethod ({ cls := "GridRouter$Layout", name := "restorePins", desc := "(I)V" } : Jvm.MethodName)) ∈ zq_T := zq_tm 511 (by decide +kernel) (by decide +kernel)
theorem tk_512 : (Jvm.Cond.selects "GridRouter$Layout" ({ cls := "GridRouter$Layout", name := "restorePins", desc := "(I)V" } : Jvm.MethodName) ({ cls := "GridRouter$Layout", name := "restorePins", desc := "(I)V" } : Jvm.MethodName)) ∈ zq_T := zq_tm 512 (by decide +kernel) (by decide +kernel)
theorem tk_513 : (Jvm.Cond.code ({ cls := "GridRouter$Layout", name := "restorePins", desc := "(I)V" } : Jvm.MethodName) prog_4_method_4_code (2 : Nat) (Option.none : Option Jvm.ClassFile.FieldType)) ∈ zq_T := zq_tm 513 (by decide +kernel) (by decide +kernel)
theorem tk_514 : (Jvm.Cond.methodLink "GridRouter$Router" (57 : Nat) ({ cls := "GridRouter$WayFinder", name := "find", desc := "(IZ)I" } : Jvm.MethodName)) ∈ zq_T := zq_tm 514 (by decide +kernel) (by decide +kernel)
theorem tk_515 : (Jvm.Cond.instanceMethod ({ cls := "GridRouter$WayFinder", name := "find", desc := "(IZ)I" } : Jvm.MethodName)) ∈ zq_T := zq_tm 515 (by decide +kernel) (by decide +kernel)
theorem tk_516 : (Jvm.Cond.selects "GridRouter$WayFinder" ({ cls := "GridRouter$WayFinder", name := "find", desc := "(IZ)I" } : Jvm.MethodName) ({ cls := "GridRouter$WayFinder", name := "find", desc := "(IZ)I" } : Jvm.MethodName)) ∈ zq_T := zq_tm 516 (by decide +kernel) (by decide +kernel)
theorem tk_517 : (Jvm.Cond.code ({ cls := "GridRouter$WayFinder", name := "find", desc := "(IZ)I" } : Jvm.MethodName) prog_10_method_2_code (4 : Nat) (Option.some Jvm.ClassFile.FieldType.int)) ∈ zq_T := zq_tm 517 (by decide +kernel) (by decide +kernel)
theorem tk_518 : (Jvm.Cond.methodLink "GridRouter$WayFinder" (58 : Nat) ({ cls := "GridRouter$WayFinder", name := "pushToll", desc := "(II)I" } : Jvm.MethodName)) ∈ zq_T := zq_tm 518 (by decide +kernel) (by decide +kernel)
theorem tk_520 : (Jvm.Cond.instanceMethod ({ cls := "GridRouter$WayFinder", name := "pushToll", desc := "(II)I" } : Jvm.MethodName)) ∈ zq_T := zq_tm 520 (by decide +kernel) (by decide +kernel)
theorem tk_521 : (Jvm.Cond.code ({ cls := "GridRouter$WayFinder", name := "pushToll", desc := "(II)I" } : Jvm.MethodName) prog_10_method_4_code (3 : Nat) (Option.some Jvm.ClassFile.FieldType.int)) ∈ zq_T := zq_tm 521 (by decide +kernel) (by decide +kernel)
theorem tk_522 : (Jvm.Cond.methodLink "GridRouter$WayFinder" (85 : Nat) ({ cls := "GridRouter$Rules", name := "isBarred", desc := "(II)Z" } : Jvm.MethodName)) ∈ zq_T := zq_tm 522 (by decide +kernel) (by decide +kernel)
theorem tk_523 : (Jvm.Cond.methodLink "GridRouter$WayFinder" (91 : Nat) ({ cls := "GridRouter$Rules", name := "isTaken", desc := "(II)Z" } : Jvm.MethodName)) ∈ zq_T := zq_tm 523 (by decide +kernel) (by decide +kernel)
theorem tk_524 : (Jvm.Cond.instanceMethod ({ cls := "GridRouter$Rules", name := "isTaken", desc := "(II)Z" } : Jvm.MethodName)) ∈ zq_T := zq_tm 524 (by decide +kernel) (by decide +kernel)
theorem tk_525 : (Jvm.Cond.selects "GridRouter$Rules" ({ cls := "GridRouter$Rules", name := "isTaken", desc := "(II)Z" } : Jvm.MethodName) ({ cls := "GridRouter$Rules", name := "isTaken", desc := "(II)Z" } : Jvm.MethodName)) ∈ zq_T := zq_tm 525 (by decide +kernel) (by decide +kernel)
theorem tk_526 : (Jvm.Cond.code ({ cls := "GridRouter$Rules", name := "isTaken", desc := "(II)Z" } : Jvm.MethodName) prog_8_method_3_code (3 : Nat) (Option.some Jvm.ClassFile.FieldType.boolean)) ∈ zq_T := zq_tm 526 (by decide +kernel) (by decide +kernel)
theorem tk_527 : (Jvm.Cond.methodLink "GridRouter$WayFinder" (62 : Nat) ({ cls := "GridRouter$WayFinder", name := "freeToll", desc := "(II)I" } : Jvm.MethodName)) ∈ zq_T := zq_tm 527 (by decide +kernel) (by decide +kernel)
theorem tk_529 : (Jvm.Cond.instanceMethod ({ cls := "GridRouter$WayFinder", name := "freeToll", desc := "(II)I" } : Jvm.MethodName)) ∈ zq_T := zq_tm 529 (by decide +kernel) (by decide +kernel)
theorem tk_530 : (Jvm.Cond.code ({ cls := "GridRouter$WayFinder", name := "freeToll", desc := "(II)I" } : Jvm.MethodName) prog_10_method_3_code (3 : Nat) (Option.some Jvm.ClassFile.FieldType.int)) ∈ zq_T := zq_tm 530 (by decide +kernel) (by decide +kernel)
theorem tk_531 : (Jvm.Cond.methodLink "GridRouter$WayFinder" (70 : Nat) ({ cls := "GridRouter$WayFinder", name := "spread", desc := "(I)V" } : Jvm.MethodName)) ∈ zq_T := zq_tm 531 (by decide +kernel) (by decide +kernel)
theorem tk_533 : (Jvm.Cond.instanceMethod ({ cls := "GridRouter$WayFinder", name := "spread", desc := "(I)V" } : Jvm.MethodName)) ∈ zq_T := zq_tm 533 (by decide +kernel) (by decide +kernel)
theorem tk_534 : (Jvm.Cond.code ({ cls := "GridRouter$WayFinder", name := "spread", desc := "(I)V" } : Jvm.MethodName) prog_10_method_5_code (4 : Nat) (Option.none : Option Jvm.ClassFile.FieldType)) ∈ zq_T := zq_tm 534 (by decide +kernel) (by decide +kernel)
theorem tk_535 : (Jvm.Cond.constant "GridRouter$WayFinder" (77 : Nat) (1000000 : Int32)) ∈ zq_T := zq_tm 535 (by decide +kernel) (by decide +kernel)
theorem tk_536 : (Jvm.Cond.methodLink "GridRouter$WayFinder" (94 : Nat) ({ cls := "GridRouter$WayFinder", name := "enqueue", desc := "(I)V" } : Jvm.MethodName)) ∈ zq_T := zq_tm 536 (by decide +kernel) (by decide +kernel)
theorem tk_538 : (Jvm.Cond.instanceMethod ({ cls := "GridRouter$WayFinder", name := "enqueue", desc := "(I)V" } : Jvm.MethodName)) ∈ zq_T := zq_tm 538 (by decide +kernel) (by decide +kernel)
theorem tk_539 : (Jvm.Cond.code ({ cls := "GridRouter$WayFinder", name := "enqueue", desc := "(I)V" } : Jvm.MethodName) prog_10_method_8_code (3 : Nat) (Option.none : Option Jvm.ClassFile.FieldType)) ∈ zq_T := zq_tm 539 (by decide +kernel) (by decide +kernel)
theorem tk_540 : (Jvm.Cond.methodLink "GridRouter$WayFinder" (97 : Nat) ({ cls := "GridRouter$WayFinder", name := "dequeue", desc := "()I" } : Jvm.MethodName)) ∈ zq_T := zq_tm 540 (by decide +kernel) (by decide +kernel)
theorem tk_542 : (Jvm.Cond.instanceMethod ({ cls := "GridRouter$WayFinder", name := "dequeue", desc := "()I" } : Jvm.MethodName)) ∈ zq_T := zq_tm 542 (by decide +kernel) (by decide +kernel)
theorem tk_543 : (Jvm.Cond.code ({ cls := "GridRouter$WayFinder", name := "dequeue", desc := "()I" } : Jvm.MethodName) prog_10_method_9_code (2 : Nat) (Option.some Jvm.ClassFile.FieldType.int)) ∈ zq_T := zq_tm 543 (by decide +kernel) (by decide +kernel)
theorem tk_544 : (Jvm.Cond.methodLink "GridRouter$WayFinder" (101 : Nat) ({ cls := "GridRouter$WayFinder", name := "spreadFrom", desc := "(I)V" } : Jvm.MethodName)) ∈ zq_T := zq_tm 544 (by decide +kernel) (by decide +kernel)
theorem tk_546 : (Jvm.Cond.instanceMethod ({ cls := "GridRouter$WayFinder", name := "spreadFrom", desc := "(I)V" } : Jvm.MethodName)) ∈ zq_T := zq_tm 546 (by decide +kernel) (by decide +kernel)
theorem tk_547 : (Jvm.Cond.code ({ cls := "GridRouter$WayFinder", name := "spreadFrom", desc := "(I)V" } : Jvm.MethodName) prog_10_method_6_code (5 : Nat) (Option.none : Option Jvm.ClassFile.FieldType)) ∈ zq_T := zq_tm 547 (by decide +kernel) (by decide +kernel)
theorem tk_548 : (Jvm.Cond.methodLink "GridRouter$WayFinder" (104 : Nat) ({ cls := "GridRouter$Grid", name := "next", desc := "(II)I" } : Jvm.MethodName)) ∈ zq_T := zq_tm 548 (by decide +kernel) (by decide +kernel)
theorem tk_549 : (Jvm.Cond.methodLink "GridRouter$WayFinder" (107 : Nat) ({ cls := "GridRouter$WayFinder", name := "stepCost", desc := "(I)I" } : Jvm.MethodName)) ∈ zq_T := zq_tm 549 (by decide +kernel) (by decide +kernel)
theorem tk_551 : (Jvm.Cond.instanceMethod ({ cls := "GridRouter$WayFinder", name := "stepCost", desc := "(I)I" } : Jvm.MethodName)) ∈ zq_T := zq_tm 551 (by decide +kernel) (by decide +kernel)
theorem tk_552 : (Jvm.Cond.code ({ cls := "GridRouter$WayFinder", name := "stepCost", desc := "(I)I" } : Jvm.MethodName) prog_10_method_7_code (2 : Nat) (Option.some Jvm.ClassFile.FieldType.int)) ∈ zq_T := zq_tm 552 (by decide +kernel) (by decide +kernel)
theorem tk_553 : (Jvm.Cond.methodLink "GridRouter$WayFinder" (78 : Nat) ({ cls := "GridRouter$WayFinder", name := "trace", desc := "(II)V" } : Jvm.MethodName)) ∈ zq_T := zq_tm 553 (by decide +kernel) (by decide +kernel)
theorem tk_555 : (Jvm.Cond.instanceMethod ({ cls := "GridRouter$WayFinder", name := "trace", desc := "(II)V" } : Jvm.MethodName)) ∈ zq_T := zq_tm 555 (by decide +kernel) (by decide +kernel)
theorem tk_556 : (Jvm.Cond.code ({ cls := "GridRouter$WayFinder", name := "trace", desc := "(II)V" } : Jvm.MethodName) prog_10_method_10_code (4 : Nat) (Option.none : Option Jvm.ClassFile.FieldType)) ∈ zq_T := zq_tm 556 (by decide +kernel) (by decide +kernel)
theorem tk_557 : (Jvm.Cond.methodLink "GridRouter$WayFinder" (111 : Nat) ({ cls := "GridRouter$WayFinder", name := "predecessor", desc := "(I)I" } : Jvm.MethodName)) ∈ zq_T := zq_tm 557 (by decide +kernel) (by decide +kernel)
theorem tk_559 : (Jvm.Cond.instanceMethod ({ cls := "GridRouter$WayFinder", name := "predecessor", desc := "(I)I" } : Jvm.MethodName)) ∈ zq_T := zq_tm 559 (by decide +kernel) (by decide +kernel)
theorem tk_560 : (Jvm.Cond.code ({ cls := "GridRouter$WayFinder", name := "predecessor", desc := "(I)I" } : Jvm.MethodName) prog_10_method_11_code (4 : Nat) (Option.some Jvm.ClassFile.FieldType.int)) ∈ zq_T := zq_tm 560 (by decide +kernel) (by decide +kernel)
theorem tk_561 : (Jvm.Cond.methodLink "GridRouter$Router" (61 : Nat) ({ cls := "GridRouter$Router", name := "layWay", desc := "(I)V" } : Jvm.MethodName)) ∈ zq_T := zq_tm 561 (by decide +kernel) (by decide +kernel)
theorem tk_563 : (Jvm.Cond.instanceMethod ({ cls := "GridRouter$Router", name := "layWay", desc := "(I)V" } : Jvm.MethodName)) ∈ zq_T := zq_tm 563 (by decide +kernel) (by decide +kernel)
theorem tk_564 : (Jvm.Cond.code ({ cls := "GridRouter$Router", name := "layWay", desc := "(I)V" } : Jvm.MethodName) prog_7_method_4_code (4 : Nat) (Option.none : Option Jvm.ClassFile.FieldType)) ∈ zq_T := zq_tm 564 (by decide +kernel) (by decide +kernel)
theorem tk_565 : (Jvm.Cond.methodLink "GridRouter$Router" (83 : Nat) ({ cls := "GridRouter$Grid", name := "next", desc := "(II)I" } : Jvm.MethodName)) ∈ zq_T := zq_tm 565 (by decide +kernel) (by decide +kernel)
theorem tk_566 : (Jvm.Cond.methodLink "GridRouter$Router" (90 : Nat) ({ cls := "GridRouter$Grid", name := "placeOf", desc := "(I)I" } : Jvm.MethodName)) ∈ zq_T := zq_tm 566 (by decide +kernel) (by decide +kernel)
theorem tk_574 : (Jvm.Cond.methodLink "GridRouter" (132 : Nat) ({ cls := "GridRouter$Router", name := "shove", desc := "(I)I" } : Jvm.MethodName)) ∈ zq_T := zq_tm 574 (by decide +kernel) (by decide +kernel)
theorem tk_575 : (Jvm.Cond.instanceMethod ({ cls := "GridRouter$Router", name := "shove", desc := "(I)I" } : Jvm.MethodName)) ∈ zq_T := zq_tm 575 (by decide +kernel) (by decide +kernel)
theorem tk_576 : (Jvm.Cond.selects "GridRouter$Router" ({ cls := "GridRouter$Router", name := "shove", desc := "(I)I" } : Jvm.MethodName) ({ cls := "GridRouter$Router", name := "shove", desc := "(I)I" } : Jvm.MethodName)) ∈ zq_T := zq_tm 576 (by decide +kernel) (by decide +kernel)
theorem tk_577 : (Jvm.Cond.code ({ cls := "GridRouter$Router", name := "shove", desc := "(I)I" } : Jvm.MethodName) prog_7_method_3_code (3 : Nat) (Option.some Jvm.ClassFile.FieldType.int)) ∈ zq_T := zq_tm 577 (by decide +kernel) (by decide +kernel)
theorem tk_578 : (Jvm.Cond.methodLink "GridRouter$Router" (64 : Nat) ({ cls := "GridRouter$Router", name := "markPushedOut", desc := "(I)V" } : Jvm.MethodName)) ∈ zq_T := zq_tm 578 (by decide +kernel) (by decide +kernel)
theorem tk_580 : (Jvm.Cond.instanceMethod ({ cls := "GridRouter$Router", name := "markPushedOut", desc := "(I)V" } : Jvm.MethodName)) ∈ zq_T := zq_tm 580 (by decide +kernel) (by decide +kernel)
theorem tk_581 : (Jvm.Cond.code ({ cls := "GridRouter$Router", name := "markPushedOut", desc := "(I)V" } : Jvm.MethodName) prog_7_method_5_code (5 : Nat) (Option.none : Option Jvm.ClassFile.FieldType)) ∈ zq_T := zq_tm 581 (by decide +kernel) (by decide +kernel)
theorem tk_582 : (Jvm.Cond.methodLink "GridRouter$Router" (94 : Nat) ({ cls := "GridRouter$Router", name := "markHolder", desc := "(II)V" } : Jvm.MethodName)) ∈ zq_T := zq_tm 582 (by decide +kernel) (by decide +kernel)
theorem tk_584 : (Jvm.Cond.instanceMethod ({ cls := "GridRouter$Router", name := "markHolder", desc := "(II)V" } : Jvm.MethodName)) ∈ zq_T := zq_tm 584 (by decide +kernel) (by decide +kernel)
theorem tk_585 : (Jvm.Cond.code ({ cls := "GridRouter$Router", name := "markHolder", desc := "(II)V" } : Jvm.MethodName) prog_7_method_6_code (3 : Nat) (Option.none : Option Jvm.ClassFile.FieldType)) ∈ zq_T := zq_tm 585 (by decide +kernel) (by decide +kernel)
theorem tk_586 : (Jvm.Cond.methodLink "GridRouter$Router" (67 : Nat) ({ cls := "GridRouter$Router", name := "stripPushedOut", desc := "()V" } : Jvm.MethodName)) ∈ zq_T := zq_tm 586 (by decide +kernel) (by decide +kernel)
theorem tk_588 : (Jvm.Cond.instanceMethod ({ cls := "GridRouter$Router", name := "stripPushedOut", desc := "()V" } : Jvm.MethodName)) ∈ zq_T := zq_tm 588 (by decide +kernel) (by decide +kernel)
theorem tk_589 : (Jvm.Cond.code ({ cls := "GridRouter$Router", name := "stripPushedOut", desc := "()V" } : Jvm.MethodName) prog_7_method_7_code (2 : Nat) (Option.none : Option Jvm.ClassFile.FieldType)) ∈ zq_T := zq_tm 589 (by decide +kernel) (by decide +kernel)
theorem tk_590 : (Jvm.Cond.methodLink "GridRouter$Router" (109 : Nat) ({ cls := "GridRouter$Layout", name := "clear", desc := "(I)V" } : Jvm.MethodName)) ∈ zq_T := zq_tm 590 (by decide +kernel) (by decide +kernel)
theorem tk_591 : (Jvm.Cond.methodLink "GridRouter$Router" (112 : Nat) ({ cls := "GridRouter$Layout", name := "restorePins", desc := "(I)V" } : Jvm.MethodName)) ∈ zq_T := zq_tm 591 (by decide +kernel) (by decide +kernel)
theorem tk_600 : (Jvm.Cond.methodLink "GridRouter" (137 : Nat) ({ cls := "GridRouter$Router", name := "lineUp", desc := "(Z)V" } : Jvm.MethodName)) ∈ zq_T := zq_tm 600 (by decide +kernel) (by decide +kernel)
theorem tk_601 : (Jvm.Cond.instanceMethod ({ cls := "GridRouter$Router", name := "lineUp", desc := "(Z)V" } : Jvm.MethodName)) ∈ zq_T := zq_tm 601 (by decide +kernel) (by decide +kernel)
theorem tk_602 : (Jvm.Cond.selects "GridRouter$Router" ({ cls := "GridRouter$Router", name := "lineUp", desc := "(Z)V" } : Jvm.MethodName) ({ cls := "GridRouter$Router", name := "lineUp", desc := "(Z)V" } : Jvm.MethodName)) ∈ zq_T := zq_tm 602 (by decide +kernel) (by decide +kernel)
theorem tk_603 : (Jvm.Cond.code ({ cls := "GridRouter$Router", name := "lineUp", desc := "(Z)V" } : Jvm.MethodName) prog_7_method_8_code (3 : Nat) (Option.none : Option Jvm.ClassFile.FieldType)) ∈ zq_T := zq_tm 603 (by decide +kernel) (by decide +kernel)
theorem tk_604 : (Jvm.Cond.methodLink "GridRouter$Router" (115 : Nat) ({ cls := "GridRouter$Line", name := "join", desc := "(I)V" } : Jvm.MethodName)) ∈ zq_T := zq_tm 604 (by decide +kernel) (by decide +kernel)
theorem tk_605 : (Jvm.Cond.instanceMethod ({ cls := "GridRouter$Line", name := "join", desc := "(I)V" } : Jvm.MethodName)) ∈ zq_T := zq_tm 605 (by decide +kernel) (by decide +kernel)
theorem tk_606 : (Jvm.Cond.selects "GridRouter$Line" ({ cls := "GridRouter$Line", name := "join", desc := "(I)V" } : Jvm.MethodName) ({ cls := "GridRouter$Line", name := "join", desc := "(I)V" } : Jvm.MethodName)) ∈ zq_T := zq_tm 606 (by decide +kernel) (by decide +kernel)
theorem tk_607 : (Jvm.Cond.code ({ cls := "GridRouter$Line", name := "join", desc := "(I)V" } : Jvm.MethodName) prog_5_method_3_code (3 : Nat) (Option.none : Option Jvm.ClassFile.FieldType)) ∈ zq_T := zq_tm 607 (by decide +kernel) (by decide +kernel)
theorem tk_608 : (Jvm.Cond.methodLink "GridRouter$Router" (118 : Nat) ({ cls := "GridRouter$Line", name := "sortBySpan", desc := "(LGridRouter$Nets;)V" } : Jvm.MethodName)) ∈ zq_T := zq_tm 608 (by decide +kernel) (by decide +kernel)
theorem tk_609 : (Jvm.Cond.instanceMethod ({ cls := "GridRouter$Line", name := "sortBySpan", desc := "(LGridRouter$Nets;)V" } : Jvm.MethodName)) ∈ zq_T := zq_tm 609 (by decide +kernel) (by decide +kernel)
theorem tk_610 : (Jvm.Cond.selects "GridRouter$Line" ({ cls := "GridRouter$Line", name := "sortBySpan", desc := "(LGridRouter$Nets;)V" } : Jvm.MethodName) ({ cls := "GridRouter$Line", name := "sortBySpan", desc := "(LGridRouter$Nets;)V" } : Jvm.MethodName)) ∈ zq_T := zq_tm 610 (by decide +kernel) (by decide +kernel)
theorem tk_611 : (Jvm.Cond.code ({ cls := "GridRouter$Line", name := "sortBySpan", desc := "(LGridRouter$Nets;)V" } : Jvm.MethodName) prog_5_method_5_code (5 : Nat) (Option.none : Option Jvm.ClassFile.FieldType)) ∈ zq_T := zq_tm 611 (by decide +kernel) (by decide +kernel)
theorem tk_612 : (Jvm.Cond.methodLink "GridRouter$Line" (25 : Nat) ({ cls := "GridRouter$Nets", name := "span", desc := "(I)I" } : Jvm.MethodName)) ∈ zq_T := zq_tm 612 (by decide +kernel) (by decide +kernel)
theorem tk_613 : (Jvm.Cond.instanceMethod ({ cls := "GridRouter$Nets", name := "span", desc := "(I)I" } : Jvm.MethodName)) ∈ zq_T := zq_tm 613 (by decide +kernel) (by decide +kernel)
theorem tk_614 : (Jvm.Cond.selects "GridRouter$Nets" ({ cls := "GridRouter$Nets", name := "span", desc := "(I)I" } : Jvm.MethodName) ({ cls := "GridRouter$Nets", name := "span", desc := "(I)I" } : Jvm.MethodName)) ∈ zq_T := zq_tm 614 (by decide +kernel) (by decide +kernel)
theorem tk_615 : (Jvm.Cond.code ({ cls := "GridRouter$Nets", name := "span", desc := "(I)I" } : Jvm.MethodName) prog_6_method_4_code (4 : Nat) (Option.some Jvm.ClassFile.FieldType.int)) ∈ zq_T := zq_tm 615 (by decide +kernel) (by decide +kernel)
theorem tk_616 : (Jvm.Cond.methodLink "GridRouter$Nets" (40 : Nat) ({ cls := "GridRouter$Grid", name := "layerOf", desc := "(I)I" } : Jvm.MethodName)) ∈ zq_T := zq_tm 616 (by decide +kernel) (by decide +kernel)
theorem tk_617 : (Jvm.Cond.instanceMethod ({ cls := "GridRouter$Grid", name := "layerOf", desc := "(I)I" } : Jvm.MethodName)) ∈ zq_T := zq_tm 617 (by decide +kernel) (by decide +kernel)
theorem tk_618 : (Jvm.Cond.selects "GridRouter$Grid" ({ cls := "GridRouter$Grid", name := "layerOf", desc := "(I)I" } : Jvm.MethodName) ({ cls := "GridRouter$Grid", name := "layerOf", desc := "(I)I" } : Jvm.MethodName)) ∈ zq_T := zq_tm 618 (by decide +kernel) (by decide +kernel)
theorem tk_619 : (Jvm.Cond.code ({ cls := "GridRouter$Grid", name := "layerOf", desc := "(I)I" } : Jvm.MethodName) prog_3_method_6_code (2 : Nat) (Option.some Jvm.ClassFile.FieldType.int)) ∈ zq_T := zq_tm 619 (by decide +kernel) (by decide +kernel)
theorem tk_620 : (Jvm.Cond.methodLink "GridRouter$Nets" (44 : Nat) ({ cls := "java/lang/Math", name := "abs", desc := "(I)I" } : Jvm.MethodName)) ∈ zq_T := zq_tm 620 (by decide +kernel) (by decide +kernel)
theorem tk_621 : (Jvm.Cond.static ({ cls := "java/lang/Math", name := "abs", desc := "(I)I" } : Jvm.MethodName)) ∈ zq_T := zq_tm 621 (by decide +kernel) (by decide +kernel)
theorem tk_622 : (Jvm.Cond.code ({ cls := "java/lang/Math", name := "abs", desc := "(I)I" } : Jvm.MethodName) prog_17_method_59_code (1 : Nat) (Option.some Jvm.ClassFile.FieldType.int)) ∈ zq_T := zq_tm 622 (by decide +kernel) (by decide +kernel)
theorem tk_623 : (Jvm.Cond.methodLink "GridRouter" (141 : Nat) ({ cls := "GridRouter$Router", name := "serveLine", desc := "(I)V" } : Jvm.MethodName)) ∈ zq_T := zq_tm 623 (by decide +kernel) (by decide +kernel)
theorem tk_624 : (Jvm.Cond.instanceMethod ({ cls := "GridRouter$Router", name := "serveLine", desc := "(I)V" } : Jvm.MethodName)) ∈ zq_T := zq_tm 624 (by decide +kernel) (by decide +kernel)
theorem tk_625 : (Jvm.Cond.selects "GridRouter$Router" ({ cls := "GridRouter$Router", name := "serveLine", desc := "(I)V" } : Jvm.MethodName) ({ cls := "GridRouter$Router", name := "serveLine", desc := "(I)V" } : Jvm.MethodName)) ∈ zq_T := zq_tm 625 (by decide +kernel) (by decide +kernel)
theorem tk_626 : (Jvm.Cond.code ({ cls := "GridRouter$Router", name := "serveLine", desc := "(I)V" } : Jvm.MethodName) prog_7_method_9_code (5 : Nat) (Option.none : Option Jvm.ClassFile.FieldType)) ∈ zq_T := zq_tm 626 (by decide +kernel) (by decide +kernel)
theorem tk_627 : (Jvm.Cond.methodLink "GridRouter$Router" (122 : Nat) ({ cls := "GridRouter$Line", name := "isEmpty", desc := "()Z" } : Jvm.MethodName)) ∈ zq_T := zq_tm 627 (by decide +kernel) (by decide +kernel)
theorem tk_628 : (Jvm.Cond.instanceMethod ({ cls := "GridRouter$Line", name := "isEmpty", desc := "()Z" } : Jvm.MethodName)) ∈ zq_T := zq_tm 628 (by decide +kernel) (by decide +kernel)
theorem tk_629 : (Jvm.Cond.selects "GridRouter$Line" ({ cls := "GridRouter$Line", name := "isEmpty", desc := "()Z" } : Jvm.MethodName) ({ cls := "GridRouter$Line", name := "isEmpty", desc := "()Z" } : Jvm.MethodName)) ∈ zq_T := zq_tm 629 (by decide +kernel) (by decide +kernel)
theorem tk_630 : (Jvm.Cond.code ({ cls := "GridRouter$Line", name := "isEmpty", desc := "()Z" } : Jvm.MethodName) prog_5_method_2_code (1 : Nat) (Option.some Jvm.ClassFile.FieldType.boolean)) ∈ zq_T := zq_tm 630 (by decide +kernel) (by decide +kernel)
theorem tk_631 : (Jvm.Cond.methodLink "GridRouter$Router" (126 : Nat) ({ cls := "GridRouter$Line", name := "leave", desc := "()I" } : Jvm.MethodName)) ∈ zq_T := zq_tm 631 (by decide +kernel) (by decide +kernel)
theorem tk_632 : (Jvm.Cond.instanceMethod ({ cls := "GridRouter$Line", name := "leave", desc := "()I" } : Jvm.MethodName)) ∈ zq_T := zq_tm 632 (by decide +kernel) (by decide +kernel)
theorem tk_633 : (Jvm.Cond.selects "GridRouter$Line" ({ cls := "GridRouter$Line", name := "leave", desc := "()I" } : Jvm.MethodName) ({ cls := "GridRouter$Line", name := "leave", desc := "()I" } : Jvm.MethodName)) ∈ zq_T := zq_tm 633 (by decide +kernel) (by decide +kernel)
theorem tk_634 : (Jvm.Cond.code ({ cls := "GridRouter$Line", name := "leave", desc := "()I" } : Jvm.MethodName) prog_5_method_4_code (2 : Nat) (Option.some Jvm.ClassFile.FieldType.int)) ∈ zq_T := zq_tm 634 (by decide +kernel) (by decide +kernel)
theorem tk_635 : (Jvm.Cond.methodLink "GridRouter$Line" (19 : Nat) ({ cls := "java/lang/System", name := "arraycopy", desc := "(Ljava/lang/Object;ILjava/lang/Object;II)V" } : Jvm.MethodName)) ∈ zq_T := zq_tm 635 (by decide +kernel) (by decide +kernel)
theorem tk_636 : (Jvm.Cond.static ({ cls := "java/lang/System", name := "arraycopy", desc := "(Ljava/lang/Object;ILjava/lang/Object;II)V" } : Jvm.MethodName)) ∈ zq_T := zq_tm 636 (by decide +kernel) (by decide +kernel)
theorem tk_637 : (Jvm.Cond.native ({ cls := "java/lang/System", name := "arraycopy", desc := "(Ljava/lang/Object;ILjava/lang/Object;II)V" } : Jvm.MethodName)) ∈ zq_T := zq_tm 637 (by decide +kernel) (by decide +kernel)
theorem tk_638 : (Jvm.Cond.methodLink "GridRouter$Router" (130 : Nat) ({ cls := "GridRouter$Router", name := "lay", desc := "(I)I" } : Jvm.MethodName)) ∈ zq_T := zq_tm 638 (by decide +kernel) (by decide +kernel)
theorem tk_639 : (Jvm.Cond.methodLink "GridRouter$Router" (133 : Nat) ({ cls := "GridRouter$Router", name := "shove", desc := "(I)I" } : Jvm.MethodName)) ∈ zq_T := zq_tm 639 (by decide +kernel) (by decide +kernel)
theorem tk_640 : (Jvm.Cond.methodLink "GridRouter$Router" (136 : Nat) ({ cls := "GridRouter$Router", name := "lineUpPushedOut", desc := "()V" } : Jvm.MethodName)) ∈ zq_T := zq_tm 640 (by decide +kernel) (by decide +kernel)
theorem tk_642 : (Jvm.Cond.instanceMethod ({ cls := "GridRouter$Router", name := "lineUpPushedOut", desc := "()V" } : Jvm.MethodName)) ∈ zq_T := zq_tm 642 (by decide +kernel) (by decide +kernel)
theorem tk_643 : (Jvm.Cond.code ({ cls := "GridRouter$Router", name := "lineUpPushedOut", desc := "()V" } : Jvm.MethodName) prog_7_method_10_code (2 : Nat) (Option.none : Option Jvm.ClassFile.FieldType)) ∈ zq_T := zq_tm 643 (by decide +kernel) (by decide +kernel)
theorem tk_644 : (Jvm.Cond.methodLink "GridRouter" (145 : Nat) ({ cls := "GridRouter$Router", name := "retryLoose", desc := "()V" } : Jvm.MethodName)) ∈ zq_T := zq_tm 644 (by decide +kernel) (by decide +kernel)
theorem tk_645 : (Jvm.Cond.instanceMethod ({ cls := "GridRouter$Router", name := "retryLoose", desc := "()V" } : Jvm.MethodName)) ∈ zq_T := zq_tm 645 (by decide +kernel) (by decide +kernel)
theorem tk_646 : (Jvm.Cond.selects "GridRouter$Router" ({ cls := "GridRouter$Router", name := "retryLoose", desc := "()V" } : Jvm.MethodName) ({ cls := "GridRouter$Router", name := "retryLoose", desc := "()V" } : Jvm.MethodName)) ∈ zq_T := zq_tm 646 (by decide +kernel) (by decide +kernel)
theorem tk_647 : (Jvm.Cond.code ({ cls := "GridRouter$Router", name := "retryLoose", desc := "()V" } : Jvm.MethodName) prog_7_method_11_code (4 : Nat) (Option.none : Option Jvm.ClassFile.FieldType)) ∈ zq_T := zq_tm 647 (by decide +kernel) (by decide +kernel)
theorem tk_648 : (Jvm.Cond.methodLink "GridRouter$Router" (139 : Nat) ({ cls := "GridRouter$Checker", name := "isJoined", desc := "(I)Z" } : Jvm.MethodName)) ∈ zq_T := zq_tm 648 (by decide +kernel) (by decide +kernel)
theorem tk_649 : (Jvm.Cond.instanceMethod ({ cls := "GridRouter$Checker", name := "isJoined", desc := "(I)Z" } : Jvm.MethodName)) ∈ zq_T := zq_tm 649 (by decide +kernel) (by decide +kernel)
theorem tk_650 : (Jvm.Cond.selects "GridRouter$Checker" ({ cls := "GridRouter$Checker", name := "isJoined", desc := "(I)Z" } : Jvm.MethodName) ({ cls := "GridRouter$Checker", name := "isJoined", desc := "(I)Z" } : Jvm.MethodName)) ∈ zq_T := zq_tm 650 (by decide +kernel) (by decide +kernel)
theorem tk_651 : (Jvm.Cond.code ({ cls := "GridRouter$Checker", name := "isJoined", desc := "(I)Z" } : Jvm.MethodName) prog_2_method_8_code (3 : Nat) (Option.some Jvm.ClassFile.FieldType.boolean)) ∈ zq_T := zq_tm 651 (by decide +kernel) (by decide +kernel)
theorem tk_652 : (Jvm.Cond.methodLink "GridRouter$Checker" (99 : Nat) ({ cls := "GridRouter$Checker", name := "reach", desc := "(II)V" } : Jvm.MethodName)) ∈ zq_T := zq_tm 652 (by decide +kernel) (by decide +kernel)
theorem tk_654 : (Jvm.Cond.instanceMethod ({ cls := "GridRouter$Checker", name := "reach", desc := "(II)V" } : Jvm.MethodName)) ∈ zq_T := zq_tm 654 (by decide +kernel) (by decide +kernel)
theorem tk_655 : (Jvm.Cond.code ({ cls := "GridRouter$Checker", name := "reach", desc := "(II)V" } : Jvm.MethodName) prog_2_method_10_code (3 : Nat) (Option.none : Option Jvm.ClassFile.FieldType)) ∈ zq_T := zq_tm 655 (by decide +kernel) (by decide +kernel)
theorem tk_656 : (Jvm.Cond.methodLink "GridRouter$Checker" (103 : Nat) ({ cls := "GridRouter$Checker", name := "reachFrom", desc := "(II)V" } : Jvm.MethodName)) ∈ zq_T := zq_tm 656 (by decide +kernel) (by decide +kernel)
theorem tk_658 : (Jvm.Cond.instanceMethod ({ cls := "GridRouter$Checker", name := "reachFrom", desc := "(II)V" } : Jvm.MethodName)) ∈ zq_T := zq_tm 658 (by decide +kernel) (by decide +kernel)
theorem tk_659 : (Jvm.Cond.code ({ cls := "GridRouter$Checker", name := "reachFrom", desc := "(II)V" } : Jvm.MethodName) prog_2_method_9_code (4 : Nat) (Option.none : Option Jvm.ClassFile.FieldType)) ∈ zq_T := zq_tm 659 (by decide +kernel) (by decide +kernel)
theorem tk_660 : (Jvm.Cond.methodLink "GridRouter$Checker" (76 : Nat) ({ cls := "GridRouter$Grid", name := "next", desc := "(II)I" } : Jvm.MethodName)) ∈ zq_T := zq_tm 660 (by decide +kernel) (by decide +kernel)
theorem tk_661 : (Jvm.Cond.methodLink "GridRouter$Checker" (109 : Nat) ({ cls := "GridRouter$Grid", name := "placeOf", desc := "(I)I" } : Jvm.MethodName)) ∈ zq_T := zq_tm 661 (by decide +kernel) (by decide +kernel)
theorem tk_662 : (Jvm.Cond.methodLink "GridRouter" (148 : Nat) ({ cls := "GridRouter$Checker", name := "loose", desc := "()I" } : Jvm.MethodName)) ∈ zq_T := zq_tm 662 (by decide +kernel) (by decide +kernel)
theorem tk_663 : (Jvm.Cond.instanceMethod ({ cls := "GridRouter$Checker", name := "loose", desc := "()I" } : Jvm.MethodName)) ∈ zq_T := zq_tm 663 (by decide +kernel) (by decide +kernel)
theorem tk_664 : (Jvm.Cond.selects "GridRouter$Checker" ({ cls := "GridRouter$Checker", name := "loose", desc := "()I" } : Jvm.MethodName) ({ cls := "GridRouter$Checker", name := "loose", desc := "()I" } : Jvm.MethodName)) ∈ zq_T := zq_tm 664 (by decide +kernel) (by decide +kernel)
theorem tk_665 : (Jvm.Cond.code ({ cls := "GridRouter$Checker", name := "loose", desc := "()I" } : Jvm.MethodName) prog_2_method_7_code (3 : Nat) (Option.some Jvm.ClassFile.FieldType.int)) ∈ zq_T := zq_tm 665 (by decide +kernel) (by decide +kernel)
theorem tk_666 : (Jvm.Cond.methodLink "GridRouter$Checker" (92 : Nat) ({ cls := "GridRouter$Checker", name := "isJoined", desc := "(I)Z" } : Jvm.MethodName)) ∈ zq_T := zq_tm 666 (by decide +kernel) (by decide +kernel)
theorem tk_674 : (Jvm.Cond.methodLink "GridRouter" (152 : Nat) ({ cls := "GridRouter$Layout", name := "strip", desc := "(I)V" } : Jvm.MethodName)) ∈ zq_T := zq_tm 674 (by decide +kernel) (by decide +kernel)
theorem tk_690 : (Jvm.Cond.methodLink "GridRouter" (157 : Nat) ({ cls := "GridRouter$Grid", name := "hasPlace", desc := "(II)Z" } : Jvm.MethodName)) ∈ zq_T := zq_tm 690 (by decide +kernel) (by decide +kernel)
theorem tk_714 : (Jvm.Cond.methodLink "GridRouter" (167 : Nat) ({ cls := "GridRouter$Checker", name := "count", desc := "(I)I" } : Jvm.MethodName)) ∈ zq_T := zq_tm 714 (by decide +kernel) (by decide +kernel)
theorem tk_715 : (Jvm.Cond.instanceMethod ({ cls := "GridRouter$Checker", name := "count", desc := "(I)I" } : Jvm.MethodName)) ∈ zq_T := zq_tm 715 (by decide +kernel) (by decide +kernel)
theorem tk_716 : (Jvm.Cond.selects "GridRouter$Checker" ({ cls := "GridRouter$Checker", name := "count", desc := "(I)I" } : Jvm.MethodName) ({ cls := "GridRouter$Checker", name := "count", desc := "(I)I" } : Jvm.MethodName)) ∈ zq_T := zq_tm 716 (by decide +kernel) (by decide +kernel)
theorem tk_717 : (Jvm.Cond.code ({ cls := "GridRouter$Checker", name := "count", desc := "(I)I" } : Jvm.MethodName) prog_2_method_2_code (2 : Nat) (Option.some Jvm.ClassFile.FieldType.int)) ∈ zq_T := zq_tm 717 (by decide +kernel) (by decide +kernel)
theorem tk_718 : (Jvm.Cond.methodLink "GridRouter$Checker" (44 : Nat) ({ cls := "GridRouter$Checker", name := "misplaced", desc := "()I" } : Jvm.MethodName)) ∈ zq_T := zq_tm 718 (by decide +kernel) (by decide +kernel)
theorem tk_720 : (Jvm.Cond.instanceMethod ({ cls := "GridRouter$Checker", name := "misplaced", desc := "()I" } : Jvm.MethodName)) ∈ zq_T := zq_tm 720 (by decide +kernel) (by decide +kernel)
theorem tk_721 : (Jvm.Cond.code ({ cls := "GridRouter$Checker", name := "misplaced", desc := "()I" } : Jvm.MethodName) prog_2_method_3_code (5 : Nat) (Option.some Jvm.ClassFile.FieldType.int)) ∈ zq_T := zq_tm 721 (by decide +kernel) (by decide +kernel)
theorem tk_722 : (Jvm.Cond.methodLink "GridRouter$Checker" (48 : Nat) ({ cls := "GridRouter$Checker", name := "crowded", desc := "()I" } : Jvm.MethodName)) ∈ zq_T := zq_tm 722 (by decide +kernel) (by decide +kernel)
theorem tk_724 : (Jvm.Cond.instanceMethod ({ cls := "GridRouter$Checker", name := "crowded", desc := "()I" } : Jvm.MethodName)) ∈ zq_T := zq_tm 724 (by decide +kernel) (by decide +kernel)
theorem tk_725 : (Jvm.Cond.code ({ cls := "GridRouter$Checker", name := "crowded", desc := "()I" } : Jvm.MethodName) prog_2_method_4_code (3 : Nat) (Option.some Jvm.ClassFile.FieldType.int)) ∈ zq_T := zq_tm 725 (by decide +kernel) (by decide +kernel)
theorem tk_726 : (Jvm.Cond.methodLink "GridRouter$Checker" (80 : Nat) ({ cls := "GridRouter$Checker", name := "clash", desc := "(II)I" } : Jvm.MethodName)) ∈ zq_T := zq_tm 726 (by decide +kernel) (by decide +kernel)
theorem tk_728 : (Jvm.Cond.instanceMethod ({ cls := "GridRouter$Checker", name := "clash", desc := "(II)I" } : Jvm.MethodName)) ∈ zq_T := zq_tm 728 (by decide +kernel) (by decide +kernel)
theorem tk_729 : (Jvm.Cond.code ({ cls := "GridRouter$Checker", name := "clash", desc := "(II)I" } : Jvm.MethodName) prog_2_method_5_code (3 : Nat) (Option.some Jvm.ClassFile.FieldType.int)) ∈ zq_T := zq_tm 729 (by decide +kernel) (by decide +kernel)
theorem tk_730 : (Jvm.Cond.methodLink "GridRouter$Checker" (51 : Nat) ({ cls := "GridRouter$Checker", name := "badVias", desc := "()I" } : Jvm.MethodName)) ∈ zq_T := zq_tm 730 (by decide +kernel) (by decide +kernel)
theorem tk_732 : (Jvm.Cond.instanceMethod ({ cls := "GridRouter$Checker", name := "badVias", desc := "()I" } : Jvm.MethodName)) ∈ zq_T := zq_tm 732 (by decide +kernel) (by decide +kernel)
theorem tk_733 : (Jvm.Cond.code ({ cls := "GridRouter$Checker", name := "badVias", desc := "()I" } : Jvm.MethodName) prog_2_method_6_code (4 : Nat) (Option.some Jvm.ClassFile.FieldType.int)) ∈ zq_T := zq_tm 733 (by decide +kernel) (by decide +kernel)
theorem tk_734 : (Jvm.Cond.methodLink "GridRouter$Checker" (54 : Nat) ({ cls := "GridRouter$Checker", name := "loose", desc := "()I" } : Jvm.MethodName)) ∈ zq_T := zq_tm 734 (by decide +kernel) (by decide +kernel)
theorem tk_742 : (Jvm.Cond.methodLink "GridRouter" (171 : Nat) ({ cls := "GridRouter$Shapes", name := "startOf", desc := "(I)I" } : Jvm.MethodName)) ∈ zq_T := zq_tm 742 (by decide +kernel) (by decide +kernel)
theorem tk_743 : (Jvm.Cond.instanceMethod ({ cls := "GridRouter$Shapes", name := "startOf", desc := "(I)I" } : Jvm.MethodName)) ∈ zq_T := zq_tm 743 (by decide +kernel) (by decide +kernel)
theorem tk_744 : (Jvm.Cond.selects "GridRouter$Shapes" ({ cls := "GridRouter$Shapes", name := "startOf", desc := "(I)I" } : Jvm.MethodName) ({ cls := "GridRouter$Shapes", name := "startOf", desc := "(I)I" } : Jvm.MethodName)) ∈ zq_T := zq_tm 744 (by decide +kernel) (by decide +kernel)
theorem tk_745 : (Jvm.Cond.code ({ cls := "GridRouter$Shapes", name := "startOf", desc := "(I)I" } : Jvm.MethodName) prog_9_method_3_code (4 : Nat) (Option.some Jvm.ClassFile.FieldType.int)) ∈ zq_T := zq_tm 745 (by decide +kernel) (by decide +kernel)
theorem tk_748 : (Jvm.Cond.methodLink "GridRouter" (178 : Nat) ({ cls := "GridRouter$Shapes", name := "tell", desc := "(II)I" } : Jvm.MethodName)) ∈ zq_T := zq_tm 748 (by decide +kernel) (by decide +kernel)
theorem tk_749 : (Jvm.Cond.instanceMethod ({ cls := "GridRouter$Shapes", name := "tell", desc := "(II)I" } : Jvm.MethodName)) ∈ zq_T := zq_tm 749 (by decide +kernel) (by decide +kernel)
theorem tk_750 : (Jvm.Cond.selects "GridRouter$Shapes" ({ cls := "GridRouter$Shapes", name := "tell", desc := "(II)I" } : Jvm.MethodName) ({ cls := "GridRouter$Shapes", name := "tell", desc := "(II)I" } : Jvm.MethodName)) ∈ zq_T := zq_tm 750 (by decide +kernel) (by decide +kernel)
theorem tk_751 : (Jvm.Cond.code ({ cls := "GridRouter$Shapes", name := "tell", desc := "(II)I" } : Jvm.MethodName) prog_9_method_4_code (3 : Nat) (Option.some Jvm.ClassFile.FieldType.int)) ∈ zq_T := zq_tm 751 (by decide +kernel) (by decide +kernel)
theorem tk_752 : (Jvm.Cond.methodLink "GridRouter$Shapes" (29 : Nat) ({ cls := "GridRouter$Grid", name := "layerOf", desc := "(I)I" } : Jvm.MethodName)) ∈ zq_T := zq_tm 752 (by decide +kernel) (by decide +kernel)
theorem tk_753 : (Jvm.Cond.methodLink "GridRouter$Shapes" (40 : Nat) ({ cls := "GridRouter$Shapes", name := "lastX", desc := "(I)I" } : Jvm.MethodName)) ∈ zq_T := zq_tm 753 (by decide +kernel) (by decide +kernel)
theorem tk_755 : (Jvm.Cond.instanceMethod ({ cls := "GridRouter$Shapes", name := "lastX", desc := "(I)I" } : Jvm.MethodName)) ∈ zq_T := zq_tm 755 (by decide +kernel) (by decide +kernel)
theorem tk_756 : (Jvm.Cond.code ({ cls := "GridRouter$Shapes", name := "lastX", desc := "(I)I" } : Jvm.MethodName) prog_9_method_6_code (4 : Nat) (Option.some Jvm.ClassFile.FieldType.int)) ∈ zq_T := zq_tm 756 (by decide +kernel) (by decide +kernel)
theorem tk_763 : (Jvm.Cond.fieldLink "GridRouterModel" (44 : Nat) "GridRouterModel" "width" "I") ∈ zq_T := zq_tm 763 (by decide +kernel) (by decide +kernel)
theorem tk_764 : (Jvm.Cond.fieldLink "GridRouterModel" (48 : Nat) "GridRouterModel" "height" "I") ∈ zq_T := zq_tm 764 (by decide +kernel) (by decide +kernel)
theorem tk_765 : (Jvm.Cond.fieldLink "GridRouterModel" (51 : Nat) "GridRouterModel" "viaCost" "I") ∈ zq_T := zq_tm 765 (by decide +kernel) (by decide +kernel)
theorem tk_766 : (Jvm.Cond.fieldLink "GridRouterModel" (54 : Nat) "GridRouterModel" "wide" "Z") ∈ zq_T := zq_tm 766 (by decide +kernel) (by decide +kernel)
theorem tk_767 : (Jvm.Cond.fieldLink "GridRouterModel" (58 : Nat) "GridRouterModel" "code" "I") ∈ zq_T := zq_tm 767 (by decide +kernel) (by decide +kernel)
theorem tk_768 : (Jvm.Cond.fieldLink "GridRouterModel" (7 : Nat) "GridRouterModel" "blocked" "[Z") ∈ zq_T := zq_tm 768 (by decide +kernel) (by decide +kernel)
theorem tk_769 : (Jvm.Cond.fieldLink "GridRouterModel" (13 : Nat) "GridRouterModel" "pin" "[I") ∈ zq_T := zq_tm 769 (by decide +kernel) (by decide +kernel)
theorem tk_770 : (Jvm.Cond.fieldLink "GridRouterModel" (17 : Nat) "GridRouterModel" "owner" "[I") ∈ zq_T := zq_tm 770 (by decide +kernel) (by decide +kernel)
theorem tk_771 : (Jvm.Cond.fieldLink "GridRouterModel" (20 : Nat) "GridRouterModel" "vias" "[Z") ∈ zq_T := zq_tm 771 (by decide +kernel) (by decide +kernel)
theorem tk_772 : (Jvm.Cond.fieldLink "GridRouterModel" (23 : Nat) "GridRouterModel" "cost" "[I") ∈ zq_T := zq_tm 772 (by decide +kernel) (by decide +kernel)
theorem tk_773 : (Jvm.Cond.fieldLink "GridRouterModel" (26 : Nat) "GridRouterModel" "mark" "[Z") ∈ zq_T := zq_tm 773 (by decide +kernel) (by decide +kernel)
theorem tk_774 : (Jvm.Cond.fieldLink "GridRouterModel" (29 : Nat) "GridRouterModel" "way" "[I") ∈ zq_T := zq_tm 774 (by decide +kernel) (by decide +kernel)
theorem tk_775 : (Jvm.Cond.fieldLink "GridRouterModel" (32 : Nat) "GridRouterModel" "climbs" "[Z") ∈ zq_T := zq_tm 775 (by decide +kernel) (by decide +kernel)
theorem tk_776 : (Jvm.Cond.fieldLink "GridRouterModel" (83 : Nat) "GridRouterModel" "nets" "I") ∈ zq_T := zq_tm 776 (by decide +kernel) (by decide +kernel)
theorem tk_777 : (Jvm.Cond.fieldLink "GridRouterModel" (35 : Nat) "GridRouterModel" "first" "[I") ∈ zq_T := zq_tm 777 (by decide +kernel) (by decide +kernel)
theorem tk_778 : (Jvm.Cond.fieldLink "GridRouterModel" (38 : Nat) "GridRouterModel" "second" "[I") ∈ zq_T := zq_tm 778 (by decide +kernel) (by decide +kernel)
theorem tk_779 : (Jvm.Cond.fieldLink "GridRouterModel" (133 : Nat) "GridRouterModel" "standing" "I") ∈ zq_T := zq_tm 779 (by decide +kernel) (by decide +kernel)
theorem tk_780 : (Jvm.Cond.fieldLink "GridRouterModel" (41 : Nat) "GridRouterModel" "line" "[I") ∈ zq_T := zq_tm 780 (by decide +kernel) (by decide +kernel)
theorem tk_781 : (Jvm.Cond.fieldLink "GridRouterModel" (112 : Nat) "GridRouterModel" "out" "I") ∈ zq_T := zq_tm 781 (by decide +kernel) (by decide +kernel)
theorem tk_782 : (Jvm.Cond.laysFinal "GridRouterModel" "GridRouterModel" "width" "I") ∈ zq_T := zq_tm 782 (by decide +kernel) (by decide +kernel)
theorem tk_784 : (Jvm.Cond.laysFinal "GridRouterModel" "GridRouterModel" "height" "I") ∈ zq_T := zq_tm 784 (by decide +kernel) (by decide +kernel)
theorem tk_786 : (Jvm.Cond.laysFinal "GridRouterModel" "GridRouterModel" "viaCost" "I") ∈ zq_T := zq_tm 786 (by decide +kernel) (by decide +kernel)
theorem tk_788 : (Jvm.Cond.laysFinal "GridRouterModel" "GridRouterModel" "wide" "Z") ∈ zq_T := zq_tm 788 (by decide +kernel) (by decide +kernel)
theorem tk_790 : (Jvm.Cond.lays "GridRouterModel" "GridRouterModel" "code" "I") ∈ zq_T := zq_tm 790 (by decide +kernel) (by decide +kernel)
theorem tk_792 : (Jvm.Cond.laysFinal "GridRouterModel" "GridRouterModel" "blocked" "[Z") ∈ zq_T := zq_tm 792 (by decide +kernel) (by decide +kernel)
theorem tk_794 : (Jvm.Cond.laysFinal "GridRouterModel" "GridRouterModel" "pin" "[I") ∈ zq_T := zq_tm 794 (by decide +kernel) (by decide +kernel)
theorem tk_796 : (Jvm.Cond.laysFinal "GridRouterModel" "GridRouterModel" "owner" "[I") ∈ zq_T := zq_tm 796 (by decide +kernel) (by decide +kernel)
theorem tk_798 : (Jvm.Cond.laysFinal "GridRouterModel" "GridRouterModel" "vias" "[Z") ∈ zq_T := zq_tm 798 (by decide +kernel) (by decide +kernel)
theorem tk_800 : (Jvm.Cond.laysFinal "GridRouterModel" "GridRouterModel" "cost" "[I") ∈ zq_T := zq_tm 800 (by decide +kernel) (by decide +kernel)
theorem tk_802 : (Jvm.Cond.laysFinal "GridRouterModel" "GridRouterModel" "mark" "[Z") ∈ zq_T := zq_tm 802 (by decide +kernel) (by decide +kernel)
theorem tk_804 : (Jvm.Cond.laysFinal "GridRouterModel" "GridRouterModel" "way" "[I") ∈ zq_T := zq_tm 804 (by decide +kernel) (by decide +kernel)
theorem tk_806 : (Jvm.Cond.laysFinal "GridRouterModel" "GridRouterModel" "climbs" "[Z") ∈ zq_T := zq_tm 806 (by decide +kernel) (by decide +kernel)
theorem tk_808 : (Jvm.Cond.lays "GridRouterModel" "GridRouterModel" "nets" "I") ∈ zq_T := zq_tm 808 (by decide +kernel) (by decide +kernel)
theorem tk_810 : (Jvm.Cond.laysFinal "GridRouterModel" "GridRouterModel" "first" "[I") ∈ zq_T := zq_tm 810 (by decide +kernel) (by decide +kernel)
theorem tk_812 : (Jvm.Cond.laysFinal "GridRouterModel" "GridRouterModel" "second" "[I") ∈ zq_T := zq_tm 812 (by decide +kernel) (by decide +kernel)
theorem tk_814 : (Jvm.Cond.lays "GridRouterModel" "GridRouterModel" "standing" "I") ∈ zq_T := zq_tm 814 (by decide +kernel) (by decide +kernel)
theorem tk_816 : (Jvm.Cond.laysFinal "GridRouterModel" "GridRouterModel" "line" "[I") ∈ zq_T := zq_tm 816 (by decide +kernel) (by decide +kernel)
theorem tk_818 : (Jvm.Cond.lays "GridRouterModel" "GridRouterModel" "out" "I") ∈ zq_T := zq_tm 818 (by decide +kernel) (by decide +kernel)
theorem tk_829 : (Jvm.Cond.methodLink "GridRouterModel" (65 : Nat) ({ cls := "GridRouterModel", name := "at", desc := "(III)I" } : Jvm.MethodName)) ∈ zq_T := zq_tm 829 (by decide +kernel) (by decide +kernel)
theorem tk_831 : (Jvm.Cond.instanceMethod ({ cls := "GridRouterModel", name := "at", desc := "(III)I" } : Jvm.MethodName)) ∈ zq_T := zq_tm 831 (by decide +kernel) (by decide +kernel)
theorem tk_832 : (Jvm.Cond.code ({ cls := "GridRouterModel", name := "at", desc := "(III)I" } : Jvm.MethodName) prog_12_method_6_code (4 : Nat) (Option.some Jvm.ClassFile.FieldType.int)) ∈ zq_T := zq_tm 832 (by decide +kernel) (by decide +kernel)
theorem tk_833 : (Jvm.Cond.methodLink "GridRouterModel" (61 : Nat) ({ cls := "GridRouterModel", name := "isPlace", desc := "(II)Z" } : Jvm.MethodName)) ∈ zq_T := zq_tm 833 (by decide +kernel) (by decide +kernel)
theorem tk_835 : (Jvm.Cond.instanceMethod ({ cls := "GridRouterModel", name := "isPlace", desc := "(II)Z" } : Jvm.MethodName)) ∈ zq_T := zq_tm 835 (by decide +kernel) (by decide +kernel)
theorem tk_836 : (Jvm.Cond.code ({ cls := "GridRouterModel", name := "isPlace", desc := "(II)Z" } : Jvm.MethodName) prog_12_method_5_code (3 : Nat) (Option.some Jvm.ClassFile.FieldType.boolean)) ∈ zq_T := zq_tm 836 (by decide +kernel) (by decide +kernel)
theorem tk_841 : (Jvm.Cond.methodLink "GridRouterModel" (76 : Nat) ({ cls := "GridRouterModel", name := "isBarred", desc := "(II)Z" } : Jvm.MethodName)) ∈ zq_T := zq_tm 841 (by decide +kernel) (by decide +kernel)
theorem tk_843 : (Jvm.Cond.instanceMethod ({ cls := "GridRouterModel", name := "isBarred", desc := "(II)Z" } : Jvm.MethodName)) ∈ zq_T := zq_tm 843 (by decide +kernel) (by decide +kernel)
theorem tk_844 : (Jvm.Cond.code ({ cls := "GridRouterModel", name := "isBarred", desc := "(II)Z" } : Jvm.MethodName) prog_12_method_10_code (6 : Nat) (Option.some Jvm.ClassFile.FieldType.boolean)) ∈ zq_T := zq_tm 844 (by decide +kernel) (by decide +kernel)
theorem tk_845 : (Jvm.Cond.methodLink "GridRouterModel" (69 : Nat) ({ cls := "GridRouterModel", name := "isOther", desc := "(II)Z" } : Jvm.MethodName)) ∈ zq_T := zq_tm 845 (by decide +kernel) (by decide +kernel)
theorem tk_846 : (Jvm.Cond.static ({ cls := "GridRouterModel", name := "isOther", desc := "(II)Z" } : Jvm.MethodName)) ∈ zq_T := zq_tm 846 (by decide +kernel) (by decide +kernel)
theorem tk_847 : (Jvm.Cond.code ({ cls := "GridRouterModel", name := "isOther", desc := "(II)Z" } : Jvm.MethodName) prog_12_method_9_code (2 : Nat) (Option.some Jvm.ClassFile.FieldType.boolean)) ∈ zq_T := zq_tm 847 (by decide +kernel) (by decide +kernel)
theorem tk_848 : (Jvm.Cond.methodLink "GridRouterModel" (72 : Nat) ({ cls := "GridRouterModel", name := "side", desc := "(II)I" } : Jvm.MethodName)) ∈ zq_T := zq_tm 848 (by decide +kernel) (by decide +kernel)
theorem tk_850 : (Jvm.Cond.instanceMethod ({ cls := "GridRouterModel", name := "side", desc := "(II)I" } : Jvm.MethodName)) ∈ zq_T := zq_tm 850 (by decide +kernel) (by decide +kernel)
theorem tk_851 : (Jvm.Cond.code ({ cls := "GridRouterModel", name := "side", desc := "(II)I" } : Jvm.MethodName) prog_12_method_7_code (6 : Nat) (Option.some Jvm.ClassFile.FieldType.int)) ∈ zq_T := zq_tm 851 (by decide +kernel) (by decide +kernel)
theorem tk_856 : (Jvm.Cond.methodLink "GridRouterModel" (122 : Nat) ({ cls := "GridRouterModel", name := "isNet", desc := "(I)Z" } : Jvm.MethodName)) ∈ zq_T := zq_tm 856 (by decide +kernel) (by decide +kernel)
theorem tk_858 : (Jvm.Cond.instanceMethod ({ cls := "GridRouterModel", name := "isNet", desc := "(I)Z" } : Jvm.MethodName)) ∈ zq_T := zq_tm 858 (by decide +kernel) (by decide +kernel)
theorem tk_859 : (Jvm.Cond.code ({ cls := "GridRouterModel", name := "isNet", desc := "(I)Z" } : Jvm.MethodName) prog_12_method_15_code (2 : Nat) (Option.some Jvm.ClassFile.FieldType.boolean)) ∈ zq_T := zq_tm 859 (by decide +kernel) (by decide +kernel)
theorem tk_860 : (Jvm.Cond.methodLink "GridRouterModel" (126 : Nat) ({ cls := "GridRouterModel", name := "find", desc := "(IZ)I" } : Jvm.MethodName)) ∈ zq_T := zq_tm 860 (by decide +kernel) (by decide +kernel)
theorem tk_862 : (Jvm.Cond.instanceMethod ({ cls := "GridRouterModel", name := "find", desc := "(IZ)I" } : Jvm.MethodName)) ∈ zq_T := zq_tm 862 (by decide +kernel) (by decide +kernel)
theorem tk_863 : (Jvm.Cond.code ({ cls := "GridRouterModel", name := "find", desc := "(IZ)I" } : Jvm.MethodName) prog_12_method_22_code (4 : Nat) (Option.some Jvm.ClassFile.FieldType.int)) ∈ zq_T := zq_tm 863 (by decide +kernel) (by decide +kernel)
theorem tk_864 : (Jvm.Cond.methodLink "GridRouterModel" (108 : Nat) ({ cls := "GridRouterModel", name := "clear", desc := "(I)V" } : Jvm.MethodName)) ∈ zq_T := zq_tm 864 (by decide +kernel) (by decide +kernel)
theorem tk_866 : (Jvm.Cond.instanceMethod ({ cls := "GridRouterModel", name := "clear", desc := "(I)V" } : Jvm.MethodName)) ∈ zq_T := zq_tm 866 (by decide +kernel) (by decide +kernel)
theorem tk_867 : (Jvm.Cond.code ({ cls := "GridRouterModel", name := "clear", desc := "(I)V" } : Jvm.MethodName) prog_12_method_16_code (3 : Nat) (Option.none : Option Jvm.ClassFile.FieldType)) ∈ zq_T := zq_tm 867 (by decide +kernel) (by decide +kernel)
theorem tk_868 : (Jvm.Cond.methodLink "GridRouterModel" (86 : Nat) ({ cls := "GridRouterModel", name := "many", desc := "()I" } : Jvm.MethodName)) ∈ zq_T := zq_tm 868 (by decide +kernel) (by decide +kernel)
theorem tk_870 : (Jvm.Cond.instanceMethod ({ cls := "GridRouterModel", name := "many", desc := "()I" } : Jvm.MethodName)) ∈ zq_T := zq_tm 870 (by decide +kernel) (by decide +kernel)
theorem tk_871 : (Jvm.Cond.code ({ cls := "GridRouterModel", name := "many", desc := "()I" } : Jvm.MethodName) prog_12_method_4_code (1 : Nat) (Option.some Jvm.ClassFile.FieldType.int)) ∈ zq_T := zq_tm 871 (by decide +kernel) (by decide +kernel)
theorem tk_872 : (Jvm.Cond.methodLink "GridRouterModel" (90 : Nat) ({ cls := "GridRouterModel", name := "placeOf", desc := "(I)I" } : Jvm.MethodName)) ∈ zq_T := zq_tm 872 (by decide +kernel) (by decide +kernel)
theorem tk_874 : (Jvm.Cond.instanceMethod ({ cls := "GridRouterModel", name := "placeOf", desc := "(I)I" } : Jvm.MethodName)) ∈ zq_T := zq_tm 874 (by decide +kernel) (by decide +kernel)
theorem tk_875 : (Jvm.Cond.code ({ cls := "GridRouterModel", name := "placeOf", desc := "(I)I" } : Jvm.MethodName) prog_12_method_8_code (2 : Nat) (Option.some Jvm.ClassFile.FieldType.int)) ∈ zq_T := zq_tm 875 (by decide +kernel) (by decide +kernel)
theorem tk_876 : (Jvm.Cond.methodLink "GridRouterModel" (115 : Nat) ({ cls := "GridRouterModel", name := "weigh", desc := "(IZ)V" } : Jvm.MethodName)) ∈ zq_T := zq_tm 876 (by decide +kernel) (by decide +kernel)
theorem tk_878 : (Jvm.Cond.instanceMethod ({ cls := "GridRouterModel", name := "weigh", desc := "(IZ)V" } : Jvm.MethodName)) ∈ zq_T := zq_tm 878 (by decide +kernel) (by decide +kernel)
theorem tk_879 : (Jvm.Cond.code ({ cls := "GridRouterModel", name := "weigh", desc := "(IZ)V" } : Jvm.MethodName) prog_12_method_17_code (9 : Nat) (Option.none : Option Jvm.ClassFile.FieldType)) ∈ zq_T := zq_tm 879 (by decide +kernel) (by decide +kernel)
theorem tk_880 : (Jvm.Cond.constant "GridRouterModel" (79 : Nat) (1000000 : Int32)) ∈ zq_T := zq_tm 880 (by decide +kernel) (by decide +kernel)
theorem tk_881 : (Jvm.Cond.methodLink "GridRouterModel" (94 : Nat) ({ cls := "GridRouterModel", name := "toll", desc := "(IIZ)I" } : Jvm.MethodName)) ∈ zq_T := zq_tm 881 (by decide +kernel) (by decide +kernel)
theorem tk_883 : (Jvm.Cond.instanceMethod ({ cls := "GridRouterModel", name := "toll", desc := "(IIZ)I" } : Jvm.MethodName)) ∈ zq_T := zq_tm 883 (by decide +kernel) (by decide +kernel)
theorem tk_884 : (Jvm.Cond.code ({ cls := "GridRouterModel", name := "toll", desc := "(IIZ)I" } : Jvm.MethodName) prog_12_method_12_code (4 : Nat) (Option.some Jvm.ClassFile.FieldType.int)) ∈ zq_T := zq_tm 884 (by decide +kernel) (by decide +kernel)
theorem tk_885 : (Jvm.Cond.methodLink "GridRouterModel" (80 : Nat) ({ cls := "GridRouterModel", name := "isTaken", desc := "(II)Z" } : Jvm.MethodName)) ∈ zq_T := zq_tm 885 (by decide +kernel) (by decide +kernel)
theorem tk_887 : (Jvm.Cond.instanceMethod ({ cls := "GridRouterModel", name := "isTaken", desc := "(II)Z" } : Jvm.MethodName)) ∈ zq_T := zq_tm 887 (by decide +kernel) (by decide +kernel)
theorem tk_888 : (Jvm.Cond.code ({ cls := "GridRouterModel", name := "isTaken", desc := "(II)Z" } : Jvm.MethodName) prog_12_method_11_code (6 : Nat) (Option.some Jvm.ClassFile.FieldType.boolean)) ∈ zq_T := zq_tm 888 (by decide +kernel) (by decide +kernel)
theorem tk_889 : (Jvm.Cond.methodLink "GridRouterModel" (119 : Nat) ({ cls := "GridRouterModel", name := "lay", desc := "(IZ)V" } : Jvm.MethodName)) ∈ zq_T := zq_tm 889 (by decide +kernel) (by decide +kernel)
theorem tk_891 : (Jvm.Cond.instanceMethod ({ cls := "GridRouterModel", name := "lay", desc := "(IZ)V" } : Jvm.MethodName)) ∈ zq_T := zq_tm 891 (by decide +kernel) (by decide +kernel)
theorem tk_892 : (Jvm.Cond.code ({ cls := "GridRouterModel", name := "lay", desc := "(IZ)V" } : Jvm.MethodName) prog_12_method_19_code (6 : Nat) (Option.none : Option Jvm.ClassFile.FieldType)) ∈ zq_T := zq_tm 892 (by decide +kernel) (by decide +kernel)
theorem tk_893 : (Jvm.Cond.methodLink "GridRouterModel" (98 : Nat) ({ cls := "GridRouterModel", name := "before", desc := "(IIZ)I" } : Jvm.MethodName)) ∈ zq_T := zq_tm 893 (by decide +kernel) (by decide +kernel)
theorem tk_895 : (Jvm.Cond.instanceMethod ({ cls := "GridRouterModel", name := "before", desc := "(IIZ)I" } : Jvm.MethodName)) ∈ zq_T := zq_tm 895 (by decide +kernel) (by decide +kernel)
theorem tk_896 : (Jvm.Cond.code ({ cls := "GridRouterModel", name := "before", desc := "(IIZ)I" } : Jvm.MethodName) prog_12_method_18_code (7 : Nat) (Option.some Jvm.ClassFile.FieldType.int)) ∈ zq_T := zq_tm 896 (by decide +kernel) (by decide +kernel)
theorem tk_897 : (Jvm.Cond.methodLink "GridRouterModel" (101 : Nat) ({ cls := "GridRouterModel", name := "pushOut", desc := "(II)V" } : Jvm.MethodName)) ∈ zq_T := zq_tm 897 (by decide +kernel) (by decide +kernel)
theorem tk_899 : (Jvm.Cond.instanceMethod ({ cls := "GridRouterModel", name := "pushOut", desc := "(II)V" } : Jvm.MethodName)) ∈ zq_T := zq_tm 899 (by decide +kernel) (by decide +kernel)
theorem tk_900 : (Jvm.Cond.code ({ cls := "GridRouterModel", name := "pushOut", desc := "(II)V" } : Jvm.MethodName) prog_12_method_20_code (5 : Nat) (Option.none : Option Jvm.ClassFile.FieldType)) ∈ zq_T := zq_tm 900 (by decide +kernel) (by decide +kernel)
theorem tk_901 : (Jvm.Cond.methodLink "GridRouterModel" (105 : Nat) ({ cls := "GridRouterModel", name := "leave", desc := "(II)V" } : Jvm.MethodName)) ∈ zq_T := zq_tm 901 (by decide +kernel) (by decide +kernel)
theorem tk_903 : (Jvm.Cond.instanceMethod ({ cls := "GridRouterModel", name := "leave", desc := "(II)V" } : Jvm.MethodName)) ∈ zq_T := zq_tm 903 (by decide +kernel) (by decide +kernel)
theorem tk_904 : (Jvm.Cond.code ({ cls := "GridRouterModel", name := "leave", desc := "(II)V" } : Jvm.MethodName) prog_12_method_21_code (3 : Nat) (Option.none : Option Jvm.ClassFile.FieldType)) ∈ zq_T := zq_tm 904 (by decide +kernel) (by decide +kernel)
theorem tk_917 : (Jvm.Cond.methodLink "GridRouterModel" (139 : Nat) ({ cls := "GridRouterModel", name := "standAll", desc := "(Z)V" } : Jvm.MethodName)) ∈ zq_T := zq_tm 917 (by decide +kernel) (by decide +kernel)
theorem tk_919 : (Jvm.Cond.instanceMethod ({ cls := "GridRouterModel", name := "standAll", desc := "(Z)V" } : Jvm.MethodName)) ∈ zq_T := zq_tm 919 (by decide +kernel) (by decide +kernel)
theorem tk_920 : (Jvm.Cond.code ({ cls := "GridRouterModel", name := "standAll", desc := "(Z)V" } : Jvm.MethodName) prog_12_method_28_code (5 : Nat) (Option.none : Option Jvm.ClassFile.FieldType)) ∈ zq_T := zq_tm 920 (by decide +kernel) (by decide +kernel)
theorem tk_921 : (Jvm.Cond.methodLink "GridRouterModel" (136 : Nat) ({ cls := "GridRouterModel", name := "spread", desc := "(I)I" } : Jvm.MethodName)) ∈ zq_T := zq_tm 921 (by decide +kernel) (by decide +kernel)
theorem tk_923 : (Jvm.Cond.instanceMethod ({ cls := "GridRouterModel", name := "spread", desc := "(I)I" } : Jvm.MethodName)) ∈ zq_T := zq_tm 923 (by decide +kernel) (by decide +kernel)
theorem tk_924 : (Jvm.Cond.code ({ cls := "GridRouterModel", name := "spread", desc := "(I)I" } : Jvm.MethodName) prog_12_method_27_code (4 : Nat) (Option.some Jvm.ClassFile.FieldType.int)) ∈ zq_T := zq_tm 924 (by decide +kernel) (by decide +kernel)
theorem tk_925 : (Jvm.Cond.methodLink "GridRouterModel" (130 : Nat) ({ cls := "GridRouterModel", name := "apart", desc := "(II)I" } : Jvm.MethodName)) ∈ zq_T := zq_tm 925 (by decide +kernel) (by decide +kernel)
theorem tk_926 : (Jvm.Cond.static ({ cls := "GridRouterModel", name := "apart", desc := "(II)I" } : Jvm.MethodName)) ∈ zq_T := zq_tm 926 (by decide +kernel) (by decide +kernel)
theorem tk_927 : (Jvm.Cond.code ({ cls := "GridRouterModel", name := "apart", desc := "(II)I" } : Jvm.MethodName) prog_12_method_26_code (2 : Nat) (Option.some Jvm.ClassFile.FieldType.int)) ∈ zq_T := zq_tm 927 (by decide +kernel) (by decide +kernel)
theorem tk_928 : (Jvm.Cond.methodLink "GridRouterModel" (143 : Nat) ({ cls := "GridRouterModel", name := "stands", desc := "(I)Z" } : Jvm.MethodName)) ∈ zq_T := zq_tm 928 (by decide +kernel) (by decide +kernel)
theorem tk_930 : (Jvm.Cond.instanceMethod ({ cls := "GridRouterModel", name := "stands", desc := "(I)Z" } : Jvm.MethodName)) ∈ zq_T := zq_tm 930 (by decide +kernel) (by decide +kernel)
theorem tk_931 : (Jvm.Cond.code ({ cls := "GridRouterModel", name := "stands", desc := "(I)Z" } : Jvm.MethodName) prog_12_method_29_code (4 : Nat) (Option.some Jvm.ClassFile.FieldType.boolean)) ∈ zq_T := zq_tm 931 (by decide +kernel) (by decide +kernel)
theorem tk_932 : (Jvm.Cond.methodLink "GridRouterModel" (146 : Nat) ({ cls := "GridRouterModel", name := "isJoined", desc := "(I)Z" } : Jvm.MethodName)) ∈ zq_T := zq_tm 932 (by decide +kernel) (by decide +kernel)
theorem tk_934 : (Jvm.Cond.instanceMethod ({ cls := "GridRouterModel", name := "isJoined", desc := "(I)Z" } : Jvm.MethodName)) ∈ zq_T := zq_tm 934 (by decide +kernel) (by decide +kernel)
theorem tk_935 : (Jvm.Cond.code ({ cls := "GridRouterModel", name := "isJoined", desc := "(I)Z" } : Jvm.MethodName) prog_12_method_35_code (4 : Nat) (Option.some Jvm.ClassFile.FieldType.boolean)) ∈ zq_T := zq_tm 935 (by decide +kernel) (by decide +kernel)
theorem tk_936 : (Jvm.Cond.methodLink "GridRouterModel" (152 : Nat) ({ cls := "GridRouterModel", name := "touches", desc := "(I)Z" } : Jvm.MethodName)) ∈ zq_T := zq_tm 936 (by decide +kernel) (by decide +kernel)
theorem tk_938 : (Jvm.Cond.instanceMethod ({ cls := "GridRouterModel", name := "touches", desc := "(I)Z" } : Jvm.MethodName)) ∈ zq_T := zq_tm 938 (by decide +kernel) (by decide +kernel)
theorem tk_939 : (Jvm.Cond.code ({ cls := "GridRouterModel", name := "touches", desc := "(I)Z" } : Jvm.MethodName) prog_12_method_36_code (5 : Nat) (Option.some Jvm.ClassFile.FieldType.boolean)) ∈ zq_T := zq_tm 939 (by decide +kernel) (by decide +kernel)
theorem tk_940 : (Jvm.Cond.methodLink "GridRouterModel" (149 : Nat) ({ cls := "GridRouterModel", name := "countOpen", desc := "()I" } : Jvm.MethodName)) ∈ zq_T := zq_tm 940 (by decide +kernel) (by decide +kernel)
theorem tk_942 : (Jvm.Cond.instanceMethod ({ cls := "GridRouterModel", name := "countOpen", desc := "()I" } : Jvm.MethodName)) ∈ zq_T := zq_tm 942 (by decide +kernel) (by decide +kernel)
theorem tk_943 : (Jvm.Cond.code ({ cls := "GridRouterModel", name := "countOpen", desc := "()I" } : Jvm.MethodName) prog_12_method_37_code (3 : Nat) (Option.some Jvm.ClassFile.FieldType.int)) ∈ zq_T := zq_tm 943 (by decide +kernel) (by decide +kernel)
theorem tk_964 : (Jvm.Cond.methodLink "GridRouterModel" (155 : Nat) ({ cls := "GridRouterModel", name := "countNear", desc := "()I" } : Jvm.MethodName)) ∈ zq_T := zq_tm 964 (by decide +kernel) (by decide +kernel)
theorem tk_966 : (Jvm.Cond.instanceMethod ({ cls := "GridRouterModel", name := "countNear", desc := "()I" } : Jvm.MethodName)) ∈ zq_T := zq_tm 966 (by decide +kernel) (by decide +kernel)
theorem tk_967 : (Jvm.Cond.code ({ cls := "GridRouterModel", name := "countNear", desc := "()I" } : Jvm.MethodName) prog_12_method_38_code (5 : Nat) (Option.some Jvm.ClassFile.FieldType.int)) ∈ zq_T := zq_tm 967 (by decide +kernel) (by decide +kernel)
theorem tk_972 : (Jvm.Cond.methodLink "GridRouterModel" (158 : Nat) ({ cls := "GridRouterModel", name := "begins", desc := "(I)Z" } : Jvm.MethodName)) ∈ zq_T := zq_tm 972 (by decide +kernel) (by decide +kernel)
theorem tk_974 : (Jvm.Cond.instanceMethod ({ cls := "GridRouterModel", name := "begins", desc := "(I)Z" } : Jvm.MethodName)) ∈ zq_T := zq_tm 974 (by decide +kernel) (by decide +kernel)
theorem tk_975 : (Jvm.Cond.code ({ cls := "GridRouterModel", name := "begins", desc := "(I)Z" } : Jvm.MethodName) prog_12_method_40_code (2 : Nat) (Option.some Jvm.ClassFile.FieldType.boolean)) ∈ zq_T := zq_tm 975 (by decide +kernel) (by decide +kernel)
theorem tk_980 : (Jvm.Cond.methodLink "GridRouterModel" (161 : Nat) ({ cls := "GridRouterModel", name := "fail", desc := "(I)I" } : Jvm.MethodName)) ∈ zq_T := zq_tm 980 (by decide +kernel) (by decide +kernel)
theorem tk_982 : (Jvm.Cond.instanceMethod ({ cls := "GridRouterModel", name := "fail", desc := "(I)I" } : Jvm.MethodName)) ∈ zq_T := zq_tm 982 (by decide +kernel) (by decide +kernel)
theorem tk_983 : (Jvm.Cond.code ({ cls := "GridRouterModel", name := "fail", desc := "(I)I" } : Jvm.MethodName) prog_12_method_3_code (2 : Nat) (Option.some Jvm.ClassFile.FieldType.int)) ∈ zq_T := zq_tm 983 (by decide +kernel) (by decide +kernel)
theorem ts_23 : Cond.selects "GridRouter$Checker" ({ cls := "GridRouter$Checker", name := "badVias", desc := "()I" } : Jvm.MethodName) ({ cls := "GridRouter$Checker", name := "badVias", desc := "()I" } : Jvm.MethodName) ∈ zq_T := zq_ts 23 (by decide +kernel) (by decide +kernel)
theorem ts_22 : Cond.selects "GridRouter$Checker" ({ cls := "GridRouter$Checker", name := "clash", desc := "(II)I" } : Jvm.MethodName) ({ cls := "GridRouter$Checker", name := "clash", desc := "(II)I" } : Jvm.MethodName) ∈ zq_T := zq_ts 22 (by decide +kernel) (by decide +kernel)
theorem ts_21 : Cond.selects "GridRouter$Checker" ({ cls := "GridRouter$Checker", name := "crowded", desc := "()I" } : Jvm.MethodName) ({ cls := "GridRouter$Checker", name := "crowded", desc := "()I" } : Jvm.MethodName) ∈ zq_T := zq_ts 21 (by decide +kernel) (by decide +kernel)
theorem ts_20 : Cond.selects "GridRouter$Checker" ({ cls := "GridRouter$Checker", name := "misplaced", desc := "()I" } : Jvm.MethodName) ({ cls := "GridRouter$Checker", name := "misplaced", desc := "()I" } : Jvm.MethodName) ∈ zq_T := zq_ts 20 (by decide +kernel) (by decide +kernel)
theorem ts_19 : Cond.selects "GridRouter$Checker" ({ cls := "GridRouter$Checker", name := "reachFrom", desc := "(II)V" } : Jvm.MethodName) ({ cls := "GridRouter$Checker", name := "reachFrom", desc := "(II)V" } : Jvm.MethodName) ∈ zq_T := zq_ts 19 (by decide +kernel) (by decide +kernel)
theorem ts_18 : Cond.selects "GridRouter$Checker" ({ cls := "GridRouter$Checker", name := "reach", desc := "(II)V" } : Jvm.MethodName) ({ cls := "GridRouter$Checker", name := "reach", desc := "(II)V" } : Jvm.MethodName) ∈ zq_T := zq_ts 18 (by decide +kernel) (by decide +kernel)
theorem ts_13 : Cond.selects "GridRouter$Router" ({ cls := "GridRouter$Router", name := "layWay", desc := "(I)V" } : Jvm.MethodName) ({ cls := "GridRouter$Router", name := "layWay", desc := "(I)V" } : Jvm.MethodName) ∈ zq_T := zq_ts 13 (by decide +kernel) (by decide +kernel)
theorem ts_17 : Cond.selects "GridRouter$Router" ({ cls := "GridRouter$Router", name := "lineUpPushedOut", desc := "()V" } : Jvm.MethodName) ({ cls := "GridRouter$Router", name := "lineUpPushedOut", desc := "()V" } : Jvm.MethodName) ∈ zq_T := zq_ts 17 (by decide +kernel) (by decide +kernel)
theorem ts_15 : Cond.selects "GridRouter$Router" ({ cls := "GridRouter$Router", name := "markHolder", desc := "(II)V" } : Jvm.MethodName) ({ cls := "GridRouter$Router", name := "markHolder", desc := "(II)V" } : Jvm.MethodName) ∈ zq_T := zq_ts 15 (by decide +kernel) (by decide +kernel)
theorem ts_14 : Cond.selects "GridRouter$Router" ({ cls := "GridRouter$Router", name := "markPushedOut", desc := "(I)V" } : Jvm.MethodName) ({ cls := "GridRouter$Router", name := "markPushedOut", desc := "(I)V" } : Jvm.MethodName) ∈ zq_T := zq_ts 14 (by decide +kernel) (by decide +kernel)
theorem ts_16 : Cond.selects "GridRouter$Router" ({ cls := "GridRouter$Router", name := "stripPushedOut", desc := "()V" } : Jvm.MethodName) ({ cls := "GridRouter$Router", name := "stripPushedOut", desc := "()V" } : Jvm.MethodName) ∈ zq_T := zq_ts 16 (by decide +kernel) (by decide +kernel)
theorem ts_3 : Cond.selects "GridRouter$Rules" ({ cls := "GridRouter$Rules", name := "isClose", desc := "([III)Z" } : Jvm.MethodName) ({ cls := "GridRouter$Rules", name := "isClose", desc := "([III)Z" } : Jvm.MethodName) ∈ zq_T := zq_ts 3 (by decide +kernel) (by decide +kernel)
theorem ts_1 : Cond.selects "GridRouter$Shapes" ({ cls := "GridRouter$Shapes", name := "isStart", desc := "(I)Z" } : Jvm.MethodName) ({ cls := "GridRouter$Shapes", name := "isStart", desc := "(I)Z" } : Jvm.MethodName) ∈ zq_T := zq_ts 1 (by decide +kernel) (by decide +kernel)
theorem ts_24 : Cond.selects "GridRouter$Shapes" ({ cls := "GridRouter$Shapes", name := "lastX", desc := "(I)I" } : Jvm.MethodName) ({ cls := "GridRouter$Shapes", name := "lastX", desc := "(I)I" } : Jvm.MethodName) ∈ zq_T := zq_ts 24 (by decide +kernel) (by decide +kernel)
theorem ts_8 : Cond.selects "GridRouter$WayFinder" ({ cls := "GridRouter$WayFinder", name := "dequeue", desc := "()I" } : Jvm.MethodName) ({ cls := "GridRouter$WayFinder", name := "dequeue", desc := "()I" } : Jvm.MethodName) ∈ zq_T := zq_ts 8 (by decide +kernel) (by decide +kernel)
theorem ts_7 : Cond.selects "GridRouter$WayFinder" ({ cls := "GridRouter$WayFinder", name := "enqueue", desc := "(I)V" } : Jvm.MethodName) ({ cls := "GridRouter$WayFinder", name := "enqueue", desc := "(I)V" } : Jvm.MethodName) ∈ zq_T := zq_ts 7 (by decide +kernel) (by decide +kernel)
theorem ts_5 : Cond.selects "GridRouter$WayFinder" ({ cls := "GridRouter$WayFinder", name := "freeToll", desc := "(II)I" } : Jvm.MethodName) ({ cls := "GridRouter$WayFinder", name := "freeToll", desc := "(II)I" } : Jvm.MethodName) ∈ zq_T := zq_ts 5 (by decide +kernel) (by decide +kernel)
theorem ts_12 : Cond.selects "GridRouter$WayFinder" ({ cls := "GridRouter$WayFinder", name := "predecessor", desc := "(I)I" } : Jvm.MethodName) ({ cls := "GridRouter$WayFinder", name := "predecessor", desc := "(I)I" } : Jvm.MethodName) ∈ zq_T := zq_ts 12 (by decide +kernel) (by decide +kernel)
theorem ts_4 : Cond.selects "GridRouter$WayFinder" ({ cls := "GridRouter$WayFinder", name := "pushToll", desc := "(II)I" } : Jvm.MethodName) ({ cls := "GridRouter$WayFinder", name := "pushToll", desc := "(II)I" } : Jvm.MethodName) ∈ zq_T := zq_ts 4 (by decide +kernel) (by decide +kernel)
theorem ts_9 : Cond.selects "GridRouter$WayFinder" ({ cls := "GridRouter$WayFinder", name := "spreadFrom", desc := "(I)V" } : Jvm.MethodName) ({ cls := "GridRouter$WayFinder", name := "spreadFrom", desc := "(I)V" } : Jvm.MethodName) ∈ zq_T := zq_ts 9 (by decide +kernel) (by decide +kernel)
theorem ts_6 : Cond.selects "GridRouter$WayFinder" ({ cls := "GridRouter$WayFinder", name := "spread", desc := "(I)V" } : Jvm.MethodName) ({ cls := "GridRouter$WayFinder", name := "spread", desc := "(I)V" } : Jvm.MethodName) ∈ zq_T := zq_ts 6 (by decide +kernel) (by decide +kernel)
theorem ts_10 : Cond.selects "GridRouter$WayFinder" ({ cls := "GridRouter$WayFinder", name := "stepCost", desc := "(I)I" } : Jvm.MethodName) ({ cls := "GridRouter$WayFinder", name := "stepCost", desc := "(I)I" } : Jvm.MethodName) ∈ zq_T := zq_ts 10 (by decide +kernel) (by decide +kernel)
theorem ts_11 : Cond.selects "GridRouter$WayFinder" ({ cls := "GridRouter$WayFinder", name := "trace", desc := "(II)V" } : Jvm.MethodName) ({ cls := "GridRouter$WayFinder", name := "trace", desc := "(II)V" } : Jvm.MethodName) ∈ zq_T := zq_ts 11 (by decide +kernel) (by decide +kernel)
theorem ts_25 : Cond.selects "GridRouterModel" ({ cls := "GridRouterModel", name := "at", desc := "(III)I" } : Jvm.MethodName) ({ cls := "GridRouterModel", name := "at", desc := "(III)I" } : Jvm.MethodName) ∈ zq_T := zq_ts 25 (by decide +kernel) (by decide +kernel)
theorem ts_38 : Cond.selects "GridRouterModel" ({ cls := "GridRouterModel", name := "before", desc := "(IIZ)I" } : Jvm.MethodName) ({ cls := "GridRouterModel", name := "before", desc := "(IIZ)I" } : Jvm.MethodName) ∈ zq_T := zq_ts 38 (by decide +kernel) (by decide +kernel)
theorem ts_48 : Cond.selects "GridRouterModel" ({ cls := "GridRouterModel", name := "begins", desc := "(I)Z" } : Jvm.MethodName) ({ cls := "GridRouterModel", name := "begins", desc := "(I)Z" } : Jvm.MethodName) ∈ zq_T := zq_ts 48 (by decide +kernel) (by decide +kernel)
theorem ts_31 : Cond.selects "GridRouterModel" ({ cls := "GridRouterModel", name := "clear", desc := "(I)V" } : Jvm.MethodName) ({ cls := "GridRouterModel", name := "clear", desc := "(I)V" } : Jvm.MethodName) ∈ zq_T := zq_ts 31 (by decide +kernel) (by decide +kernel)
theorem ts_47 : Cond.selects "GridRouterModel" ({ cls := "GridRouterModel", name := "countNear", desc := "()I" } : Jvm.MethodName) ({ cls := "GridRouterModel", name := "countNear", desc := "()I" } : Jvm.MethodName) ∈ zq_T := zq_ts 47 (by decide +kernel) (by decide +kernel)
theorem ts_46 : Cond.selects "GridRouterModel" ({ cls := "GridRouterModel", name := "countOpen", desc := "()I" } : Jvm.MethodName) ({ cls := "GridRouterModel", name := "countOpen", desc := "()I" } : Jvm.MethodName) ∈ zq_T := zq_ts 46 (by decide +kernel) (by decide +kernel)
theorem ts_49 : Cond.selects "GridRouterModel" ({ cls := "GridRouterModel", name := "fail", desc := "(I)I" } : Jvm.MethodName) ({ cls := "GridRouterModel", name := "fail", desc := "(I)I" } : Jvm.MethodName) ∈ zq_T := zq_ts 49 (by decide +kernel) (by decide +kernel)
theorem ts_30 : Cond.selects "GridRouterModel" ({ cls := "GridRouterModel", name := "find", desc := "(IZ)I" } : Jvm.MethodName) ({ cls := "GridRouterModel", name := "find", desc := "(IZ)I" } : Jvm.MethodName) ∈ zq_T := zq_ts 30 (by decide +kernel) (by decide +kernel)
theorem ts_27 : Cond.selects "GridRouterModel" ({ cls := "GridRouterModel", name := "isBarred", desc := "(II)Z" } : Jvm.MethodName) ({ cls := "GridRouterModel", name := "isBarred", desc := "(II)Z" } : Jvm.MethodName) ∈ zq_T := zq_ts 27 (by decide +kernel) (by decide +kernel)
theorem ts_44 : Cond.selects "GridRouterModel" ({ cls := "GridRouterModel", name := "isJoined", desc := "(I)Z" } : Jvm.MethodName) ({ cls := "GridRouterModel", name := "isJoined", desc := "(I)Z" } : Jvm.MethodName) ∈ zq_T := zq_ts 44 (by decide +kernel) (by decide +kernel)
theorem ts_29 : Cond.selects "GridRouterModel" ({ cls := "GridRouterModel", name := "isNet", desc := "(I)Z" } : Jvm.MethodName) ({ cls := "GridRouterModel", name := "isNet", desc := "(I)Z" } : Jvm.MethodName) ∈ zq_T := zq_ts 29 (by decide +kernel) (by decide +kernel)
theorem ts_26 : Cond.selects "GridRouterModel" ({ cls := "GridRouterModel", name := "isPlace", desc := "(II)Z" } : Jvm.MethodName) ({ cls := "GridRouterModel", name := "isPlace", desc := "(II)Z" } : Jvm.MethodName) ∈ zq_T := zq_ts 26 (by decide +kernel) (by decide +kernel)
theorem ts_36 : Cond.selects "GridRouterModel" ({ cls := "GridRouterModel", name := "isTaken", desc := "(II)Z" } : Jvm.MethodName) ({ cls := "GridRouterModel", name := "isTaken", desc := "(II)Z" } : Jvm.MethodName) ∈ zq_T := zq_ts 36 (by decide +kernel) (by decide +kernel)
theorem ts_37 : Cond.selects "GridRouterModel" ({ cls := "GridRouterModel", name := "lay", desc := "(IZ)V" } : Jvm.MethodName) ({ cls := "GridRouterModel", name := "lay", desc := "(IZ)V" } : Jvm.MethodName) ∈ zq_T := zq_ts 37 (by decide +kernel) (by decide +kernel)
theorem ts_40 : Cond.selects "GridRouterModel" ({ cls := "GridRouterModel", name := "leave", desc := "(II)V" } : Jvm.MethodName) ({ cls := "GridRouterModel", name := "leave", desc := "(II)V" } : Jvm.MethodName) ∈ zq_T := zq_ts 40 (by decide +kernel) (by decide +kernel)
theorem ts_32 : Cond.selects "GridRouterModel" ({ cls := "GridRouterModel", name := "many", desc := "()I" } : Jvm.MethodName) ({ cls := "GridRouterModel", name := "many", desc := "()I" } : Jvm.MethodName) ∈ zq_T := zq_ts 32 (by decide +kernel) (by decide +kernel)
theorem ts_33 : Cond.selects "GridRouterModel" ({ cls := "GridRouterModel", name := "placeOf", desc := "(I)I" } : Jvm.MethodName) ({ cls := "GridRouterModel", name := "placeOf", desc := "(I)I" } : Jvm.MethodName) ∈ zq_T := zq_ts 33 (by decide +kernel) (by decide +kernel)
theorem ts_39 : Cond.selects "GridRouterModel" ({ cls := "GridRouterModel", name := "pushOut", desc := "(II)V" } : Jvm.MethodName) ({ cls := "GridRouterModel", name := "pushOut", desc := "(II)V" } : Jvm.MethodName) ∈ zq_T := zq_ts 39 (by decide +kernel) (by decide +kernel)
theorem ts_28 : Cond.selects "GridRouterModel" ({ cls := "GridRouterModel", name := "side", desc := "(II)I" } : Jvm.MethodName) ({ cls := "GridRouterModel", name := "side", desc := "(II)I" } : Jvm.MethodName) ∈ zq_T := zq_ts 28 (by decide +kernel) (by decide +kernel)
theorem ts_42 : Cond.selects "GridRouterModel" ({ cls := "GridRouterModel", name := "spread", desc := "(I)I" } : Jvm.MethodName) ({ cls := "GridRouterModel", name := "spread", desc := "(I)I" } : Jvm.MethodName) ∈ zq_T := zq_ts 42 (by decide +kernel) (by decide +kernel)
theorem ts_41 : Cond.selects "GridRouterModel" ({ cls := "GridRouterModel", name := "standAll", desc := "(Z)V" } : Jvm.MethodName) ({ cls := "GridRouterModel", name := "standAll", desc := "(Z)V" } : Jvm.MethodName) ∈ zq_T := zq_ts 41 (by decide +kernel) (by decide +kernel)
theorem ts_43 : Cond.selects "GridRouterModel" ({ cls := "GridRouterModel", name := "stands", desc := "(I)Z" } : Jvm.MethodName) ({ cls := "GridRouterModel", name := "stands", desc := "(I)Z" } : Jvm.MethodName) ∈ zq_T := zq_ts 43 (by decide +kernel) (by decide +kernel)
theorem ts_35 : Cond.selects "GridRouterModel" ({ cls := "GridRouterModel", name := "toll", desc := "(IIZ)I" } : Jvm.MethodName) ({ cls := "GridRouterModel", name := "toll", desc := "(IIZ)I" } : Jvm.MethodName) ∈ zq_T := zq_ts 35 (by decide +kernel) (by decide +kernel)
theorem ts_45 : Cond.selects "GridRouterModel" ({ cls := "GridRouterModel", name := "touches", desc := "(I)Z" } : Jvm.MethodName) ({ cls := "GridRouterModel", name := "touches", desc := "(I)Z" } : Jvm.MethodName) ∈ zq_T := zq_ts 45 (by decide +kernel) (by decide +kernel)
theorem ts_34 : Cond.selects "GridRouterModel" ({ cls := "GridRouterModel", name := "weigh", desc := "(IZ)V" } : Jvm.MethodName) ({ cls := "GridRouterModel", name := "weigh", desc := "(IZ)V" } : Jvm.MethodName) ∈ zq_T := zq_ts 34 (by decide +kernel) (by decide +kernel)
theorem zi0 : ∀ t ∈ u_ws "GridRouter" zT0 7, t ∈ zq_T := by
  intro t ht
  have e : u_ws "GridRouter" zT0 7 = [u_lay "GridRouter" zT0 0, u_lay "GridRouter" zT0 1, u_lay "GridRouter" zT0 2, u_lay "GridRouter" zT0 3, u_lay "GridRouter" zT0 4, u_lay "GridRouter" zT0 5, u_lay "GridRouter" zT0 6] := rfl
  rw [e] at ht
  simp only [List.mem_cons, List.not_mem_nil, or_false] at ht
  rcases ht with rfl | rfl | rfl | rfl | rfl | rfl | rfl
  · exact tk_306
  · exact tk_308
  · exact tk_310
  · exact tk_312
  · exact tk_314
  · exact tk_316
  · exact tk_318
theorem zi1 : ∀ t ∈ u_ws "GridRouter$Grid" zT1 7, t ∈ zq_T := by
  intro t ht
  have e : u_ws "GridRouter$Grid" zT1 7 = [u_lay "GridRouter$Grid" zT1 0, u_lay "GridRouter$Grid" zT1 1, u_lay "GridRouter$Grid" zT1 2, u_lay "GridRouter$Grid" zT1 3, u_lay "GridRouter$Grid" zT1 4, u_lay "GridRouter$Grid" zT1 5, u_lay "GridRouter$Grid" zT1 6] := rfl
  rw [e] at ht
  simp only [List.mem_cons, List.not_mem_nil, or_false] at ht
  rcases ht with rfl | rfl | rfl | rfl | rfl | rfl | rfl
  · exact tk_60
  · exact tk_62
  · exact tk_64
  · exact tk_66
  · exact tk_68
  · exact tk_70
  · exact tk_72
theorem zi2 : ∀ t ∈ u_ws "GridRouter$Nets" zT2 5, t ∈ zq_T := by
  intro t ht
  have e : u_ws "GridRouter$Nets" zT2 5 = [u_lay "GridRouter$Nets" zT2 0, u_lay "GridRouter$Nets" zT2 1, u_lay "GridRouter$Nets" zT2 2, u_lay "GridRouter$Nets" zT2 3, u_lay "GridRouter$Nets" zT2 4] := rfl
  rw [e] at ht
  simp only [List.mem_cons, List.not_mem_nil, or_false] at ht
  rcases ht with rfl | rfl | rfl | rfl | rfl
  · exact tk_103
  · exact tk_105
  · exact tk_107
  · exact tk_109
  · exact tk_111
theorem zi3 : ∀ t ∈ u_ws "GridRouter$Layout" zT3 4, t ∈ zq_T := by
  intro t ht
  have e : u_ws "GridRouter$Layout" zT3 4 = [u_lay "GridRouter$Layout" zT3 0, u_lay "GridRouter$Layout" zT3 1, u_lay "GridRouter$Layout" zT3 2, u_lay "GridRouter$Layout" zT3 3] := rfl
  rw [e] at ht
  simp only [List.mem_cons, List.not_mem_nil, or_false] at ht
  rcases ht with rfl | rfl | rfl | rfl
  · exact tk_133
  · exact tk_135
  · exact tk_137
  · exact tk_139
theorem zi4 : ∀ t ∈ u_ws "GridRouter$Rules" zT4 5, t ∈ zq_T := by
  intro t ht
  have e : u_ws "GridRouter$Rules" zT4 5 = [u_lay "GridRouter$Rules" zT4 0, u_lay "GridRouter$Rules" zT4 1, u_lay "GridRouter$Rules" zT4 2, u_lay "GridRouter$Rules" zT4 3, u_lay "GridRouter$Rules" zT4 4] := rfl
  rw [e] at ht
  simp only [List.mem_cons, List.not_mem_nil, or_false] at ht
  rcases ht with rfl | rfl | rfl | rfl | rfl
  · exact tk_158
  · exact tk_160
  · exact tk_162
  · exact tk_164
  · exact tk_166
theorem zi5 : ∀ t ∈ u_ws "GridRouter$Checker" zT5 7, t ∈ zq_T := by
  intro t ht
  have e : u_ws "GridRouter$Checker" zT5 7 = [u_lay "GridRouter$Checker" zT5 0, u_lay "GridRouter$Checker" zT5 1, u_lay "GridRouter$Checker" zT5 2, u_lay "GridRouter$Checker" zT5 3, u_lay "GridRouter$Checker" zT5 4, u_lay "GridRouter$Checker" zT5 5, u_lay "GridRouter$Checker" zT5 6] := rfl
  rw [e] at ht
  simp only [List.mem_cons, List.not_mem_nil, or_false] at ht
  rcases ht with rfl | rfl | rfl | rfl | rfl | rfl | rfl
  · exact tk_182
  · exact tk_184
  · exact tk_186
  · exact tk_188
  · exact tk_190
  · exact tk_192
  · exact tk_194
theorem zi6 : ∀ t ∈ u_ws "GridRouter$Router" zT6 8, t ∈ zq_T := by
  intro t ht
  have e : u_ws "GridRouter$Router" zT6 8 = [u_lay "GridRouter$Router" zT6 0, u_lay "GridRouter$Router" zT6 1, u_lay "GridRouter$Router" zT6 2, u_lay "GridRouter$Router" zT6 3, u_lay "GridRouter$Router" zT6 4, u_lay "GridRouter$Router" zT6 5, u_lay "GridRouter$Router" zT6 6, u_lay "GridRouter$Router" zT6 7] := rfl
  rw [e] at ht
  simp only [List.mem_cons, List.not_mem_nil, or_false] at ht
  rcases ht with rfl | rfl | rfl | rfl | rfl | rfl | rfl | rfl
  · exact tk_269
  · exact tk_271
  · exact tk_273
  · exact tk_275
  · exact tk_277
  · exact tk_279
  · exact tk_281
  · exact tk_283
theorem zi7 : ∀ t ∈ u_ws "GridRouter$Line" zT7 2, t ∈ zq_T := by
  intro t ht
  have e : u_ws "GridRouter$Line" zT7 2 = [u_lay "GridRouter$Line" zT7 0, u_lay "GridRouter$Line" zT7 1] := rfl
  rw [e] at ht
  simp only [List.mem_cons, List.not_mem_nil, or_false] at ht
  rcases ht with rfl | rfl
  · exact tk_211
  · exact tk_213
theorem zi8 : ∀ t ∈ u_ws "GridRouter$WayFinder" zT8 12, t ∈ zq_T := by
  intro t ht
  have e : u_ws "GridRouter$WayFinder" zT8 12 = [u_lay "GridRouter$WayFinder" zT8 0, u_lay "GridRouter$WayFinder" zT8 1, u_lay "GridRouter$WayFinder" zT8 2, u_lay "GridRouter$WayFinder" zT8 3, u_lay "GridRouter$WayFinder" zT8 4, u_lay "GridRouter$WayFinder" zT8 5, u_lay "GridRouter$WayFinder" zT8 6, u_lay "GridRouter$WayFinder" zT8 7, u_lay "GridRouter$WayFinder" zT8 8, u_lay "GridRouter$WayFinder" zT8 9, u_lay "GridRouter$WayFinder" zT8 10, u_lay "GridRouter$WayFinder" zT8 11] := rfl
  rw [e] at ht
  simp only [List.mem_cons, List.not_mem_nil, or_false] at ht
  rcases ht with rfl | rfl | rfl | rfl | rfl | rfl | rfl | rfl | rfl | rfl | rfl | rfl
  · exact tk_236
  · exact tk_238
  · exact tk_240
  · exact tk_242
  · exact tk_244
  · exact tk_246
  · exact tk_248
  · exact tk_250
  · exact tk_252
  · exact tk_254
  · exact tk_256
  · exact tk_258
theorem zi9 : ∀ t ∈ u_ws "GridRouter$Shapes" zT9 2, t ∈ zq_T := by
  intro t ht
  have e : u_ws "GridRouter$Shapes" zT9 2 = [u_lay "GridRouter$Shapes" zT9 0, u_lay "GridRouter$Shapes" zT9 1] := rfl
  rw [e] at ht
  simp only [List.mem_cons, List.not_mem_nil, or_false] at ht
  rcases ht with rfl | rfl
  · exact tk_294
  · exact tk_296
theorem zi10 : ∀ t ∈ u_ws "GridRouterModel" zT10 19, t ∈ zq_T := by
  intro t ht
  have e : u_ws "GridRouterModel" zT10 19 = [u_lay "GridRouterModel" zT10 0, u_lay "GridRouterModel" zT10 1, u_lay "GridRouterModel" zT10 2, u_lay "GridRouterModel" zT10 3, u_lay "GridRouterModel" zT10 4, u_lay "GridRouterModel" zT10 5, u_lay "GridRouterModel" zT10 6, u_lay "GridRouterModel" zT10 7, u_lay "GridRouterModel" zT10 8, u_lay "GridRouterModel" zT10 9, u_lay "GridRouterModel" zT10 10, u_lay "GridRouterModel" zT10 11, u_lay "GridRouterModel" zT10 12, u_lay "GridRouterModel" zT10 13, u_lay "GridRouterModel" zT10 14, u_lay "GridRouterModel" zT10 15, u_lay "GridRouterModel" zT10 16, u_lay "GridRouterModel" zT10 17, u_lay "GridRouterModel" zT10 18] := rfl
  rw [e] at ht
  simp only [List.mem_cons, List.not_mem_nil, or_false] at ht
  rcases ht with rfl | rfl | rfl | rfl | rfl | rfl | rfl | rfl | rfl | rfl | rfl | rfl | rfl | rfl | rfl | rfl | rfl | rfl | rfl
  · exact tk_782
  · exact tk_784
  · exact tk_786
  · exact tk_788
  · exact tk_790
  · exact tk_792
  · exact tk_794
  · exact tk_796
  · exact tk_798
  · exact tk_800
  · exact tk_802
  · exact tk_804
  · exact tk_806
  · exact tk_808
  · exact tk_810
  · exact tk_812
  · exact tk_814
  · exact tk_816
  · exact tk_818
theorem zd_Gr_block : zy_Gr_block.cls ≠ "java/lang/invoke/MethodHandle" ∧ zy_Gr_block.cls ≠ "java/lang/invoke/VarHandle" ∧ (parseMethodDescriptor zy_Gr_block.desc).map (fun d => d.parameters.length) = some 3 := by decide +kernel
theorem zd_Gr_net : zy_Gr_net.cls ≠ "java/lang/invoke/MethodHandle" ∧ zy_Gr_net.cls ≠ "java/lang/invoke/VarHandle" ∧ (parseMethodDescriptor zy_Gr_net.desc).map (fun d => d.parameters.length) = some 6 := by decide +kernel
theorem zd_Gr_route : zy_Gr_route.cls ≠ "java/lang/invoke/MethodHandle" ∧ zy_Gr_route.cls ≠ "java/lang/invoke/VarHandle" ∧ (parseMethodDescriptor zy_Gr_route.desc).map (fun d => d.parameters.length) = some 1 := by decide +kernel
theorem zd_Gr_push : zy_Gr_push.cls ≠ "java/lang/invoke/MethodHandle" ∧ zy_Gr_push.cls ≠ "java/lang/invoke/VarHandle" ∧ (parseMethodDescriptor zy_Gr_push.desc).map (fun d => d.parameters.length) = some 1 := by decide +kernel
theorem zd_Gr_all : zy_Gr_all.cls ≠ "java/lang/invoke/MethodHandle" ∧ zy_Gr_all.cls ≠ "java/lang/invoke/VarHandle" ∧ (parseMethodDescriptor zy_Gr_all.desc).map (fun d => d.parameters.length) = some 2 := by decide +kernel
theorem zd_Gr_rip : zy_Gr_rip.cls ≠ "java/lang/invoke/MethodHandle" ∧ zy_Gr_rip.cls ≠ "java/lang/invoke/VarHandle" ∧ (parseMethodDescriptor zy_Gr_rip.desc).map (fun d => d.parameters.length) = some 1 := by decide +kernel
theorem zd_Gr_paint : zy_Gr_paint.cls ≠ "java/lang/invoke/MethodHandle" ∧ zy_Gr_paint.cls ≠ "java/lang/invoke/VarHandle" ∧ (parseMethodDescriptor zy_Gr_paint.desc).map (fun d => d.parameters.length) = some 4 := by decide +kernel
theorem zd_Gr_stitch : zy_Gr_stitch.cls ≠ "java/lang/invoke/MethodHandle" ∧ zy_Gr_stitch.cls ≠ "java/lang/invoke/VarHandle" ∧ (parseMethodDescriptor zy_Gr_stitch.desc).map (fun d => d.parameters.length) = some 2 := by decide +kernel
theorem zd_Gr_cell : zy_Gr_cell.cls ≠ "java/lang/invoke/MethodHandle" ∧ zy_Gr_cell.cls ≠ "java/lang/invoke/VarHandle" ∧ (parseMethodDescriptor zy_Gr_cell.desc).map (fun d => d.parameters.length) = some 3 := by decide +kernel
theorem zd_Gr_via : zy_Gr_via.cls ≠ "java/lang/invoke/MethodHandle" ∧ zy_Gr_via.cls ≠ "java/lang/invoke/VarHandle" ∧ (parseMethodDescriptor zy_Gr_via.desc).map (fun d => d.parameters.length) = some 2 := by decide +kernel
theorem zd_Gr_faults : zy_Gr_faults.cls ≠ "java/lang/invoke/MethodHandle" ∧ zy_Gr_faults.cls ≠ "java/lang/invoke/VarHandle" ∧ (parseMethodDescriptor zy_Gr_faults.desc).map (fun d => d.parameters.length) = some 1 := by decide +kernel
theorem zd_Gr_shapes : zy_Gr_shapes.cls ≠ "java/lang/invoke/MethodHandle" ∧ zy_Gr_shapes.cls ≠ "java/lang/invoke/VarHandle" ∧ (parseMethodDescriptor zy_Gr_shapes.desc).map (fun d => d.parameters.length) = some 0 := by decide +kernel
theorem zd_Gr_shape : zy_Gr_shape.cls ≠ "java/lang/invoke/MethodHandle" ∧ zy_Gr_shape.cls ≠ "java/lang/invoke/VarHandle" ∧ (parseMethodDescriptor zy_Gr_shape.desc).map (fun d => d.parameters.length) = some 2 := by decide +kernel
theorem zd_Mo_thrown : zy_Mo_thrown.cls ≠ "java/lang/invoke/MethodHandle" ∧ zy_Mo_thrown.cls ≠ "java/lang/invoke/VarHandle" ∧ (parseMethodDescriptor zy_Mo_thrown.desc).map (fun d => d.parameters.length) = some 0 := by decide +kernel
theorem zd_Mo_fail : zy_Mo_fail.cls ≠ "java/lang/invoke/MethodHandle" ∧ zy_Mo_fail.cls ≠ "java/lang/invoke/VarHandle" ∧ (parseMethodDescriptor zy_Mo_fail.desc).map (fun d => d.parameters.length) = some 1 := by decide +kernel
theorem zd_Mo_many : zy_Mo_many.cls ≠ "java/lang/invoke/MethodHandle" ∧ zy_Mo_many.cls ≠ "java/lang/invoke/VarHandle" ∧ (parseMethodDescriptor zy_Mo_many.desc).map (fun d => d.parameters.length) = some 0 := by decide +kernel
theorem zd_Mo_isPlace : zy_Mo_isPlace.cls ≠ "java/lang/invoke/MethodHandle" ∧ zy_Mo_isPlace.cls ≠ "java/lang/invoke/VarHandle" ∧ (parseMethodDescriptor zy_Mo_isPlace.desc).map (fun d => d.parameters.length) = some 2 := by decide +kernel
theorem zd_Mo_at : zy_Mo_at.cls ≠ "java/lang/invoke/MethodHandle" ∧ zy_Mo_at.cls ≠ "java/lang/invoke/VarHandle" ∧ (parseMethodDescriptor zy_Mo_at.desc).map (fun d => d.parameters.length) = some 3 := by decide +kernel
theorem zd_Mo_side : zy_Mo_side.cls ≠ "java/lang/invoke/MethodHandle" ∧ zy_Mo_side.cls ≠ "java/lang/invoke/VarHandle" ∧ (parseMethodDescriptor zy_Mo_side.desc).map (fun d => d.parameters.length) = some 2 := by decide +kernel
theorem zd_Mo_placeOf : zy_Mo_placeOf.cls ≠ "java/lang/invoke/MethodHandle" ∧ zy_Mo_placeOf.cls ≠ "java/lang/invoke/VarHandle" ∧ (parseMethodDescriptor zy_Mo_placeOf.desc).map (fun d => d.parameters.length) = some 1 := by decide +kernel
theorem zd_Mo_isOther : zy_Mo_isOther.cls ≠ "java/lang/invoke/MethodHandle" ∧ zy_Mo_isOther.cls ≠ "java/lang/invoke/VarHandle" ∧ (parseMethodDescriptor zy_Mo_isOther.desc).map (fun d => d.parameters.length) = some 2 := by decide +kernel
theorem zd_Mo_isBarred : zy_Mo_isBarred.cls ≠ "java/lang/invoke/MethodHandle" ∧ zy_Mo_isBarred.cls ≠ "java/lang/invoke/VarHandle" ∧ (parseMethodDescriptor zy_Mo_isBarred.desc).map (fun d => d.parameters.length) = some 2 := by decide +kernel
theorem zd_Mo_isTaken : zy_Mo_isTaken.cls ≠ "java/lang/invoke/MethodHandle" ∧ zy_Mo_isTaken.cls ≠ "java/lang/invoke/VarHandle" ∧ (parseMethodDescriptor zy_Mo_isTaken.desc).map (fun d => d.parameters.length) = some 2 := by decide +kernel
theorem zd_Mo_toll : zy_Mo_toll.cls ≠ "java/lang/invoke/MethodHandle" ∧ zy_Mo_toll.cls ≠ "java/lang/invoke/VarHandle" ∧ (parseMethodDescriptor zy_Mo_toll.desc).map (fun d => d.parameters.length) = some 3 := by decide +kernel
theorem zd_Mo_block : zy_Mo_block.cls ≠ "java/lang/invoke/MethodHandle" ∧ zy_Mo_block.cls ≠ "java/lang/invoke/VarHandle" ∧ (parseMethodDescriptor zy_Mo_block.desc).map (fun d => d.parameters.length) = some 3 := by decide +kernel
theorem zd_Mo_net : zy_Mo_net.cls ≠ "java/lang/invoke/MethodHandle" ∧ zy_Mo_net.cls ≠ "java/lang/invoke/VarHandle" ∧ (parseMethodDescriptor zy_Mo_net.desc).map (fun d => d.parameters.length) = some 6 := by decide +kernel
theorem zd_Mo_isNet : zy_Mo_isNet.cls ≠ "java/lang/invoke/MethodHandle" ∧ zy_Mo_isNet.cls ≠ "java/lang/invoke/VarHandle" ∧ (parseMethodDescriptor zy_Mo_isNet.desc).map (fun d => d.parameters.length) = some 1 := by decide +kernel
theorem zd_Mo_clear : zy_Mo_clear.cls ≠ "java/lang/invoke/MethodHandle" ∧ zy_Mo_clear.cls ≠ "java/lang/invoke/VarHandle" ∧ (parseMethodDescriptor zy_Mo_clear.desc).map (fun d => d.parameters.length) = some 1 := by decide +kernel
theorem zd_Mo_weigh : zy_Mo_weigh.cls ≠ "java/lang/invoke/MethodHandle" ∧ zy_Mo_weigh.cls ≠ "java/lang/invoke/VarHandle" ∧ (parseMethodDescriptor zy_Mo_weigh.desc).map (fun d => d.parameters.length) = some 2 := by decide +kernel
theorem zd_Mo_before : zy_Mo_before.cls ≠ "java/lang/invoke/MethodHandle" ∧ zy_Mo_before.cls ≠ "java/lang/invoke/VarHandle" ∧ (parseMethodDescriptor zy_Mo_before.desc).map (fun d => d.parameters.length) = some 3 := by decide +kernel
theorem zd_Mo_lay : zy_Mo_lay.cls ≠ "java/lang/invoke/MethodHandle" ∧ zy_Mo_lay.cls ≠ "java/lang/invoke/VarHandle" ∧ (parseMethodDescriptor zy_Mo_lay.desc).map (fun d => d.parameters.length) = some 2 := by decide +kernel
theorem zd_Mo_pushOut : zy_Mo_pushOut.cls ≠ "java/lang/invoke/MethodHandle" ∧ zy_Mo_pushOut.cls ≠ "java/lang/invoke/VarHandle" ∧ (parseMethodDescriptor zy_Mo_pushOut.desc).map (fun d => d.parameters.length) = some 2 := by decide +kernel
theorem zd_Mo_leave : zy_Mo_leave.cls ≠ "java/lang/invoke/MethodHandle" ∧ zy_Mo_leave.cls ≠ "java/lang/invoke/VarHandle" ∧ (parseMethodDescriptor zy_Mo_leave.desc).map (fun d => d.parameters.length) = some 2 := by decide +kernel
theorem zd_Mo_find : zy_Mo_find.cls ≠ "java/lang/invoke/MethodHandle" ∧ zy_Mo_find.cls ≠ "java/lang/invoke/VarHandle" ∧ (parseMethodDescriptor zy_Mo_find.desc).map (fun d => d.parameters.length) = some 2 := by decide +kernel
theorem zd_Mo_route : zy_Mo_route.cls ≠ "java/lang/invoke/MethodHandle" ∧ zy_Mo_route.cls ≠ "java/lang/invoke/VarHandle" ∧ (parseMethodDescriptor zy_Mo_route.desc).map (fun d => d.parameters.length) = some 1 := by decide +kernel
theorem zd_Mo_push : zy_Mo_push.cls ≠ "java/lang/invoke/MethodHandle" ∧ zy_Mo_push.cls ≠ "java/lang/invoke/VarHandle" ∧ (parseMethodDescriptor zy_Mo_push.desc).map (fun d => d.parameters.length) = some 1 := by decide +kernel
theorem zd_Mo_rip : zy_Mo_rip.cls ≠ "java/lang/invoke/MethodHandle" ∧ zy_Mo_rip.cls ≠ "java/lang/invoke/VarHandle" ∧ (parseMethodDescriptor zy_Mo_rip.desc).map (fun d => d.parameters.length) = some 1 := by decide +kernel
theorem zd_Mo_apart : zy_Mo_apart.cls ≠ "java/lang/invoke/MethodHandle" ∧ zy_Mo_apart.cls ≠ "java/lang/invoke/VarHandle" ∧ (parseMethodDescriptor zy_Mo_apart.desc).map (fun d => d.parameters.length) = some 2 := by decide +kernel
theorem zd_Mo_spread : zy_Mo_spread.cls ≠ "java/lang/invoke/MethodHandle" ∧ zy_Mo_spread.cls ≠ "java/lang/invoke/VarHandle" ∧ (parseMethodDescriptor zy_Mo_spread.desc).map (fun d => d.parameters.length) = some 1 := by decide +kernel
theorem zd_Mo_standAll : zy_Mo_standAll.cls ≠ "java/lang/invoke/MethodHandle" ∧ zy_Mo_standAll.cls ≠ "java/lang/invoke/VarHandle" ∧ (parseMethodDescriptor zy_Mo_standAll.desc).map (fun d => d.parameters.length) = some 1 := by decide +kernel
theorem zd_Mo_stands : zy_Mo_stands.cls ≠ "java/lang/invoke/MethodHandle" ∧ zy_Mo_stands.cls ≠ "java/lang/invoke/VarHandle" ∧ (parseMethodDescriptor zy_Mo_stands.desc).map (fun d => d.parameters.length) = some 1 := by decide +kernel
theorem zd_Mo_all : zy_Mo_all.cls ≠ "java/lang/invoke/MethodHandle" ∧ zy_Mo_all.cls ≠ "java/lang/invoke/VarHandle" ∧ (parseMethodDescriptor zy_Mo_all.desc).map (fun d => d.parameters.length) = some 2 := by decide +kernel
theorem zd_Mo_paint : zy_Mo_paint.cls ≠ "java/lang/invoke/MethodHandle" ∧ zy_Mo_paint.cls ≠ "java/lang/invoke/VarHandle" ∧ (parseMethodDescriptor zy_Mo_paint.desc).map (fun d => d.parameters.length) = some 4 := by decide +kernel
theorem zd_Mo_stitch : zy_Mo_stitch.cls ≠ "java/lang/invoke/MethodHandle" ∧ zy_Mo_stitch.cls ≠ "java/lang/invoke/VarHandle" ∧ (parseMethodDescriptor zy_Mo_stitch.desc).map (fun d => d.parameters.length) = some 2 := by decide +kernel
theorem zd_Mo_cell : zy_Mo_cell.cls ≠ "java/lang/invoke/MethodHandle" ∧ zy_Mo_cell.cls ≠ "java/lang/invoke/VarHandle" ∧ (parseMethodDescriptor zy_Mo_cell.desc).map (fun d => d.parameters.length) = some 3 := by decide +kernel
theorem zd_Mo_via : zy_Mo_via.cls ≠ "java/lang/invoke/MethodHandle" ∧ zy_Mo_via.cls ≠ "java/lang/invoke/VarHandle" ∧ (parseMethodDescriptor zy_Mo_via.desc).map (fun d => d.parameters.length) = some 2 := by decide +kernel
theorem zd_Mo_isJoined : zy_Mo_isJoined.cls ≠ "java/lang/invoke/MethodHandle" ∧ zy_Mo_isJoined.cls ≠ "java/lang/invoke/VarHandle" ∧ (parseMethodDescriptor zy_Mo_isJoined.desc).map (fun d => d.parameters.length) = some 1 := by decide +kernel
theorem zd_Mo_touches : zy_Mo_touches.cls ≠ "java/lang/invoke/MethodHandle" ∧ zy_Mo_touches.cls ≠ "java/lang/invoke/VarHandle" ∧ (parseMethodDescriptor zy_Mo_touches.desc).map (fun d => d.parameters.length) = some 1 := by decide +kernel
theorem zd_Mo_countOpen : zy_Mo_countOpen.cls ≠ "java/lang/invoke/MethodHandle" ∧ zy_Mo_countOpen.cls ≠ "java/lang/invoke/VarHandle" ∧ (parseMethodDescriptor zy_Mo_countOpen.desc).map (fun d => d.parameters.length) = some 0 := by decide +kernel
theorem zd_Mo_countNear : zy_Mo_countNear.cls ≠ "java/lang/invoke/MethodHandle" ∧ zy_Mo_countNear.cls ≠ "java/lang/invoke/VarHandle" ∧ (parseMethodDescriptor zy_Mo_countNear.desc).map (fun d => d.parameters.length) = some 0 := by decide +kernel
theorem zd_Mo_faults : zy_Mo_faults.cls ≠ "java/lang/invoke/MethodHandle" ∧ zy_Mo_faults.cls ≠ "java/lang/invoke/VarHandle" ∧ (parseMethodDescriptor zy_Mo_faults.desc).map (fun d => d.parameters.length) = some 1 := by decide +kernel
theorem zd_Mo_begins : zy_Mo_begins.cls ≠ "java/lang/invoke/MethodHandle" ∧ zy_Mo_begins.cls ≠ "java/lang/invoke/VarHandle" ∧ (parseMethodDescriptor zy_Mo_begins.desc).map (fun d => d.parameters.length) = some 1 := by decide +kernel
theorem zd_Mo_shapes : zy_Mo_shapes.cls ≠ "java/lang/invoke/MethodHandle" ∧ zy_Mo_shapes.cls ≠ "java/lang/invoke/VarHandle" ∧ (parseMethodDescriptor zy_Mo_shapes.desc).map (fun d => d.parameters.length) = some 0 := by decide +kernel
theorem zd_Mo_shape : zy_Mo_shape.cls ≠ "java/lang/invoke/MethodHandle" ∧ zy_Mo_shape.cls ≠ "java/lang/invoke/VarHandle" ∧ (parseMethodDescriptor zy_Mo_shape.desc).map (fun d => d.parameters.length) = some 2 := by decide +kernel
theorem zd_Checker_count : zy_Checker_count.cls ≠ "java/lang/invoke/MethodHandle" ∧ zy_Checker_count.cls ≠ "java/lang/invoke/VarHandle" ∧ (parseMethodDescriptor zy_Checker_count.desc).map (fun d => d.parameters.length) = some 1 := by decide +kernel
theorem zd_Checker_misplaced : zy_Checker_misplaced.cls ≠ "java/lang/invoke/MethodHandle" ∧ zy_Checker_misplaced.cls ≠ "java/lang/invoke/VarHandle" ∧ (parseMethodDescriptor zy_Checker_misplaced.desc).map (fun d => d.parameters.length) = some 0 := by decide +kernel
theorem zd_Checker_crowded : zy_Checker_crowded.cls ≠ "java/lang/invoke/MethodHandle" ∧ zy_Checker_crowded.cls ≠ "java/lang/invoke/VarHandle" ∧ (parseMethodDescriptor zy_Checker_crowded.desc).map (fun d => d.parameters.length) = some 0 := by decide +kernel
theorem zd_Checker_clash : zy_Checker_clash.cls ≠ "java/lang/invoke/MethodHandle" ∧ zy_Checker_clash.cls ≠ "java/lang/invoke/VarHandle" ∧ (parseMethodDescriptor zy_Checker_clash.desc).map (fun d => d.parameters.length) = some 2 := by decide +kernel
theorem zd_Checker_badVias : zy_Checker_badVias.cls ≠ "java/lang/invoke/MethodHandle" ∧ zy_Checker_badVias.cls ≠ "java/lang/invoke/VarHandle" ∧ (parseMethodDescriptor zy_Checker_badVias.desc).map (fun d => d.parameters.length) = some 0 := by decide +kernel
theorem zd_Checker_loose : zy_Checker_loose.cls ≠ "java/lang/invoke/MethodHandle" ∧ zy_Checker_loose.cls ≠ "java/lang/invoke/VarHandle" ∧ (parseMethodDescriptor zy_Checker_loose.desc).map (fun d => d.parameters.length) = some 0 := by decide +kernel
theorem zd_Checker_isJoined : zy_Checker_isJoined.cls ≠ "java/lang/invoke/MethodHandle" ∧ zy_Checker_isJoined.cls ≠ "java/lang/invoke/VarHandle" ∧ (parseMethodDescriptor zy_Checker_isJoined.desc).map (fun d => d.parameters.length) = some 1 := by decide +kernel
theorem zd_Checker_reachFrom : zy_Checker_reachFrom.cls ≠ "java/lang/invoke/MethodHandle" ∧ zy_Checker_reachFrom.cls ≠ "java/lang/invoke/VarHandle" ∧ (parseMethodDescriptor zy_Checker_reachFrom.desc).map (fun d => d.parameters.length) = some 2 := by decide +kernel
theorem zd_Checker_reach : zy_Checker_reach.cls ≠ "java/lang/invoke/MethodHandle" ∧ zy_Checker_reach.cls ≠ "java/lang/invoke/VarHandle" ∧ (parseMethodDescriptor zy_Checker_reach.desc).map (fun d => d.parameters.length) = some 2 := by decide +kernel
theorem zd_Grid_link : zy_Grid_link.cls ≠ "java/lang/invoke/MethodHandle" ∧ zy_Grid_link.cls ≠ "java/lang/invoke/VarHandle" ∧ (parseMethodDescriptor zy_Grid_link.desc).map (fun d => d.parameters.length) = some 3 := by decide +kernel
theorem zd_Grid_hasPlace : zy_Grid_hasPlace.cls ≠ "java/lang/invoke/MethodHandle" ∧ zy_Grid_hasPlace.cls ≠ "java/lang/invoke/VarHandle" ∧ (parseMethodDescriptor zy_Grid_hasPlace.desc).map (fun d => d.parameters.length) = some 2 := by decide +kernel
theorem zd_Grid_hasCell : zy_Grid_hasCell.cls ≠ "java/lang/invoke/MethodHandle" ∧ zy_Grid_hasCell.cls ≠ "java/lang/invoke/VarHandle" ∧ (parseMethodDescriptor zy_Grid_hasCell.desc).map (fun d => d.parameters.length) = some 3 := by decide +kernel
theorem zd_Grid_cellAt : zy_Grid_cellAt.cls ≠ "java/lang/invoke/MethodHandle" ∧ zy_Grid_cellAt.cls ≠ "java/lang/invoke/VarHandle" ∧ (parseMethodDescriptor zy_Grid_cellAt.desc).map (fun d => d.parameters.length) = some 3 := by decide +kernel
theorem zd_Grid_layerOf : zy_Grid_layerOf.cls ≠ "java/lang/invoke/MethodHandle" ∧ zy_Grid_layerOf.cls ≠ "java/lang/invoke/VarHandle" ∧ (parseMethodDescriptor zy_Grid_layerOf.desc).map (fun d => d.parameters.length) = some 1 := by decide +kernel
theorem zd_Grid_placeOf : zy_Grid_placeOf.cls ≠ "java/lang/invoke/MethodHandle" ∧ zy_Grid_placeOf.cls ≠ "java/lang/invoke/VarHandle" ∧ (parseMethodDescriptor zy_Grid_placeOf.desc).map (fun d => d.parameters.length) = some 1 := by decide +kernel
theorem zd_Grid_next : zy_Grid_next.cls ≠ "java/lang/invoke/MethodHandle" ∧ zy_Grid_next.cls ≠ "java/lang/invoke/VarHandle" ∧ (parseMethodDescriptor zy_Grid_next.desc).map (fun d => d.parameters.length) = some 2 := by decide +kernel
theorem zd_Layout_strip : zy_Layout_strip.cls ≠ "java/lang/invoke/MethodHandle" ∧ zy_Layout_strip.cls ≠ "java/lang/invoke/VarHandle" ∧ (parseMethodDescriptor zy_Layout_strip.desc).map (fun d => d.parameters.length) = some 1 := by decide +kernel
theorem zd_Layout_clear : zy_Layout_clear.cls ≠ "java/lang/invoke/MethodHandle" ∧ zy_Layout_clear.cls ≠ "java/lang/invoke/VarHandle" ∧ (parseMethodDescriptor zy_Layout_clear.desc).map (fun d => d.parameters.length) = some 1 := by decide +kernel
theorem zd_Layout_restorePins : zy_Layout_restorePins.cls ≠ "java/lang/invoke/MethodHandle" ∧ zy_Layout_restorePins.cls ≠ "java/lang/invoke/VarHandle" ∧ (parseMethodDescriptor zy_Layout_restorePins.desc).map (fun d => d.parameters.length) = some 1 := by decide +kernel
theorem zd_Line_isEmpty : zy_Line_isEmpty.cls ≠ "java/lang/invoke/MethodHandle" ∧ zy_Line_isEmpty.cls ≠ "java/lang/invoke/VarHandle" ∧ (parseMethodDescriptor zy_Line_isEmpty.desc).map (fun d => d.parameters.length) = some 0 := by decide +kernel
theorem zd_Line_join : zy_Line_join.cls ≠ "java/lang/invoke/MethodHandle" ∧ zy_Line_join.cls ≠ "java/lang/invoke/VarHandle" ∧ (parseMethodDescriptor zy_Line_join.desc).map (fun d => d.parameters.length) = some 1 := by decide +kernel
theorem zd_Line_leave : zy_Line_leave.cls ≠ "java/lang/invoke/MethodHandle" ∧ zy_Line_leave.cls ≠ "java/lang/invoke/VarHandle" ∧ (parseMethodDescriptor zy_Line_leave.desc).map (fun d => d.parameters.length) = some 0 := by decide +kernel
theorem zd_Line_sortBySpan : zy_Line_sortBySpan.cls ≠ "java/lang/invoke/MethodHandle" ∧ zy_Line_sortBySpan.cls ≠ "java/lang/invoke/VarHandle" ∧ (parseMethodDescriptor zy_Line_sortBySpan.desc).map (fun d => d.parameters.length) = some 1 := by decide +kernel
theorem zd_Nets_has : zy_Nets_has.cls ≠ "java/lang/invoke/MethodHandle" ∧ zy_Nets_has.cls ≠ "java/lang/invoke/VarHandle" ∧ (parseMethodDescriptor zy_Nets_has.desc).map (fun d => d.parameters.length) = some 1 := by decide +kernel
theorem zd_Nets_add : zy_Nets_add.cls ≠ "java/lang/invoke/MethodHandle" ∧ zy_Nets_add.cls ≠ "java/lang/invoke/VarHandle" ∧ (parseMethodDescriptor zy_Nets_add.desc).map (fun d => d.parameters.length) = some 2 := by decide +kernel
theorem zd_Nets_span : zy_Nets_span.cls ≠ "java/lang/invoke/MethodHandle" ∧ zy_Nets_span.cls ≠ "java/lang/invoke/VarHandle" ∧ (parseMethodDescriptor zy_Nets_span.desc).map (fun d => d.parameters.length) = some 1 := by decide +kernel
theorem zd_Router_lay : zy_Router_lay.cls ≠ "java/lang/invoke/MethodHandle" ∧ zy_Router_lay.cls ≠ "java/lang/invoke/VarHandle" ∧ (parseMethodDescriptor zy_Router_lay.desc).map (fun d => d.parameters.length) = some 1 := by decide +kernel
theorem zd_Router_shove : zy_Router_shove.cls ≠ "java/lang/invoke/MethodHandle" ∧ zy_Router_shove.cls ≠ "java/lang/invoke/VarHandle" ∧ (parseMethodDescriptor zy_Router_shove.desc).map (fun d => d.parameters.length) = some 1 := by decide +kernel
theorem zd_Router_layWay : zy_Router_layWay.cls ≠ "java/lang/invoke/MethodHandle" ∧ zy_Router_layWay.cls ≠ "java/lang/invoke/VarHandle" ∧ (parseMethodDescriptor zy_Router_layWay.desc).map (fun d => d.parameters.length) = some 1 := by decide +kernel
theorem zd_Router_markPushedOut : zy_Router_markPushedOut.cls ≠ "java/lang/invoke/MethodHandle" ∧ zy_Router_markPushedOut.cls ≠ "java/lang/invoke/VarHandle" ∧ (parseMethodDescriptor zy_Router_markPushedOut.desc).map (fun d => d.parameters.length) = some 1 := by decide +kernel
theorem zd_Router_markHolder : zy_Router_markHolder.cls ≠ "java/lang/invoke/MethodHandle" ∧ zy_Router_markHolder.cls ≠ "java/lang/invoke/VarHandle" ∧ (parseMethodDescriptor zy_Router_markHolder.desc).map (fun d => d.parameters.length) = some 2 := by decide +kernel
theorem zd_Router_stripPushedOut : zy_Router_stripPushedOut.cls ≠ "java/lang/invoke/MethodHandle" ∧ zy_Router_stripPushedOut.cls ≠ "java/lang/invoke/VarHandle" ∧ (parseMethodDescriptor zy_Router_stripPushedOut.desc).map (fun d => d.parameters.length) = some 0 := by decide +kernel
theorem zd_Router_lineUp : zy_Router_lineUp.cls ≠ "java/lang/invoke/MethodHandle" ∧ zy_Router_lineUp.cls ≠ "java/lang/invoke/VarHandle" ∧ (parseMethodDescriptor zy_Router_lineUp.desc).map (fun d => d.parameters.length) = some 1 := by decide +kernel
theorem zd_Router_serveLine : zy_Router_serveLine.cls ≠ "java/lang/invoke/MethodHandle" ∧ zy_Router_serveLine.cls ≠ "java/lang/invoke/VarHandle" ∧ (parseMethodDescriptor zy_Router_serveLine.desc).map (fun d => d.parameters.length) = some 1 := by decide +kernel
theorem zd_Router_lineUpPushedOut : zy_Router_lineUpPushedOut.cls ≠ "java/lang/invoke/MethodHandle" ∧ zy_Router_lineUpPushedOut.cls ≠ "java/lang/invoke/VarHandle" ∧ (parseMethodDescriptor zy_Router_lineUpPushedOut.desc).map (fun d => d.parameters.length) = some 0 := by decide +kernel
theorem zd_Router_retryLoose : zy_Router_retryLoose.cls ≠ "java/lang/invoke/MethodHandle" ∧ zy_Router_retryLoose.cls ≠ "java/lang/invoke/VarHandle" ∧ (parseMethodDescriptor zy_Router_retryLoose.desc).map (fun d => d.parameters.length) = some 0 := by decide +kernel
theorem zd_Rules_isBarred : zy_Rules_isBarred.cls ≠ "java/lang/invoke/MethodHandle" ∧ zy_Rules_isBarred.cls ≠ "java/lang/invoke/VarHandle" ∧ (parseMethodDescriptor zy_Rules_isBarred.desc).map (fun d => d.parameters.length) = some 2 := by decide +kernel
theorem zd_Rules_isTaken : zy_Rules_isTaken.cls ≠ "java/lang/invoke/MethodHandle" ∧ zy_Rules_isTaken.cls ≠ "java/lang/invoke/VarHandle" ∧ (parseMethodDescriptor zy_Rules_isTaken.desc).map (fun d => d.parameters.length) = some 2 := by decide +kernel
theorem zd_Rules_isClose : zy_Rules_isClose.cls ≠ "java/lang/invoke/MethodHandle" ∧ zy_Rules_isClose.cls ≠ "java/lang/invoke/VarHandle" ∧ (parseMethodDescriptor zy_Rules_isClose.desc).map (fun d => d.parameters.length) = some 3 := by decide +kernel
theorem zd_Shapes_count : zy_Shapes_count.cls ≠ "java/lang/invoke/MethodHandle" ∧ zy_Shapes_count.cls ≠ "java/lang/invoke/VarHandle" ∧ (parseMethodDescriptor zy_Shapes_count.desc).map (fun d => d.parameters.length) = some 0 := by decide +kernel
theorem zd_Shapes_startOf : zy_Shapes_startOf.cls ≠ "java/lang/invoke/MethodHandle" ∧ zy_Shapes_startOf.cls ≠ "java/lang/invoke/VarHandle" ∧ (parseMethodDescriptor zy_Shapes_startOf.desc).map (fun d => d.parameters.length) = some 1 := by decide +kernel
theorem zd_Shapes_tell : zy_Shapes_tell.cls ≠ "java/lang/invoke/MethodHandle" ∧ zy_Shapes_tell.cls ≠ "java/lang/invoke/VarHandle" ∧ (parseMethodDescriptor zy_Shapes_tell.desc).map (fun d => d.parameters.length) = some 2 := by decide +kernel
theorem zd_Shapes_isStart : zy_Shapes_isStart.cls ≠ "java/lang/invoke/MethodHandle" ∧ zy_Shapes_isStart.cls ≠ "java/lang/invoke/VarHandle" ∧ (parseMethodDescriptor zy_Shapes_isStart.desc).map (fun d => d.parameters.length) = some 1 := by decide +kernel
theorem zd_Shapes_lastX : zy_Shapes_lastX.cls ≠ "java/lang/invoke/MethodHandle" ∧ zy_Shapes_lastX.cls ≠ "java/lang/invoke/VarHandle" ∧ (parseMethodDescriptor zy_Shapes_lastX.desc).map (fun d => d.parameters.length) = some 1 := by decide +kernel
theorem zd_WayFinder_find : zy_WayFinder_find.cls ≠ "java/lang/invoke/MethodHandle" ∧ zy_WayFinder_find.cls ≠ "java/lang/invoke/VarHandle" ∧ (parseMethodDescriptor zy_WayFinder_find.desc).map (fun d => d.parameters.length) = some 2 := by decide +kernel
theorem zd_WayFinder_freeToll : zy_WayFinder_freeToll.cls ≠ "java/lang/invoke/MethodHandle" ∧ zy_WayFinder_freeToll.cls ≠ "java/lang/invoke/VarHandle" ∧ (parseMethodDescriptor zy_WayFinder_freeToll.desc).map (fun d => d.parameters.length) = some 2 := by decide +kernel
theorem zd_WayFinder_pushToll : zy_WayFinder_pushToll.cls ≠ "java/lang/invoke/MethodHandle" ∧ zy_WayFinder_pushToll.cls ≠ "java/lang/invoke/VarHandle" ∧ (parseMethodDescriptor zy_WayFinder_pushToll.desc).map (fun d => d.parameters.length) = some 2 := by decide +kernel
theorem zd_WayFinder_spread : zy_WayFinder_spread.cls ≠ "java/lang/invoke/MethodHandle" ∧ zy_WayFinder_spread.cls ≠ "java/lang/invoke/VarHandle" ∧ (parseMethodDescriptor zy_WayFinder_spread.desc).map (fun d => d.parameters.length) = some 1 := by decide +kernel
theorem zd_WayFinder_spreadFrom : zy_WayFinder_spreadFrom.cls ≠ "java/lang/invoke/MethodHandle" ∧ zy_WayFinder_spreadFrom.cls ≠ "java/lang/invoke/VarHandle" ∧ (parseMethodDescriptor zy_WayFinder_spreadFrom.desc).map (fun d => d.parameters.length) = some 1 := by decide +kernel
theorem zd_WayFinder_stepCost : zy_WayFinder_stepCost.cls ≠ "java/lang/invoke/MethodHandle" ∧ zy_WayFinder_stepCost.cls ≠ "java/lang/invoke/VarHandle" ∧ (parseMethodDescriptor zy_WayFinder_stepCost.desc).map (fun d => d.parameters.length) = some 1 := by decide +kernel
theorem zd_WayFinder_enqueue : zy_WayFinder_enqueue.cls ≠ "java/lang/invoke/MethodHandle" ∧ zy_WayFinder_enqueue.cls ≠ "java/lang/invoke/VarHandle" ∧ (parseMethodDescriptor zy_WayFinder_enqueue.desc).map (fun d => d.parameters.length) = some 1 := by decide +kernel
theorem zd_WayFinder_dequeue : zy_WayFinder_dequeue.cls ≠ "java/lang/invoke/MethodHandle" ∧ zy_WayFinder_dequeue.cls ≠ "java/lang/invoke/VarHandle" ∧ (parseMethodDescriptor zy_WayFinder_dequeue.desc).map (fun d => d.parameters.length) = some 0 := by decide +kernel
theorem zd_WayFinder_trace : zy_WayFinder_trace.cls ≠ "java/lang/invoke/MethodHandle" ∧ zy_WayFinder_trace.cls ≠ "java/lang/invoke/VarHandle" ∧ (parseMethodDescriptor zy_WayFinder_trace.desc).map (fun d => d.parameters.length) = some 2 := by decide +kernel
theorem zd_WayFinder_predecessor : zy_WayFinder_predecessor.cls ≠ "java/lang/invoke/MethodHandle" ∧ zy_WayFinder_predecessor.cls ≠ "java/lang/invoke/VarHandle" ∧ (parseMethodDescriptor zy_WayFinder_predecessor.desc).map (fun d => d.parameters.length) = some 1 := by decide +kernel
end
section
abbrev zS : Type := (Nat → Int32) × (Nat → Nat → Int32)
abbrev zG : Type := zS × zS × Int64
/-- the tables' numbers, the addresses, the class's rows' lengths, the rows' classes -/
abbrev zW : Type := va_G × (Nat → Nat) × (Nat → Nat) × (Nat → ClassId)
def zq_w (w : zW) (σ : zG) : va_W := [
  (w.2.1 0, .inr (0, [.ref (w.2.1 1), .ref (w.2.1 5), .ref (w.2.1 9), .ref (w.2.1 12), .ref (w.2.1 17), .ref (w.2.1 14), .ref (w.2.1 27)])),
  (w.2.1 1, .inr (1, [.int (σ.1.1 0), .int (σ.1.1 1), .int (σ.1.1 2), .int (σ.1.1 3), .ref (w.2.1 2), .ref (w.2.1 3), .ref (w.2.1 4)])),
  (w.2.1 2, .inl (w.2.2.2 0, w.2.2.1 0, .inl (σ.1.2 0))),
  (w.2.1 3, .inl (w.2.2.2 0, w.2.2.1 1, .inl (σ.1.2 1))),
  (w.2.1 4, .inl (w.2.2.2 0, w.2.2.1 2, .inl (σ.1.2 2))),
  (w.2.1 5, .inr (2, [.ref (w.2.1 6), .ref (w.2.1 7), .ref (w.2.1 8), .int (σ.1.1 4), .ref (w.2.1 1)])),
  (w.2.1 6, .inl (w.2.2.2 0, w.2.2.1 3, .inl (σ.1.2 3))),
  (w.2.1 7, .inl (w.2.2.2 0, w.2.2.1 4, .inl (σ.1.2 4))),
  (w.2.1 8, .inl (w.2.2.2 0, w.2.2.1 5, .inl (σ.1.2 5))),
  (w.2.1 9, .inr (3, [.ref (w.2.1 10), .ref (w.2.1 11), .ref (w.2.1 1), .ref (w.2.1 5)])),
  (w.2.1 10, .inl (w.2.2.2 0, w.2.2.1 6, .inl (σ.1.2 6))),
  (w.2.1 11, .inl (w.2.2.2 1, w.2.2.1 7, .inl (σ.1.2 7))),
  (w.2.1 12, .inr (4, [.ref (w.2.1 13), .int (σ.1.1 5), .ref (w.2.1 1), .ref (w.2.1 5), .ref (w.2.1 9)])),
  (w.2.1 13, .inl (w.2.2.2 1, w.2.2.1 8, .inl (σ.1.2 8))),
  (w.2.1 14, .inr (5, [.ref (w.2.1 1), .ref (w.2.1 5), .ref (w.2.1 9), .ref (w.2.1 12), .ref (w.2.1 15), .ref (w.2.1 16), .int (σ.1.1 6)])),
  (w.2.1 15, .inl (w.2.2.2 0, w.2.2.1 10, .inl (σ.1.2 10))),
  (w.2.1 16, .inl (w.2.2.2 1, w.2.2.1 11, .inl (σ.1.2 11))),
  (w.2.1 17, .inr (6, [.ref (w.2.1 5), .ref (w.2.1 9), .ref (w.2.1 1), .ref (w.2.1 12), .ref (w.2.1 14), .ref (w.2.1 21), .ref (w.2.1 18), .ref (w.2.1 20)])),
  (w.2.1 18, .inr (7, [.ref (w.2.1 19), .int (σ.1.1 11)])),
  (w.2.1 19, .inl (w.2.2.2 0, w.2.2.1 17, .inl (σ.1.2 17))),
  (w.2.1 20, .inl (w.2.2.2 1, w.2.2.1 9, .inl (σ.1.2 9))),
  (w.2.1 21, .inr (8, [.ref (w.2.1 22), .int (σ.1.1 7), .ref (w.2.1 1), .ref (w.2.1 5), .ref (w.2.1 12), .int (σ.1.1 8), .ref (w.2.1 23), .ref (w.2.1 24), .ref (w.2.1 25), .ref (w.2.1 26), .int (σ.1.1 9), .int (σ.1.1 10)])),
  (w.2.1 22, .inl (w.2.2.2 0, w.2.2.1 12, .inl (σ.1.2 12))),
  (w.2.1 23, .inl (w.2.2.2 0, w.2.2.1 13, .inl (σ.1.2 13))),
  (w.2.1 24, .inl (w.2.2.2 0, w.2.2.1 14, .inl (σ.1.2 14))),
  (w.2.1 25, .inl (w.2.2.2 0, w.2.2.1 15, .inl (σ.1.2 15))),
  (w.2.1 26, .inl (w.2.2.2 1, w.2.2.1 16, .inl (σ.1.2 16))),
  (w.2.1 27, .inr (9, [.ref (w.2.1 1), .ref (w.2.1 9)])),
  (w.2.1 28, .inr (10, [.int (σ.2.1.1 0), .int (σ.2.1.1 1), .int (σ.2.1.1 2), .int (σ.2.1.1 3), .int (σ.2.1.1 4), .ref (w.2.1 29), .ref (w.2.1 30), .ref (w.2.1 31), .ref (w.2.1 32), .ref (w.2.1 33), .ref (w.2.1 34), .ref (w.2.1 35), .ref (w.2.1 36), .int (σ.2.1.1 5), .ref (w.2.1 37), .ref (w.2.1 38), .int (σ.2.1.1 6), .ref (w.2.1 39), .int (σ.2.1.1 7)])),
  (w.2.1 29, .inl (w.2.2.2 1, 162, .inl (σ.2.1.2 0))),
  (w.2.1 30, .inl (w.2.2.2 0, 162, .inl (σ.2.1.2 1))),
  (w.2.1 31, .inl (w.2.2.2 0, 162, .inl (σ.2.1.2 2))),
  (w.2.1 32, .inl (w.2.2.2 1, 81, .inl (σ.2.1.2 3))),
  (w.2.1 33, .inl (w.2.2.2 0, 162, .inl (σ.2.1.2 4))),
  (w.2.1 34, .inl (w.2.2.2 1, 162, .inl (σ.2.1.2 5))),
  (w.2.1 35, .inl (w.2.2.2 0, 162, .inl (σ.2.1.2 6))),
  (w.2.1 36, .inl (w.2.2.2 1, 162, .inl (σ.2.1.2 7))),
  (w.2.1 37, .inl (w.2.2.2 0, 6, .inl (σ.2.1.2 8))),
  (w.2.1 38, .inl (w.2.2.2 0, 6, .inl (σ.2.1.2 9))),
  (w.2.1 39, .inl (w.2.2.2 0, 6, .inl (σ.2.1.2 10))),
  (w.2.1 40, .inl (w.2.2.2 2, 1, .inr (.inl (fun _ => σ.2.2))))]
/-! The judgement of these rows: zq_W, W over any locals and heap that hold a list of values and the world of a state. -/
abbrev zC : Type := Program × Launch × Env × Room × State × MethodId × Array Value × List Frame × Method × Code × (State → Prop) × (Nat → Prop)
abbrev zc_p (x : zC) : Program := x.1
abbrev zc_l (x : zC) : Launch := x.2.1
abbrev zc_e (x : zC) : Env := x.2.2.1
abbrev zc_R (x : zC) : Room := x.2.2.2.1
abbrev zc_s (x : zC) : State := x.2.2.2.2.1
abbrev zc_m (x : zC) : MethodId := x.2.2.2.2.2.1
abbrev zc_a (x : zC) : Array Value := x.2.2.2.2.2.2.1
abbrev zc_b (x : zC) : List Frame := x.2.2.2.2.2.2.2.1
abbrev zc_h (x : zC) : Method := x.2.2.2.2.2.2.2.2.1
abbrev zc_c (x : zC) : Code := x.2.2.2.2.2.2.2.2.2.1
abbrev zc_Q (x : zC) : State → Prop := x.2.2.2.2.2.2.2.2.2.2.1
abbrev zc_A (x : zC) : Nat → Prop := x.2.2.2.2.2.2.2.2.2.2.2
/-- the locals hold the listed values, each of one slot -/
def zq_L (ls : Array Slot) (V : List (Option Value)) : Prop := ls.size = V.length ∧ lv_wf ls ∧ ∀ (i : Nat) (v : Value), V[i]? = some (some v) → ls[i]? = some (.val v) ∧ v.category = 1
def zq_tl (V : List (Option Value)) : List (Nat × Value) := V.zipIdx.filterMap (fun q => q.1.map (fun v => (q.2, v)))
theorem zq_tl_mem {V : List (Option Value)} {i : Nat} {v : Value} : (i, v) ∈ zq_tl V ↔ V[i]? = some (some v) := by
  unfold zq_tl
  rw [List.mem_filterMap]
  constructor
  · rintro ⟨⟨o, j⟩, hq, he⟩
    cases o with
    | none => simp at he
    | some u =>
      simp only [Option.map_some, Option.some.injEq, Prod.mk.injEq] at he
      obtain ⟨rfl, rfl⟩ := he
      exact List.mem_zipIdx_iff_getElem?.mp hq
  · intro h
    exact ⟨(some v, i), List.mem_zipIdx_iff_getElem?.mpr h, rfl⟩
theorem zq_L.has {ls : Array Slot} {V : List (Option Value)} (h : zq_L ls V) : lv_has ls V.length (zq_tl V) :=
  ⟨h.1, h.2.1, fun q hq => (h.2.2 q.1 q.2 (zq_tl_mem.mp hq)).1⟩
theorem zq_L.st {ls ls' : Array Slot} {V : List (Option Value)} {i : Nat} {v : Value} (h : zq_L ls V) (hi : i < V.length) (hc : v.category = 1)
    (h' : lv_has ls' V.length ((i, v) :: (zq_tl V).filter (fun q => !(q.1 == i) && !(q.1 + 1 == i && q.2.category == 2)))) : zq_L ls' (V.set i (some v)) := by
  refine ⟨by rw [List.length_set]; exact h'.1, h'.2.1, fun j u hj => ?_⟩
  by_cases e : j = i
  · subst e
    rw [List.getElem?_set_self hi] at hj
    cases hj
    exact ⟨h'.2.2 (j, v) List.mem_cons_self, hc⟩
  · rw [List.getElem?_set_ne (Ne.symm e)] at hj
    have h1 := h.2.2 j u hj
    refine ⟨h'.2.2 (j, u) (List.mem_cons_of_mem _ (List.mem_filter.mpr ⟨zq_tl_mem.mpr hj, ?_⟩)), h1.2⟩
    simp [e, h1.2]
/-- some of the listed values, the others forgotten -/
def zq_mk : List (Option Value) → List Bool → List (Option Value)
  | [], _ => []
  | _ :: t, [] => none :: zq_mk t []
  | v :: t, b :: bs => (if b = true then v else none) :: zq_mk t bs
theorem zq_mk_len : ∀ (V : List (Option Value)) (bs : List Bool), (zq_mk V bs).length = V.length
  | [], _ => rfl
  | _ :: t, [] => by simp [zq_mk, zq_mk_len t []]
  | _ :: t, _ :: bs => by simp [zq_mk, zq_mk_len t bs]
theorem zq_mk_get : ∀ (V : List (Option Value)) (bs : List Bool) (i : Nat) (v : Value), (zq_mk V bs)[i]? = some (some v) → V[i]? = some (some v)
  | [], _, i, v, h => by simp [zq_mk] at h
  | a :: t, [], i, v, h => by
    cases i with
    | zero => simp [zq_mk] at h
    | succ j => simpa using zq_mk_get t [] j v (by simpa [zq_mk] using h)
  | a :: t, b :: bs, i, v, h => by
    cases i with
    | zero =>
      cases b with
      | true => simpa [zq_mk] using h
      | false => simp [zq_mk] at h
    | succ j => simpa using zq_mk_get t bs j v (by simpa [zq_mk] using h)
theorem zq_L.mk {ls : Array Slot} {V : List (Option Value)} (bs : List Bool) (h : zq_L ls V) : zq_L ls (zq_mk V bs) :=
  ⟨by rw [zq_mk_len]; exact h.1, h.2.1, fun i v hv => h.2.2 i v (zq_mk_get V bs i v hv)⟩
/-- the entry's locals -/
def zq_V0 (vs : List Value) (n : Nat) : List (Option Value) := vs.map some ++ List.replicate (n - vs.length) none
theorem zq_sl (vs : List Value) (hc : ∀ v ∈ vs, v.category = 1) : lg_sl vs = vs.map Slot.val := by
  induction vs with
  | nil => rfl
  | cons v t ih =>
    have hv : v.category = 1 := hc v List.mem_cons_self
    have ht := ih (fun u hu => hc u (List.mem_cons_of_mem _ hu))
    cases v <;> simp_all [lg_sl, Value.category]
def zq_V (x : zC) (D : va_G) (tys : List (ClassId × FieldType)) (ws : va_W) (k n : Nat) (pc : Nat) (V : List (Option Value)) (st : List Value) : Prop :=
  ∀ (ls : Array Slot) (H : Heap) (locs : List Loc), zq_L ls V → va_P D vwCl ws H → va_D (fun _ => True) ws → va_S (zc_A x) (zc_s x).heap H locs →
    W (zc_p x) (zc_l x) (zc_e x) (zc_R x) (zc_s x) (zc_m x) (zc_a x) (zc_b x) (zc_h x) (zc_c x) H locs k n (zc_Q x) (F0 (zc_m x) pc ls st)
def zq_H (x : zC) (D : va_G) (tys : List (ClassId × FieldType)) (own : String) (cc : ByteArray) (nL : Nat) (rm : Room) : Prop :=
  (zc_p x).tables.exec = Jvm.exec ∧ (zc_c x).code = cc ∧ (zc_c x).maxLocals = nL ∧ (zc_s x).vm.findClass own = some (zc_m x).cls ∧ (∀ t ∈ zq_T, t.before (zc_a x) (zc_s x) = true) ∧ va_K D vwCl tys (zc_s x) ∧ zc_R x = rm
section ZR
variable {x : zC} {D : va_G} {tys : List (ClassId × FieldType)} {ws : va_W} {own : String} {cc : ByteArray} {nL : Nat} {rm : Room} {k n : Nat} {pc : Nat} {V : List (Option Value)} {st : List Value}
theorem zr_mask (bs : List Bool) (kk : zq_V x D tys ws k n pc (zq_mk V bs) st) : zq_V x D tys ws k n pc V st := fun ls H locs hl hP hD hS => kk ls H locs (hl.mk bs) hP hD hS
theorem zr_iconst (hG : zq_H x D tys own cc nL rm) {i : Int} {v : Int32} (hd : decode cc pc = .ok (.iconst i, 1)) (hv : Int32.ofInt i = v) (kk : zq_V x D tys ws k n (pc + 1) V (.int v :: st)) : zq_V x D tys ws k n pc V st :=
  fun ls H locs hl hP hD hS => lv_iconst hG.1 hG.2.1 hd hv (kk ls H locs hl hP hD hS)
theorem zr_bipush (hG : zq_H x D tys own cc nL rm) {i : Int} {v : Int32} (hd : decode cc pc = .ok (.bipush i, 2)) (hv : (Int8.ofInt i).toInt32 = v) (kk : zq_V x D tys ws k n (pc + 2) V (.int v :: st)) : zq_V x D tys ws k n pc V st :=
  fun ls H locs hl hP hD hS => lv_bipush hG.1 hG.2.1 hd hv (kk ls H locs hl hP hD hS)
theorem zr_sipush (hG : zq_H x D tys own cc nL rm) {i : Int} {v : Int32} (hd : decode cc pc = .ok (.sipush i, 3)) (hv : (Int16.ofInt i).toInt32 = v) (kk : zq_V x D tys ws k n (pc + 3) V (.int v :: st)) : zq_V x D tys ws k n pc V st :=
  fun ls H locs hl hP hD hS => lv_sipush hG.1 hG.2.1 hd hv (kk ls H locs hl hP hD hS)
theorem zr_ldc (hG : zq_H x D tys own cc nL rm) {i : Nat} {v : Int32} (ht : Cond.constant own i v ∈ zq_T) (hd : decode cc pc = .ok (.ldc i, 2)) (kk : zq_V x D tys ws k n (pc + 2) V (.int v :: st)) : zq_V x D tys ws k n pc V st :=
  fun ls H locs hl hP hD hS => lv_ldc hG.1 hG.2.1 hG.2.2.2.1 (hG.2.2.2.2.1 _ ht) hd (kk ls H locs hl hP hD hS)
theorem zr_iload_n (hG : zq_H x D tys own cc nL rm) {j : Fin 4} {i : Nat} {v : Int32} (hd : decode cc pc = .ok (.iload_n j, 1)) (hi : (j : Nat) = i) (hv : V[i]? = some (some (.int v))) (kk : zq_V x D tys ws k n (pc + 1) V (.int v :: st)) : zq_V x D tys ws k n pc V st :=
  fun ls H locs hl hP hD hS => lv_iload_n hG.1 hG.2.1 hd hi (hl.2.2 _ _ hv).1 (kk ls H locs hl hP hD hS)
theorem zr_iload (hG : zq_H x D tys own cc nL rm) {i : Nat} {v : Int32} (hd : decode cc pc = .ok (.iload i, 2)) (hv : V[i]? = some (some (.int v))) (kk : zq_V x D tys ws k n (pc + 2) V (.int v :: st)) : zq_V x D tys ws k n pc V st :=
  fun ls H locs hl hP hD hS => lv_iload hG.1 hG.2.1 hd (hl.2.2 _ _ hv).1 (kk ls H locs hl hP hD hS)
theorem zr_aload_n (hG : zq_H x D tys own cc nL rm) {j : Fin 4} {i : Nat} {v : Nat} (hd : decode cc pc = .ok (.aload_n j, 1)) (hi : (j : Nat) = i) (hv : V[i]? = some (some (.ref v))) (kk : zq_V x D tys ws k n (pc + 1) V (.ref v :: st)) : zq_V x D tys ws k n pc V st :=
  fun ls H locs hl hP hD hS => lv_aload_n hG.1 hG.2.1 hd hi (hl.2.2 _ _ hv).1 (kk ls H locs hl hP hD hS)
theorem zr_aload (hG : zq_H x D tys own cc nL rm) {i : Nat} {v : Nat} (hd : decode cc pc = .ok (.aload i, 2)) (hv : V[i]? = some (some (.ref v))) (kk : zq_V x D tys ws k n (pc + 2) V (.ref v :: st)) : zq_V x D tys ws k n pc V st :=
  fun ls H locs hl hP hD hS => lv_aload hG.1 hG.2.1 hd (hl.2.2 _ _ hv).1 (kk ls H locs hl hP hD hS)
theorem zr_istore_n (hG : zq_H x D tys own cc nL rm) {j : Fin 4} {i : Nat} {v : Int32} (V' : List (Option Value)) (hd : decode cc pc = .ok (.istore_n j, 1)) (hi : (j : Nat) = i) (hn : i < V.length) (hV : V.set i (some (.int v)) = V') (kk : zq_V x D tys ws k n (pc + 1) V' st) : zq_V x D tys ws k n pc V (.int v :: st) :=
  fun ls H locs hl hP hD hS => lv_istore_n hG.1 hG.2.1 hd hi hl.has hn rfl (fun ls' h' => kk ls' H locs (hV ▸ hl.st hn rfl h') hP hD hS)
theorem zr_istore (hG : zq_H x D tys own cc nL rm) {i : Nat} {v : Int32} (V' : List (Option Value)) (hd : decode cc pc = .ok (.istore i, 2)) (hn : i < V.length) (hV : V.set i (some (.int v)) = V') (kk : zq_V x D tys ws k n (pc + 2) V' st) : zq_V x D tys ws k n pc V (.int v :: st) :=
  fun ls H locs hl hP hD hS => lv_istore hG.1 hG.2.1 hd hl.has hn rfl (fun ls' h' => kk ls' H locs (hV ▸ hl.st hn rfl h') hP hD hS)
theorem zr_astore_n (hG : zq_H x D tys own cc nL rm) {j : Fin 4} {i : Nat} {v : Nat} (V' : List (Option Value)) (hd : decode cc pc = .ok (.astore_n j, 1)) (hi : (j : Nat) = i) (hn : i < V.length) (hV : V.set i (some (.ref v)) = V') (kk : zq_V x D tys ws k n (pc + 1) V' st) : zq_V x D tys ws k n pc V (.ref v :: st) :=
  fun ls H locs hl hP hD hS => lv_astore_n hG.1 hG.2.1 hd hi hl.has hn rfl (fun ls' h' => kk ls' H locs (hV ▸ hl.st hn rfl h') hP hD hS)
theorem zr_astore (hG : zq_H x D tys own cc nL rm) {i : Nat} {v : Nat} (V' : List (Option Value)) (hd : decode cc pc = .ok (.astore i, 2)) (hn : i < V.length) (hV : V.set i (some (.ref v)) = V') (kk : zq_V x D tys ws k n (pc + 2) V' st) : zq_V x D tys ws k n pc V (.ref v :: st) :=
  fun ls H locs hl hP hD hS => lv_astore hG.1 hG.2.1 hd hl.has hn rfl (fun ls' h' => kk ls' H locs (hV ▸ hl.st hn rfl h') hP hD hS)
theorem zr_iinc (hG : zq_H x D tys own cc nL rm) {i : Nat} {d : Int} {v u : Int32} (V' : List (Option Value)) (hd : decode cc pc = .ok (.iinc i d, 3)) (hv : V[i]? = some (some (.int v))) (hu : Int32.ofInt d = u) (hn : i < V.length) (hV : V.set i (some (.int (v + u))) = V') (kk : zq_V x D tys ws k n (pc + 3) V' st) : zq_V x D tys ws k n pc V st := by
  intro ls H locs hl hP hD hS
  obtain ⟨j, hj⟩ := List.mem_iff_getElem?.mp (zq_tl_mem.mpr hv)
  exact lv_iinc hG.1 hG.2.1 hd hl.has hj (by rw [hu]) hn rfl (fun ls' h' => kk ls' H locs (hV ▸ hl.st hn rfl h') hP hD hS)
theorem zr_iadd (hG : zq_H x D tys own cc nL rm) {a b : Int32} (hd : decode cc pc = .ok (.iadd, 1)) (kk : zq_V x D tys ws k n (pc + 1) V (.int (a + b) :: st)) : zq_V x D tys ws k n pc V (.int b :: .int a :: st) :=
  fun ls H locs hl hP hD hS => lv_iadd hG.1 hG.2.1 hd (kk ls H locs hl hP hD hS)
theorem zr_isub (hG : zq_H x D tys own cc nL rm) {a b : Int32} (hd : decode cc pc = .ok (.isub, 1)) (kk : zq_V x D tys ws k n (pc + 1) V (.int (a - b) :: st)) : zq_V x D tys ws k n pc V (.int b :: .int a :: st) :=
  fun ls H locs hl hP hD hS => lv_isub hG.1 hG.2.1 hd (kk ls H locs hl hP hD hS)
theorem zr_imul (hG : zq_H x D tys own cc nL rm) {a b : Int32} (hd : decode cc pc = .ok (.imul, 1)) (kk : zq_V x D tys ws k n (pc + 1) V (.int (a * b) :: st)) : zq_V x D tys ws k n pc V (.int b :: .int a :: st) :=
  fun ls H locs hl hP hD hS => lv_imul hG.1 hG.2.1 hd (kk ls H locs hl hP hD hS)
theorem zr_iand (hG : zq_H x D tys own cc nL rm) {a b : Int32} (hd : decode cc pc = .ok (.iand, 1)) (kk : zq_V x D tys ws k n (pc + 1) V (.int (a &&& b) :: st)) : zq_V x D tys ws k n pc V (.int b :: .int a :: st) :=
  fun ls H locs hl hP hD hS => lv_iand hG.1 hG.2.1 hd (kk ls H locs hl hP hD hS)
theorem zr_ior (hG : zq_H x D tys own cc nL rm) {a b : Int32} (hd : decode cc pc = .ok (.ior, 1)) (kk : zq_V x D tys ws k n (pc + 1) V (.int (a ||| b) :: st)) : zq_V x D tys ws k n pc V (.int b :: .int a :: st) :=
  fun ls H locs hl hP hD hS => lv_ior hG.1 hG.2.1 hd (kk ls H locs hl hP hD hS)
theorem zr_ixor (hG : zq_H x D tys own cc nL rm) {a b : Int32} (hd : decode cc pc = .ok (.ixor, 1)) (kk : zq_V x D tys ws k n (pc + 1) V (.int (a ^^^ b) :: st)) : zq_V x D tys ws k n pc V (.int b :: .int a :: st) :=
  fun ls H locs hl hP hD hS => lv_ixor hG.1 hG.2.1 hd (kk ls H locs hl hP hD hS)
theorem zr_ishl (hG : zq_H x D tys own cc nL rm) {a b : Int32} (hd : decode cc pc = .ok (.ishl, 1)) (kk : zq_V x D tys ws k n (pc + 1) V (.int (a <<< (b &&& 31)) :: st)) : zq_V x D tys ws k n pc V (.int b :: .int a :: st) :=
  fun ls H locs hl hP hD hS => lv_ishl hG.1 hG.2.1 hd (kk ls H locs hl hP hD hS)
theorem zr_ishr (hG : zq_H x D tys own cc nL rm) {a b : Int32} (hd : decode cc pc = .ok (.ishr, 1)) (kk : zq_V x D tys ws k n (pc + 1) V (.int (a >>> (b &&& 31)) :: st)) : zq_V x D tys ws k n pc V (.int b :: .int a :: st) :=
  fun ls H locs hl hP hD hS => lv_ishr hG.1 hG.2.1 hd (kk ls H locs hl hP hD hS)
theorem zr_idiv (hG : zq_H x D tys own cc nL rm) {a b : Int32} (hd : decode cc pc = .ok (.idiv, 1)) (hne : ¬ b = 0) (kk : zq_V x D tys ws k n (pc + 1) V (.int (a / b) :: st)) : zq_V x D tys ws k n pc V (.int b :: .int a :: st) :=
  fun ls H locs hl hP hD hS => lv_idiv hG.1 hG.2.1 hd hne (kk ls H locs hl hP hD hS)
theorem zr_irem (hG : zq_H x D tys own cc nL rm) {a b : Int32} (hd : decode cc pc = .ok (.irem, 1)) (hne : ¬ b = 0) (kk : zq_V x D tys ws k n (pc + 1) V (.int (a - a / b * b) :: st)) : zq_V x D tys ws k n pc V (.int b :: .int a :: st) :=
  fun ls H locs hl hP hD hS => lv_irem hG.1 hG.2.1 hd hne (kk ls H locs hl hP hD hS)
theorem zr_dup (hG : zq_H x D tys own cc nL rm) {v : Value} (hd : decode cc pc = .ok (.dup, 1)) (hc : v.category = 1) (kk : zq_V x D tys ws k n (pc + 1) V (v :: v :: st)) : zq_V x D tys ws k n pc V (v :: st) :=
  fun ls H locs hl hP hD hS => lv_dup hG.1 hG.2.1 hd hc (kk ls H locs hl hP hD hS)
theorem zr_goto (hG : zq_H x D tys own cc nL rm) {off : Int} (tgt : Nat) (hd : decode cc pc = .ok (.goto off, 3)) (ht : (pc : Int) + off = (tgt : Int)) (kk : zq_V x D tys ws k n tgt V st) : zq_V x D tys ws k n pc V st :=
  fun ls H locs hl hP hD hS => lv_goto hG.1 hG.2.1 hd ht (kk ls H locs hl hP hD hS)
theorem zr_if_eq (hG : zq_H x D tys own cc nL rm) {a : Int32} {off : Int} (tgt : Nat) (hd : decode cc pc = .ok (.ifCond .eq off, 3)) (ht : (pc : Int) + off = (tgt : Int)) (kt : a = 0 → zq_V x D tys ws k n tgt V st) (kf : ¬ a = 0 → zq_V x D tys ws k n (pc + 3) V st) : zq_V x D tys ws k n pc V (.int a :: st) :=
  fun ls H locs hl hP hD hS => lv_if_eq hG.1 hG.2.1 hd ht (fun h => kt h ls H locs hl hP hD hS) (fun h => kf h ls H locs hl hP hD hS)
theorem zr_if_ne (hG : zq_H x D tys own cc nL rm) {a : Int32} {off : Int} (tgt : Nat) (hd : decode cc pc = .ok (.ifCond .ne off, 3)) (ht : (pc : Int) + off = (tgt : Int)) (kt : ¬ a = 0 → zq_V x D tys ws k n tgt V st) (kf : a = 0 → zq_V x D tys ws k n (pc + 3) V st) : zq_V x D tys ws k n pc V (.int a :: st) :=
  fun ls H locs hl hP hD hS => lv_if_ne hG.1 hG.2.1 hd ht (fun h => kt h ls H locs hl hP hD hS) (fun h => kf h ls H locs hl hP hD hS)
theorem zr_if_lt (hG : zq_H x D tys own cc nL rm) {a : Int32} {off : Int} (tgt : Nat) (hd : decode cc pc = .ok (.ifCond .lt off, 3)) (ht : (pc : Int) + off = (tgt : Int)) (kt : a < 0 → zq_V x D tys ws k n tgt V st) (kf : ¬ a < 0 → zq_V x D tys ws k n (pc + 3) V st) : zq_V x D tys ws k n pc V (.int a :: st) :=
  fun ls H locs hl hP hD hS => lv_if_lt hG.1 hG.2.1 hd ht (fun h => kt h ls H locs hl hP hD hS) (fun h => kf h ls H locs hl hP hD hS)
theorem zr_if_ge (hG : zq_H x D tys own cc nL rm) {a : Int32} {off : Int} (tgt : Nat) (hd : decode cc pc = .ok (.ifCond .ge off, 3)) (ht : (pc : Int) + off = (tgt : Int)) (kt : 0 ≤ a → zq_V x D tys ws k n tgt V st) (kf : ¬ 0 ≤ a → zq_V x D tys ws k n (pc + 3) V st) : zq_V x D tys ws k n pc V (.int a :: st) :=
  fun ls H locs hl hP hD hS => lv_if_ge hG.1 hG.2.1 hd ht (fun h => kt h ls H locs hl hP hD hS) (fun h => kf h ls H locs hl hP hD hS)
theorem zr_if_gt (hG : zq_H x D tys own cc nL rm) {a : Int32} {off : Int} (tgt : Nat) (hd : decode cc pc = .ok (.ifCond .gt off, 3)) (ht : (pc : Int) + off = (tgt : Int)) (kt : 0 < a → zq_V x D tys ws k n tgt V st) (kf : ¬ 0 < a → zq_V x D tys ws k n (pc + 3) V st) : zq_V x D tys ws k n pc V (.int a :: st) :=
  fun ls H locs hl hP hD hS => lv_if_gt hG.1 hG.2.1 hd ht (fun h => kt h ls H locs hl hP hD hS) (fun h => kf h ls H locs hl hP hD hS)
theorem zr_if_le (hG : zq_H x D tys own cc nL rm) {a : Int32} {off : Int} (tgt : Nat) (hd : decode cc pc = .ok (.ifCond .le off, 3)) (ht : (pc : Int) + off = (tgt : Int)) (kt : a ≤ 0 → zq_V x D tys ws k n tgt V st) (kf : ¬ a ≤ 0 → zq_V x D tys ws k n (pc + 3) V st) : zq_V x D tys ws k n pc V (.int a :: st) :=
  fun ls H locs hl hP hD hS => lv_if_le hG.1 hG.2.1 hd ht (fun h => kt h ls H locs hl hP hD hS) (fun h => kf h ls H locs hl hP hD hS)
theorem zr_icmp_eq (hG : zq_H x D tys own cc nL rm) {a b : Int32} {off : Int} (tgt : Nat) (hd : decode cc pc = .ok (.if_icmp .eq off, 3)) (ht : (pc : Int) + off = (tgt : Int)) (kt : a = b → zq_V x D tys ws k n tgt V st) (kf : ¬ a = b → zq_V x D tys ws k n (pc + 3) V st) : zq_V x D tys ws k n pc V (.int b :: .int a :: st) :=
  fun ls H locs hl hP hD hS => lv_icmp_eq hG.1 hG.2.1 hd ht (fun h => kt h ls H locs hl hP hD hS) (fun h => kf h ls H locs hl hP hD hS)
theorem zr_icmp_ne (hG : zq_H x D tys own cc nL rm) {a b : Int32} {off : Int} (tgt : Nat) (hd : decode cc pc = .ok (.if_icmp .ne off, 3)) (ht : (pc : Int) + off = (tgt : Int)) (kt : ¬ a = b → zq_V x D tys ws k n tgt V st) (kf : a = b → zq_V x D tys ws k n (pc + 3) V st) : zq_V x D tys ws k n pc V (.int b :: .int a :: st) :=
  fun ls H locs hl hP hD hS => lv_icmp_ne hG.1 hG.2.1 hd ht (fun h => kt h ls H locs hl hP hD hS) (fun h => kf h ls H locs hl hP hD hS)
theorem zr_icmp_lt (hG : zq_H x D tys own cc nL rm) {a b : Int32} {off : Int} (tgt : Nat) (hd : decode cc pc = .ok (.if_icmp .lt off, 3)) (ht : (pc : Int) + off = (tgt : Int)) (kt : a < b → zq_V x D tys ws k n tgt V st) (kf : ¬ a < b → zq_V x D tys ws k n (pc + 3) V st) : zq_V x D tys ws k n pc V (.int b :: .int a :: st) :=
  fun ls H locs hl hP hD hS => lv_icmp_lt hG.1 hG.2.1 hd ht (fun h => kt h ls H locs hl hP hD hS) (fun h => kf h ls H locs hl hP hD hS)
theorem zr_icmp_ge (hG : zq_H x D tys own cc nL rm) {a b : Int32} {off : Int} (tgt : Nat) (hd : decode cc pc = .ok (.if_icmp .ge off, 3)) (ht : (pc : Int) + off = (tgt : Int)) (kt : b ≤ a → zq_V x D tys ws k n tgt V st) (kf : ¬ b ≤ a → zq_V x D tys ws k n (pc + 3) V st) : zq_V x D tys ws k n pc V (.int b :: .int a :: st) :=
  fun ls H locs hl hP hD hS => lv_icmp_ge hG.1 hG.2.1 hd ht (fun h => kt h ls H locs hl hP hD hS) (fun h => kf h ls H locs hl hP hD hS)
theorem zr_icmp_gt (hG : zq_H x D tys own cc nL rm) {a b : Int32} {off : Int} (tgt : Nat) (hd : decode cc pc = .ok (.if_icmp .gt off, 3)) (ht : (pc : Int) + off = (tgt : Int)) (kt : b < a → zq_V x D tys ws k n tgt V st) (kf : ¬ b < a → zq_V x D tys ws k n (pc + 3) V st) : zq_V x D tys ws k n pc V (.int b :: .int a :: st) :=
  fun ls H locs hl hP hD hS => lv_icmp_gt hG.1 hG.2.1 hd ht (fun h => kt h ls H locs hl hP hD hS) (fun h => kf h ls H locs hl hP hD hS)
theorem zr_icmp_le (hG : zq_H x D tys own cc nL rm) {a b : Int32} {off : Int} (tgt : Nat) (hd : decode cc pc = .ok (.if_icmp .le off, 3)) (ht : (pc : Int) + off = (tgt : Int)) (kt : a ≤ b → zq_V x D tys ws k n tgt V st) (kf : ¬ a ≤ b → zq_V x D tys ws k n (pc + 3) V st) : zq_V x D tys ws k n pc V (.int b :: .int a :: st) :=
  fun ls H locs hl hP hD hS => lv_icmp_le hG.1 hG.2.1 hd ht (fun h => kt h ls H locs hl hP hD hS) (fun h => kf h ls H locs hl hP hD hS)
theorem zr_swIn (hG : zq_H x D tys own cc nL rm) {a : Int32} {dflt lo hi : Int} {offs : Array Int} {len : Nat} {off : Int} (tgt : Nat) (hd : decode cc pc = .ok (.tableswitch dflt lo hi offs, len)) (h1 : ¬ a.toInt < lo) (h2 : ¬ hi < a.toInt) (ho : offs[(a.toInt - lo).toNat]? = some off) (ht : (pc : Int) + off = (tgt : Int)) (kk : zq_V x D tys ws k n tgt V st) : zq_V x D tys ws k n pc V (.int a :: st) :=
  fun ls H locs hl hP hD hS => lv_tableIn hG.1 hG.2.1 hd h1 h2 ho ht (kk ls H locs hl hP hD hS)
theorem zr_swOut (hG : zq_H x D tys own cc nL rm) {a : Int32} {dflt lo hi : Int} {offs : Array Int} {len : Nat} (tgt : Nat) (hd : decode cc pc = .ok (.tableswitch dflt lo hi offs, len)) (h : a.toInt < lo ∨ hi < a.toInt) (ht : (pc : Int) + dflt = (tgt : Int)) (kk : zq_V x D tys ws k n tgt V st) : zq_V x D tys ws k n pc V (.int a :: st) :=
  fun ls H locs hl hP hD hS => lv_tableOut hG.1 hG.2.1 hd h ht (kk ls H locs hl hP hD hS)
/-! fields and arrays, by their places in the world -/
theorem zr_get (hG : zq_H x D tys own cc nL rm) {C : String} {T : u_T} {N ci index a : Nat} (hin : ∀ t ∈ u_ws C T N, t ∈ zq_T) (q0 : Nat) {fs : List Value} (he : ws[q0]? = some (a, .inr (ci, fs))) (hc : vwCl[ci]? = some (C, T, N)) (j : Nat) (hj : j < N) (hC : (T j).1 = C) (ht : Cond.fieldLink own index C (T j).2.1 (T j).2.2.1 ∈ zq_T) {v : Value} (hv : fs[j]? = some v) (hd : decode cc pc = .ok (.getfield index, 3))
    (kk : zq_V x D tys ws k n (pc + 3) V (v :: st)) : zq_V x D tys ws k n pc V (.ref a :: st) :=
  fun ls H locs hl hP hD hS => va_get hG.1 hG.2.1 hG.2.2.2.2.1 hin hG.2.2.2.1 hG.2.2.2.2.2.1 hP q0 he hc j hj (hG.2.2.2.2.1 _ ht) (fun _ h => hC ▸ h) hv hd (kk ls H locs hl hP hD hS)
theorem zr_put (hG : zq_H x D tys own cc nL rm) (hw : ∀ (k : Nat) (q : Nat × va_E), ws[k]? = some q → zc_A x q.1) {C : String} {T : u_T} {N ci index a : Nat} (hin : ∀ t ∈ u_ws C T N, t ∈ zq_T) (ty0 : Nat → FieldType) (hty : ∀ k, k < N → parseFieldDescriptor (T k).2.2.1 = some (ty0 k)) (hnm : ∀ a, a < N → ∀ b, b < N → a ≠ b → (T a).2.1 ≠ (T b).2.1) (q0 : Nat) {fs : List Value} (he : ws[q0]? = some (a, .inr (ci, fs))) (hc : vwCl[ci]? = some (C, T, N)) (j : Nat) (hj : j < N) (hC : (T j).1 = C) (ht : Cond.fieldLink own index C (T j).2.1 (T j).2.2.1 ∈ zq_T) (hfin : (T j).2.2.2 = false) {ty : FieldType} {v : Value} (hde : parseFieldDescriptor (T j).2.2.1 = some ty) (hn : narrow ty v = v) (hfit : fits ty v = true) (hl : j < fs.length) (ws' : va_W) (hσ : ws.set q0 (a, .inr (ci, fs.set j v)) = ws') (hd : decode cc pc = .ok (.putfield index, 3))
    (kk : zq_V x D tys ws' k n (pc + 3) V st) : zq_V x D tys ws k n pc V (v :: .ref a :: st) :=
  fun ls H locs hl' hP hD hS => va_put hG.1 hG.2.1 hG.2.2.2.2.1 hin ty0 hty hnm hG.2.2.2.1 hG.2.2.2.2.2.1 hP ⟨hD.1, hw⟩ hS q0 he hc j hj (hG.2.2.2.2.1 _ ht) (fun _ h => hC ▸ h) hfin hde hn hfit hl hd (fun H1 locs1 hP1 hD1 hS1 => kk ls H1 locs1 hl' (hσ ▸ hP1) (hσ ▸ (⟨hD1.1, fun _ _ _ => trivial⟩ : va_D (fun _ => True) _)) hS1)
theorem zr_iald (hG : zq_H x D tys own cc nL rm) (q0 t0 : Nat) {cA : ClassId} {a N : Nat} {f : Nat → Int32} (ha : ws[q0]? = some (a, .inl (cA, N, .inl f))) (ht : tys[t0]? = some (cA, .int)) {i : Int32} (hi : vp_in i N) (hd : decode cc pc = .ok (.iaload, 1))
    (kk : zq_V x D tys ws k n (pc + 1) V (.int (f i.toNatClampNeg) :: st)) : zq_V x D tys ws k n pc V (.int i :: .ref a :: st) :=
  fun ls H locs hl hP hD hS => va_iald hG.1 hG.2.1 hG.2.2.2.2.2.1 hP q0 t0 ha ht hi hd (kk ls H locs hl hP hD hS)
theorem zr_zald (hG : zq_H x D tys own cc nL rm) (q0 t0 : Nat) {cA : ClassId} {a N : Nat} {f : Nat → Int32} (ha : ws[q0]? = some (a, .inl (cA, N, .inl f))) (ht : tys[t0]? = some (cA, .boolean)) {i : Int32} (hi : vp_in i N) (hd : decode cc pc = .ok (.baload, 1))
    (kk : zq_V x D tys ws k n (pc + 1) V (.int (f i.toNatClampNeg) :: st)) : zq_V x D tys ws k n pc V (.int i :: .ref a :: st) :=
  fun ls H locs hl hP hD hS => va_zald hG.1 hG.2.1 hG.2.2.2.2.2.1 hP q0 t0 ha ht hi hd (kk ls H locs hl hP hD hS)
theorem zr_iast (hG : zq_H x D tys own cc nL rm) (hw : ∀ (k : Nat) (q : Nat × va_E), ws[k]? = some q → zc_A x q.1) (q0 t0 : Nat) {cA : ClassId} {a N : Nat} {f : Nat → Int32} (ha : ws[q0]? = some (a, .inl (cA, N, .inl f))) (ht : tys[t0]? = some (cA, .int)) {i v : Int32} (hi : vp_in i N) (ws' : va_W) (hσ : ws.set q0 (a, .inl (cA, N, .inl (upd f i.toNatClampNeg v))) = ws') (hd : decode cc pc = .ok (.iastore, 1))
    (kk : zq_V x D tys ws' k n (pc + 1) V st) : zq_V x D tys ws k n pc V (.int v :: .int i :: .ref a :: st) :=
  fun ls H locs hl hP hD hS => va_iast hG.1 hG.2.1 hG.2.2.2.2.2.1 hP ⟨hD.1, hw⟩ hS q0 t0 ha ht hi hd (fun H1 locs1 hP1 hD1 hS1 => kk ls H1 locs1 hl (hσ ▸ hP1) (hσ ▸ (⟨hD1.1, fun _ _ _ => trivial⟩ : va_D (fun _ => True) _)) hS1)
theorem zr_zast (hG : zq_H x D tys own cc nL rm) (hw : ∀ (k : Nat) (q : Nat × va_E), ws[k]? = some q → zc_A x q.1) (q0 t0 : Nat) {cA : ClassId} {a N : Nat} {f : Nat → Int32} (ha : ws[q0]? = some (a, .inl (cA, N, .inl f))) (ht : tys[t0]? = some (cA, .boolean)) {i v : Int32} (hi : vp_in i N) (ws' : va_W) (hσ : ws.set q0 (a, .inl (cA, N, .inl (upd f i.toNatClampNeg (vp_nar .boolean v)))) = ws') (hd : decode cc pc = .ok (.bastore, 1))
    (kk : zq_V x D tys ws' k n (pc + 1) V st) : zq_V x D tys ws k n pc V (.int v :: .int i :: .ref a :: st) :=
  fun ls H locs hl hP hD hS => va_zast hG.1 hG.2.1 hG.2.2.2.2.2.1 hP ⟨hD.1, hw⟩ hS q0 t0 ha ht hi hd (fun H1 locs1 hP1 hD1 hS1 => kk ls H1 locs1 hl (hσ ▸ hP1) (hσ ▸ (⟨hD1.1, fun _ _ _ => trivial⟩ : va_D (fun _ => True) _)) hS1)
theorem zr_last (hG : zq_H x D tys own cc nL rm) (hw : ∀ (k : Nat) (q : Nat × va_E), ws[k]? = some q → zc_A x q.1) (q0 t0 : Nat) {cA : ClassId} {a N : Nat} {f : Nat → Int64} (ha : ws[q0]? = some (a, .inl (cA, N, .inr (.inl f)))) (ht : tys[t0]? = some (cA, .long)) {i : Int32} {v : Int64} (hi : vp_in i N) (ws' : va_W) (hσ : ws.set q0 (a, .inl (cA, N, .inr (.inl (vp_updL f i.toNatClampNeg v)))) = ws') (hd : decode cc pc = .ok (.lastore, 1))
    (kk : zq_V x D tys ws' k n (pc + 1) V st) : zq_V x D tys ws k n pc V (.long v :: .int i :: .ref a :: st) :=
  fun ls H locs hl hP hD hS => va_last hG.1 hG.2.1 hG.2.2.2.2.2.1 hP ⟨hD.1, hw⟩ hS q0 t0 ha ht hi hd (fun H1 locs1 hP1 hD1 hS1 => kk ls H1 locs1 hl (hσ ▸ hP1) (hσ ▸ (⟨hD1.1, fun _ _ _ => trivial⟩ : va_D (fun _ => True) _)) hS1)
theorem zr_lald (hG : zq_H x D tys own cc nL rm) (q0 t0 : Nat) {cA : ClassId} {a N : Nat} {f : Nat → Int64} (ha : ws[q0]? = some (a, .inl (cA, N, .inr (.inl f)))) (ht : tys[t0]? = some (cA, .long)) {i : Int32} (hi : vp_in i N) (hd : decode cc pc = .ok (.laload, 1))
    (kk : zq_V x D tys ws k n (pc + 1) V (.long (f i.toNatClampNeg) :: st)) : zq_V x D tys ws k n pc V (.int i :: .ref a :: st) :=
  fun ls H locs hl hP hD hS => va_lald hG.1 hG.2.1 hG.2.2.2.2.2.1 hP q0 t0 ha ht hi hd (kk ls H locs hl hP hD hS)
end ZR
/-! contracts, calls, returns, loops -/
def zq_ty (w : zW) : List (ClassId × FieldType) := [(w.2.2.2 0, .int), (w.2.2.2 1, .boolean), (w.2.2.2 2, .long)]
abbrev zq_W (x : zC) (w : zW) (k n : Nat) (σ : zG) (pc : Nat) (V : List (Option Value)) (st : List Value) : Prop := zq_V x w.1 (zq_ty w) (zq_w w σ) k n pc V st
abbrev zq_G (x : zC) (w : zW) (own : String) (cc : ByteArray) (nL : Nat) (rm : Room) : Prop := zq_H x w.1 (zq_ty w) own cc nL rm
theorem zq_ad (w : zW) (σ : zG) : (zq_w w σ).map (fun q => q.1) = (List.range 41).map w.2.1 := rfl
theorem zq_D_ad {A : Nat → Prop} {ws ws' : va_W} (h : va_D A ws) (e : ws'.map (fun q => q.1) = ws.map (fun q => q.1)) : va_D A ws' := by
  have key : ∀ (i : Nat) (p : Nat × va_E), ws'[i]? = some p → ∃ p', ws[i]? = some p' ∧ p'.1 = p.1 := by
    intro i p hp
    have h1 : (ws'.map (fun q => q.1))[i]? = some p.1 := by rw [List.getElem?_map, hp]; rfl
    rw [e, List.getElem?_map] at h1
    cases hq : ws[i]? with
    | none => rw [hq] at h1; cases h1
    | some u => rw [hq] at h1; exact ⟨u, rfl, Option.some.inj h1⟩
  refine ⟨fun i j p q hp hq epq => ?_, fun i p hp => ?_⟩
  · obtain ⟨p', hp', ep⟩ := key i p hp
    obtain ⟨q', hq', eq⟩ := key j q hq
    exact h.1 i j p' q' hp' hq' (by rw [ep, eq, epq])
  · obtain ⟨p', hp', ep⟩ := key i p hp
    rw [← ep]
    exact h.2 i p' hp'
def zq_A (w : zW) : Nat → Prop := fun q => ∃ i, i < 41 ∧ q = w.2.1 i
def zq_Ap (w : zW) : Prop := ∀ σ, va_D (fun _ => True) (zq_w w σ)
/-- what a method that only reads may write -/
def zq_0 : Nat → Prop := fun _ => False
/-- the walk may write to the world -/
def zq_Wr (x : zC) (w : zW) : Prop := ∀ (σ : zG) (k : Nat) (q : Nat × va_E), (zq_w w σ)[k]? = some q → zc_A x q.1
def zq_Pc (w : zW) (vs : List Value) (σ : zG) : Array Value → State → Prop := fun v U => v = vs.toArray ∧ va_P w.1 vwCl (zq_w w σ) U.heap ∧ va_K w.1 vwCl (zq_ty w) U
def zq_Qc (w : zW) (F : Nat → Prop) (P : Option Value → zG → Prop) : Array Value → State → Outcome → State → Prop := fun _ st oc t => ∃ (r : Option Value) (σ' : zG), oc = .returned r ∧ P r σ' ∧ va_P w.1 vwCl (zq_w w σ') t.heap ∧ va_F F st t
def zq_M (l : Launch) (w : zW) (F : Nat → Prop) (y : MethodName) (cc : ByteArray) (nL : Nat) (ret : Option FieldType) (rm : Room) (vs : List Value) (σ : zG) (P : Option Value → zG → Prop) : Prop :=
  Met l y (.code y cc nL ret :: zq_T) rm (zq_Pc w vs σ) (zq_Qc w F P) 0 0 F
def zq_R (x : zC) (w : zW) (F : Nat → Prop) (ret : Option FieldType) (P : Option Value → zG → Prop) : Prop :=
  (zc_h x).sig.returnType = ret ∧ (zc_h x).locks = false ∧ zc_A x = F ∧ zc_Q x = MQ (zc_b x) (zq_Qc w F P) (zc_a x) (zc_s x) 0 0 F
theorem zq_wr {x : zC} {w : zW} (h : zc_A x = zq_A w) : zq_Wr x w := by
  intro σ k q hq
  rw [h]
  have h1 : ((zq_w w σ).map (fun q => q.1))[k]? = some q.1 := by rw [List.getElem?_map, hq]; rfl
  rw [zq_ad, List.getElem?_map] at h1
  by_cases hk : k < 41
  · rw [List.getElem?_range hk] at h1
    exact ⟨k, hk, (Option.some.inj h1).symm⟩
  · rw [List.getElem?_eq_none (by simpa using Nat.not_lt.mp hk)] at h1
    cases h1
theorem zq_F1 {x : zC} {w : zW} (h : zq_Wr x w) : ∀ q, zq_A w q → zc_A x q := by
  rintro q ⟨i, hi, rfl⟩
  have σ : zG := ((fun _ => 0, fun _ _ => 0), (fun _ => 0, fun _ _ => 0), 0)
  have h1 : ((zq_w w σ).map (fun q => q.1))[i]? = some (w.2.1 i) := by
    rw [zq_ad, List.getElem?_map, List.getElem?_range hi]
    rfl
  rw [List.getElem?_map] at h1
  cases hq : (zq_w w σ)[i]? with
  | none => rw [hq] at h1; cases h1
  | some u =>
    rw [hq] at h1
    have e : u.1 = w.2.1 i := Option.some.inj h1
    rw [← e]
    exact h σ i u hq
theorem zq_F0 {x : zC} : ∀ q, zq_0 q → zc_A x q := fun _ h => h.elim
theorem zq_blind (w : zW) (vs : List Value) (σ : zG) : FrameBlind (zq_Pc w vs σ) := fun a U g mk q => ⟨q.1, q.2.1, va_K.moved (u := U) (U := U.calling g mk a) (Vm.Alike.refl U.vm) q.2.2⟩
theorem zq_entry (vs : List Value) (nL : Nat) (hn : vs.length ≤ nL) (hc : ∀ v ∈ vs, v.category = 1) : zq_L ((lg_sl vs ++ List.replicate (nL - (lg_sl vs).length) Slot.unset).toArray) (zq_V0 vs nL) := by
  have h := lv_entry vs (n := nL) (by rw [zq_sl vs hc]; simpa using hn)
  refine ⟨by rw [h.1]; simp [zq_V0]; omega, h.2.1, fun i v hv => ?_⟩
  rw [zq_sl vs hc]
  by_cases hi : i < vs.length
  · have hv' : vs[i]? = some v := by
      have h2 : (zq_V0 vs nL)[i]? = (vs.map some)[i]? := List.getElem?_append_left (by simpa using hi)
      rw [h2, List.getElem?_map] at hv
      cases hq : vs[i]? with
      | none => rw [hq] at hv; cases hv
      | some u => rw [hq] at hv; cases hv; rfl
    refine ⟨?_, hc v (List.mem_of_getElem? hv')⟩
    rw [List.getElem?_toArray, List.getElem?_append_left (by simpa using hi), List.getElem?_map, hv']
    rfl
  · have h2 : (zq_V0 vs nL)[i]? = (List.replicate (nL - vs.length) (none : Option Value))[i - vs.length]? := by
      unfold zq_V0
      rw [List.getElem?_append_right (by simpa using Nat.not_lt.mp hi), List.length_map]
    rw [h2, List.getElem?_replicate] at hv
    split at hv <;> cases hv
theorem zq_mk_M {l : Launch} {w : zW} {F : Nat → Prop} {y : MethodName} {cc : ByteArray} {nL : Nat} {ret : Option FieldType} {rm : Room} {vs : List Value} {σ : zG} {P : Option Value → zG → Prop} (hy : plainName y.cls = true) (hc : ∀ v ∈ vs, v.category = 1) (hn : vs.length ≤ nL) (hAp : zq_Ap w)
    (walk : ∀ x : zC, zc_l x = l → zq_G x w y.cls cc nL rm → zq_R x w F ret P → zq_W x w 0 0 σ 0 (zq_V0 vs nL) []) : zq_M l w F y cc nL ret rm vs σ P := by
  refine Met.ofW (cc := cc) (maxL := nL) (ret := ret) hy rfl ?_
  intro p e s m args below meth c s₁ B hml hv
  obtain ⟨rfl, hP, hK⟩ := hv
  have hts := atoms_spec (ws := .code y cc nL ret :: zq_T) B.pre
  have hown : s.vm.findClass y.cls = some m.cls := findClass_of_methodNamed B.named
  have hx := walk (p, l, e, (headSpec (.code y cc nL ret :: zq_T) rm).room, s, m, vs.toArray, below, meth, c, MQ below (zq_Qc w F P) vs.toArray s 0 0 F, F) rfl ⟨B.exec, B.bytes, hml, hown, fun t ht => hts t (List.mem_cons_of_mem _ ht), hK, rfl⟩ ⟨B.returns, B.notSynchronized, rfl, rfl⟩
  rw [lg_entry_eq]
  exact hx _ s.heap [] (zq_entry vs nL hn hc) hP (hAp σ) va_S.rf
section ZR2
variable {x : zC} {w : zW} {own : String} {cc : ByteArray} {nL : Nat} {rm : Room} {k n : Nat} {σ : zG} {pc : Nat} {V : List (Option Value)} {st : List Value} {P : Option Value → zG → Prop} {F : Nat → Prop}
theorem zr_iret (hG : zq_G x w own cc nL rm) (hR : zq_R x w F (some .int) P) {v : Int32} (hd : decode cc pc = .ok (.ireturn, 1)) (hp : P (some (.int v)) σ) : zq_W x w 0 0 σ pc V [.int v] := by
  intro ls H locs hl hP hD hS
  obtain ⟨h1, h2, h3, h4⟩ := hR
  rw [h4]
  rw [h3] at hS
  exact W.iret hG.1 hG.2.1 h1 (fun t ht hW => ⟨_, σ, rfl, hp, by rw [ht]; exact hP, hS.F ht⟩) hS.2.2 hd h2
theorem zr_zret (hG : zq_G x w own cc nL rm) (hR : zq_R x w F (some .boolean) P) {v : Int32} (hd : decode cc pc = .ok (.ireturn, 1)) (hn : narrow .boolean (.int v) = .int v) (hp : P (some (.int v)) σ) : zq_W x w 0 0 σ pc V [.int v] := by
  intro ls H locs hl hP hD hS
  obtain ⟨h1, h2, h3, h4⟩ := hR
  rw [h4]
  rw [h3] at hS
  exact W.zret hG.1 hG.2.1 h1 hn (fun t ht hW => ⟨_, σ, rfl, hp, by rw [ht]; exact hP, hS.F ht⟩) hS.2.2 hd h2
theorem zr_vret (hG : zq_G x w own cc nL rm) (hR : zq_R x w F none P) (hd : decode cc pc = .ok (.return_, 1)) (hp : P none σ) : zq_W x w 0 0 σ pc V [] := by
  intro ls H locs hl hP hD hS
  obtain ⟨h1, h2, h3, h4⟩ := hR
  rw [h4]
  rw [h3] at hS
  exact W.vret hG.1 hG.2.1 h1 (fun t ht hW => ⟨_, σ, rfl, hp, by rw [ht]; exact hP, hS.F ht⟩) hS.2.2 hd h2
theorem zq_go {H : Heap} {locs : List Loc} {ls : Array Slot} {rest : List Value} {a : Array Value} (hF : ∀ q, F q → zc_A x q) (hl : zq_L ls V) (hD : va_D (fun _ => True) (zq_w w σ)) (hS : va_S (zc_A x) (zc_s x).heap H locs)
    (hr : va_Run (zc_p x) (zc_l x) (zc_e x) (zc_R x) (zc_s x) (zc_m x) (zc_a x) (zc_b x) (zc_h x) (zc_c x) H locs k n 0 0 (F0 (zc_m x) pc ls st) rest (zq_Qc w F P a) F)
    (kk : ∀ r σ', P r σ' → zq_W x w k n σ' (pc + 3) V (r.toList ++ rest)) : W (zc_p x) (zc_l x) (zc_e x) (zc_R x) (zc_s x) (zc_m x) (zc_a x) (zc_b x) (zc_h x) (zc_c x) H locs k n (zc_Q x) (F0 (zc_m x) pc ls st) := by
  intro T hT X
  obtain ⟨v, st₀, t, T', L, h0, X', hL, e1, e2, ⟨r, σ', hv, hp, hB, hz, hk⟩, st⟩ := hr T hT X
  cases hv
  rw [h0] at hz hk
  obtain ⟨t2, a1, b1⟩ := kk v σ' hp ls T'.heap (locs ++ L) hl (by rw [e1]; exact hB) (zq_D_ad hD (by rw [zq_ad, zq_ad]))
    ⟨Nat.le_trans hS.1 (by rw [e1]; exact hz), fun q h1 h2 => by rw [e1, hk q (Nat.lt_of_lt_of_le h1 hS.1) (fun z => h2 (hF q z))]; exact hS.2.1 q h1 h2, fun q hq => by
      rcases List.mem_append.mp hq with h | h
      · exact hS.2.2 q h
      · exact hF _ (hL q h)⟩ T' rfl X'
  exact ⟨t2, st t2 a1, b1⟩
/-- the words of a call of an instance method of a class of ours -/
def zq_gV (own : String) (index : Nat) (y : MethodName) (bytes : ByteArray) (maxL : Nat) (ret : Option FieldType) : Prop :=
  Cond.methodLink own index y ∈ zq_T ∧ Cond.instanceMethod y ∈ zq_T ∧ Cond.selects y.cls y y ∈ zq_T ∧ Cond.initialized y.cls ∈ zq_T ∧ Cond.code y bytes maxL ret ∈ zq_T
def zq_gS (own : String) (index : Nat) (y : MethodName) (bytes : ByteArray) (maxL : Nat) (ret : Option FieldType) : Prop :=
  Cond.methodLink own index y ∈ zq_T ∧ Cond.static y ∈ zq_T ∧ Cond.initialized own ∈ zq_T ∧ Cond.code y bytes maxL ret ∈ zq_T
theorem zq_gV.good {own : String} {index : Nat} {y : MethodName} {bytes : ByteArray} {maxL : Nat} {ret : Option FieldType} (h : zq_gV own index y bytes maxL ret) : GoodIn zq_T (wsV own index y.cls y (.code y bytes maxL ret :: zq_T)) := by
  obtain ⟨h1, h2, h3, h4, h5⟩ := h
  intro t ht
  unfold wsV at ht
  have hm : t ∈ zq_T := by
    rcases List.mem_append.mp ht with ht | ht
    · simp only [List.mem_cons, List.not_mem_nil, or_false] at ht
      rcases ht with rfl | rfl | rfl | rfl
      · exact h1
      · exact h2
      · exact h3
      · exact h4
    · rcases List.mem_cons.mp ht with rfl | ht
      · exact h5
      · exact ht
  exact ⟨hm, zq_good t hm⟩
theorem zq_gS.good {own : String} {index : Nat} {y : MethodName} {bytes : ByteArray} {maxL : Nat} {ret : Option FieldType} (h : zq_gS own index y bytes maxL ret) : GoodIn zq_T (wsS own index y (.code y bytes maxL ret :: zq_T)) := by
  obtain ⟨h1, h2, h3, h5⟩ := h
  intro t ht
  unfold wsS at ht
  have hm : t ∈ zq_T := by
    rcases List.mem_append.mp ht with ht | ht
    · simp only [List.mem_cons, List.not_mem_nil, or_false] at ht
      rcases ht with rfl | rfl | rfl
      · exact h1
      · exact h2
      · exact h3
    · rcases List.mem_cons.mp ht with rfl | ht
      · exact h5
      · exact ht
  exact ⟨hm, zq_good t hm⟩
theorem zr_callV (hG : zq_G x w own cc nL rm) (hF : ∀ q, F q → zc_A x q) {y : MethodName} {bytes : ByteArray} {maxL : Nat} {ret : Option FieldType} {rm' : Room} {index b ci : Nat} {As rest fs : List Value} {q : vw_C} (hM : zq_M (zc_l x) w F y bytes maxL ret rm' (.ref b :: As) σ P) (q0 : Nat) (he : (zq_w w σ)[q0]? = some (b, .inr (ci, fs))) (hc : vwCl[ci]? = some q) (hq : q.1 = y.cls) (hw : zq_gV own index y bytes maxL ret)
    (hdd : y.cls ≠ "java/lang/invoke/MethodHandle" ∧ y.cls ≠ "java/lang/invoke/VarHandle" ∧ (parseMethodDescriptor y.desc).map (fun d => d.parameters.length) = some As.length) (hRm : rm'.cells = 0 ∧ rm'.slots = 0 ∧ rm'.frames + 1 ≤ rm.frames ∧ 8 + (maxL + 11) + rm'.locals ≤ rm.locals) (hk : k ≤ rm.cells ∧ n ≤ rm.slots) (hV : V.length = nL) (hst : (rest.map fun v => v.category).sum ≤ 8) (hd : decode cc pc = .ok (.invokevirtual index, 3)) (hs : st = As.reverse ++ .ref b :: rest)
    (kk : ∀ r σ', P r σ' → zq_W x w k n σ' (pc + 3) V (r.toList ++ rest)) : zq_W x w k n σ pc V st := by
  intro ls H locs hl hP hD hS
  subst hs
  have hR : zc_R x = rm := hG.2.2.2.2.2.2
  have hrec := va_recv hG.2.2.2.2.2.1 hP hc he
  rw [hq] at hrec
  refine zq_go hF hl hD hS (va_runV (nL := nL) (cc := cc) (As := As) (rest := rest) ⟨hG.1, hG.2.1, hG.2.2.1, hG.2.2.2.1, hG.2.2.2.2.1⟩ hM (cwV As.length hG.2.2.2.2.1 hw.good rfl hRm.1 hRm.2.1 ⟨rfl, hdd⟩ (by rw [hR]; exact ⟨hRm.2.2.1, hRm.2.2.2⟩)) ⟨zq_blind w _ σ, hrec, fun U hU hW => ⟨rfl, by rw [hU]; exact hP, va_K.moved hW.alike hG.2.2.2.2.2.1⟩⟩ rfl rfl (hl.1.trans hV) rfl (lv_room hst) hd (by rw [hR]; exact hk)) kk
theorem zr_callS (hG : zq_G x w own cc nL rm) (hF : ∀ q, F q → zc_A x q) {y : MethodName} {bytes : ByteArray} {maxL : Nat} {ret : Option FieldType} {rm' : Room} {index : Nat} {As rest : List Value} (hM : zq_M (zc_l x) w F y bytes maxL ret rm' As σ P) (hq : y.cls = own) (hw : zq_gS own index y bytes maxL ret)
    (hdd : y.cls ≠ "java/lang/invoke/MethodHandle" ∧ y.cls ≠ "java/lang/invoke/VarHandle" ∧ (parseMethodDescriptor y.desc).map (fun d => d.parameters.length) = some As.length) (hRm : rm'.cells = 0 ∧ rm'.slots = 0 ∧ rm'.frames + 1 ≤ rm.frames ∧ 8 + (maxL + 11) + rm'.locals ≤ rm.locals) (hk : k ≤ rm.cells ∧ n ≤ rm.slots) (hV : V.length = nL) (hst : (rest.map fun v => v.category).sum ≤ 8) (hd : decode cc pc = .ok (.invokestatic index, 3)) (hs : st = As.reverse ++ rest)
    (kk : ∀ r σ', P r σ' → zq_W x w k n σ' (pc + 3) V (r.toList ++ rest)) : zq_W x w k n σ pc V st := by
  intro ls H locs hl hP hD hS
  subst hs
  have hR : zc_R x = rm := hG.2.2.2.2.2.2
  refine zq_go hF hl hD hS (va_runS (nL := nL) (cc := cc) (As := As) (rest := rest) ⟨hG.1, hG.2.1, hG.2.2.1, hG.2.2.2.1, hG.2.2.2.2.1⟩ hM (cwS As.length hG.2.2.2.2.1 hw.good rfl hRm.1 hRm.2.1 ⟨hq, hdd⟩ (by rw [hR]; exact ⟨hRm.2.2.1, hRm.2.2.2⟩)) ⟨zq_blind w _ σ, fun U hU hW => ⟨rfl, by rw [hU]; exact hP, va_K.moved hW.alike hG.2.2.2.2.2.1⟩⟩ rfl rfl (hl.1.trans hV) rfl (lv_room hst) hd (by rw [hR]; exact hk)) kk
theorem zr_abs (hG : zq_G x w own cc nL rm) {index : Nat} (hl1 : Cond.methodLink own index Lib.Math.abs.name ∈ zq_T) (hl2 : Cond.static Lib.Math.abs.name ∈ zq_T) (hl3 : Cond.initialized "java/lang/Math" ∈ zq_T) (hl4 : Cond.code Lib.Math.abs.name Lib.Math.abs.code 1 (some .int) ∈ zq_T) (hRm : 1 ≤ rm.frames ∧ (st.map fun v => v.category).sum + 13 ≤ rm.locals) (hk : k ≤ rm.cells ∧ n ≤ rm.slots) (hV : V.length = nL) {a : Int32} (hd : decode cc pc = .ok (.invokestatic index, 3))
    (kk : zq_W x w k n σ (pc + 3) V (.int (if 0 ≤ a then a else 0 - a) :: st)) : zq_W x w k n σ pc V (.int a :: st) := by
  intro ls H locs hl hP hD hS
  have hR : zc_R x = rm := hG.2.2.2.2.2.2
  have ht := hG.2.2.2.2.1
  exact va_mabs hG.1 hG.2.1 (hG.2.2.1.trans (hl.1.trans hV).symm) hG.2.2.2.1 (ht _ hl1) (ht _ hl2) (ht _ hl3) (ht _ hl4) (by rw [hR]; exact hRm.1) (by rw [hR]; exact hRm.2) (by rw [hR]; exact hk.1) (by rw [hR]; exact hk.2) hd (kk ls H locs hl hP hD hS)
/-- System.arraycopy within one row of ints -/
theorem zr_acp (hG : zq_G x w own cc nL rm) (hW : zq_Wr x w) {index : Nat} (hl1 : Cond.methodLink own index arraycopyName ∈ zq_T) (hl2 : Cond.native arraycopyName ∈ zq_T) (hl3 : Cond.static arraycopyName ∈ zq_T) (hl4 : Cond.initialized "java/lang/System" ∈ zq_T) (hRm : 1 ≤ rm.frames ∧ (st.map fun v => v.category).sum + (nativeFrameWords "java/lang/System" "arraycopy" 5 + 11) ≤ rm.locals) (hV : V.length = nL) (q0 : Nat) {a N : Nat} {f : Nat → Int32} (ha : (zq_w w σ)[q0]? = some (a, .inl (w.2.2.2 0, N, .inl f))) {sp dp c : Int32} (h1 : ¬ sp < 0) (h2 : ¬ dp < 0) (h3 : ¬ c < 0) (h4 : sp.toNatClampNeg + c.toNatClampNeg ≤ N) (h5 : dp.toNatClampNeg + c.toNatClampNeg ≤ N) (σ' : zG) (hσ : (zq_w w σ).set q0 (a, .inl (w.2.2.2 0, N, .inl (va_cpy f f sp.toNatClampNeg dp.toNatClampNeg c.toNatClampNeg))) = zq_w w σ') (hd : decode cc pc = .ok (.invokestatic index, 3))
    (kk : zq_W x w k n σ' (pc + 3) V st) : zq_W x w k n σ pc V (.int c :: .int dp :: .ref a :: .int sp :: .ref a :: st) := by
  intro ls H locs hl hP hD hS
  have hR : zc_R x = rm := hG.2.2.2.2.2.2
  have ht := hG.2.2.2.2.1
  exact va_copyi hG.1 hG.2.1 (hG.2.2.1.trans (hl.1.trans hV).symm) hG.2.2.2.1 (ht _ hl1) (ht _ hl2) (ht _ hl3) (ht _ hl4) hG.2.2.2.2.2.1 hP ⟨hD.1, hW σ⟩ hS q0 q0 0 0 ha ha rfl rfl rfl h1 h2 h3 h4 h5 (fun i _ => rfl) (by rw [hR]; exact hRm.1) (by rw [hR]; exact hRm.2) hd (fun H1 locs1 hP1 hD1 hS1 => kk ls H1 locs1 hl (hσ ▸ hP1) (hσ ▸ (⟨hD1.1, fun _ _ _ => trivial⟩ : va_D (fun _ => True) _)) hS1)
end ZR2
/-! loops -/
def zq_lp {α : Type} (F : (α → Prop) → α → Prop) : Nat → α → Prop
  | 0, _ => False
  | n + 1, a => F (zq_lp F n) a
def zq_Lp {α : Type} (F : (α → Prop) → α → Prop) (a : α) : Prop := ∃ n, zq_lp F n a
theorem zq_Lp_W {α : Type} {F : (α → Prop) → α → Prop} {WW : α → Prop} (hs : ∀ k : α → Prop, (∀ a, k a → WW a) → ∀ a, F k a → WW a) {a : α} (h : zq_Lp F a) : WW a := by
  obtain ⟨n, h⟩ := h
  induction n generalizing a with
  | zero => exact h.elim
  | succ n ih => exact hs _ (fun a h => ih h) a h
/-- a loop is entered with an invariant and a measure that falls -/
theorem zq_Lp_I {α : Type} {F : (α → Prop) → α → Prop} (I : α → Prop) (μ : α → Nat) (hs : ∀ (k : α → Prop) (a : α), I a → (∀ b, I b → μ b < μ a → k b) → F k a) {a : α} (h : I a) : zq_Lp F a := by
  have key : ∀ n a, μ a < n → I a → zq_lp F n a := by
    intro n
    induction n with
    | zero => intro a h; omega
    | succ n ih => exact fun a hm ha => hs _ a ha (fun b hb hlt => ih b (by omega) hb)
  exact ⟨_, key _ a (Nat.lt_succ_self _) h⟩
/-! states and answers -/
def zs_s (z : zS) (k : Nat) (v : Int32) : zS := (va_up z.1 k v, z.2)
def zs_a (z : zS) (k : Nat) (i v : Int32) : zS := (z.1, va_up z.2 k (upd (z.2 k) i.toNatClampNeg v))
def zs_r (z : zS) (k : Nat) (f : Nat → Int32) : zS := (z.1, va_up z.2 k f)
def zq_Pi (g : zS) (o : Int64) (post : Int32 → zS → Prop) : Option Value → zG → Prop := fun r σ => ∃ (v : Int32) (z : zS), r = some (.int v) ∧ σ = (z, g, o) ∧ post v z
def zq_Pv (g : zS) (o : Int64) (post : zS → Prop) : Option Value → zG → Prop := fun r σ => ∃ z : zS, r = none ∧ σ = (z, g, o) ∧ post z
def zq_Ni (g : zS) (o : Int64) (post : Int32 → zS → Prop) : Option Value → zG → Prop := fun r σ => ∃ (v : Int32) (z : zS), r = some (.int v) ∧ σ = (g, z, o) ∧ post v z
def zq_Nv (g : zS) (o : Int64) (post : zS → Prop) : Option Value → zG → Prop := fun r σ => ∃ z : zS, r = none ∧ σ = (g, z, o) ∧ post z
end
section
section ZF
variable {x : zC} {w : zW} {own : String} {cc : ByteArray} {nL : Nat} {rm : Room} {k n : Nat} {g z : zS} {o : Int64} {pc index : Nat} {V : List (Option Value)} {st : List Value} {i v : Int32}
theorem zf_Gr_grid {σ : zG} (hG : zq_G x w own cc nL rm) (ht : Cond.fieldLink own index "GridRouter" "grid" "LGridRouter$Grid;" ∈ zq_T) (hd : decode cc pc = .ok (.getfield index, 3)) (kk : zq_W x w k n σ (pc + 3) V (.ref (w.2.1 1) :: st)) : zq_W x w k n σ pc V (.ref (w.2.1 0) :: st) :=
  zr_get hG zi0 0 rfl rfl 0 (by decide) rfl ht rfl hd kk
theorem zf_Gr_nets {σ : zG} (hG : zq_G x w own cc nL rm) (ht : Cond.fieldLink own index "GridRouter" "nets" "LGridRouter$Nets;" ∈ zq_T) (hd : decode cc pc = .ok (.getfield index, 3)) (kk : zq_W x w k n σ (pc + 3) V (.ref (w.2.1 5) :: st)) : zq_W x w k n σ pc V (.ref (w.2.1 0) :: st) :=
  zr_get hG zi0 0 rfl rfl 1 (by decide) rfl ht rfl hd kk
theorem zf_Gr_layout {σ : zG} (hG : zq_G x w own cc nL rm) (ht : Cond.fieldLink own index "GridRouter" "layout" "LGridRouter$Layout;" ∈ zq_T) (hd : decode cc pc = .ok (.getfield index, 3)) (kk : zq_W x w k n σ (pc + 3) V (.ref (w.2.1 9) :: st)) : zq_W x w k n σ pc V (.ref (w.2.1 0) :: st) :=
  zr_get hG zi0 0 rfl rfl 2 (by decide) rfl ht rfl hd kk
theorem zf_Gr_rules {σ : zG} (hG : zq_G x w own cc nL rm) (ht : Cond.fieldLink own index "GridRouter" "rules" "LGridRouter$Rules;" ∈ zq_T) (hd : decode cc pc = .ok (.getfield index, 3)) (kk : zq_W x w k n σ (pc + 3) V (.ref (w.2.1 12) :: st)) : zq_W x w k n σ pc V (.ref (w.2.1 0) :: st) :=
  zr_get hG zi0 0 rfl rfl 3 (by decide) rfl ht rfl hd kk
theorem zf_Gr_router {σ : zG} (hG : zq_G x w own cc nL rm) (ht : Cond.fieldLink own index "GridRouter" "router" "LGridRouter$Router;" ∈ zq_T) (hd : decode cc pc = .ok (.getfield index, 3)) (kk : zq_W x w k n σ (pc + 3) V (.ref (w.2.1 17) :: st)) : zq_W x w k n σ pc V (.ref (w.2.1 0) :: st) :=
  zr_get hG zi0 0 rfl rfl 4 (by decide) rfl ht rfl hd kk
theorem zf_Gr_checker {σ : zG} (hG : zq_G x w own cc nL rm) (ht : Cond.fieldLink own index "GridRouter" "checker" "LGridRouter$Checker;" ∈ zq_T) (hd : decode cc pc = .ok (.getfield index, 3)) (kk : zq_W x w k n σ (pc + 3) V (.ref (w.2.1 14) :: st)) : zq_W x w k n σ pc V (.ref (w.2.1 0) :: st) :=
  zr_get hG zi0 0 rfl rfl 5 (by decide) rfl ht rfl hd kk
theorem zf_Gr_rows {σ : zG} (hG : zq_G x w own cc nL rm) (ht : Cond.fieldLink own index "GridRouter" "rows" "LGridRouter$Shapes;" ∈ zq_T) (hd : decode cc pc = .ok (.getfield index, 3)) (kk : zq_W x w k n σ (pc + 3) V (.ref (w.2.1 27) :: st)) : zq_W x w k n σ pc V (.ref (w.2.1 0) :: st) :=
  zr_get hG zi0 0 rfl rfl 6 (by decide) rfl ht rfl hd kk
theorem zf_Grid_width (hG : zq_G x w own cc nL rm) (ht : Cond.fieldLink own index "GridRouter$Grid" "width" "I" ∈ zq_T) (hd : decode cc pc = .ok (.getfield index, 3)) (kk : zq_W x w k n (z, g, o) (pc + 3) V (.int (z.1 0) :: st)) : zq_W x w k n (z, g, o) pc V (.ref (w.2.1 1) :: st) :=
  zr_get hG zi1 1 rfl rfl 0 (by decide) rfl ht rfl hd kk
theorem zf_Grid_height (hG : zq_G x w own cc nL rm) (ht : Cond.fieldLink own index "GridRouter$Grid" "height" "I" ∈ zq_T) (hd : decode cc pc = .ok (.getfield index, 3)) (kk : zq_W x w k n (z, g, o) (pc + 3) V (.int (z.1 1) :: st)) : zq_W x w k n (z, g, o) pc V (.ref (w.2.1 1) :: st) :=
  zr_get hG zi1 1 rfl rfl 1 (by decide) rfl ht rfl hd kk
theorem zf_Grid_area (hG : zq_G x w own cc nL rm) (ht : Cond.fieldLink own index "GridRouter$Grid" "area" "I" ∈ zq_T) (hd : decode cc pc = .ok (.getfield index, 3)) (kk : zq_W x w k n (z, g, o) (pc + 3) V (.int (z.1 2) :: st)) : zq_W x w k n (z, g, o) pc V (.ref (w.2.1 1) :: st) :=
  zr_get hG zi1 1 rfl rfl 2 (by decide) rfl ht rfl hd kk
theorem zf_Grid_cells (hG : zq_G x w own cc nL rm) (ht : Cond.fieldLink own index "GridRouter$Grid" "cells" "I" ∈ zq_T) (hd : decode cc pc = .ok (.getfield index, 3)) (kk : zq_W x w k n (z, g, o) (pc + 3) V (.int (z.1 3) :: st)) : zq_W x w k n (z, g, o) pc V (.ref (w.2.1 1) :: st) :=
  zr_get hG zi1 1 rfl rfl 3 (by decide) rfl ht rfl hd kk
theorem zf_Grid_xOf {σ : zG} (hG : zq_G x w own cc nL rm) (ht : Cond.fieldLink own index "GridRouter$Grid" "xOf" "[I" ∈ zq_T) (hd : decode cc pc = .ok (.getfield index, 3)) (kk : zq_W x w k n σ (pc + 3) V (.ref (w.2.1 2) :: st)) : zq_W x w k n σ pc V (.ref (w.2.1 1) :: st) :=
  zr_get hG zi1 1 rfl rfl 4 (by decide) rfl ht rfl hd kk
theorem zf_Grid_yOf {σ : zG} (hG : zq_G x w own cc nL rm) (ht : Cond.fieldLink own index "GridRouter$Grid" "yOf" "[I" ∈ zq_T) (hd : decode cc pc = .ok (.getfield index, 3)) (kk : zq_W x w k n σ (pc + 3) V (.ref (w.2.1 3) :: st)) : zq_W x w k n σ pc V (.ref (w.2.1 1) :: st) :=
  zr_get hG zi1 1 rfl rfl 5 (by decide) rfl ht rfl hd kk
theorem zf_Grid_beside {σ : zG} (hG : zq_G x w own cc nL rm) (ht : Cond.fieldLink own index "GridRouter$Grid" "beside" "[I" ∈ zq_T) (hd : decode cc pc = .ok (.getfield index, 3)) (kk : zq_W x w k n σ (pc + 3) V (.ref (w.2.1 4) :: st)) : zq_W x w k n σ pc V (.ref (w.2.1 1) :: st) :=
  zr_get hG zi1 1 rfl rfl 6 (by decide) rfl ht rfl hd kk
theorem zf_Nets_first {σ : zG} (hG : zq_G x w own cc nL rm) (ht : Cond.fieldLink own index "GridRouter$Nets" "first" "[I" ∈ zq_T) (hd : decode cc pc = .ok (.getfield index, 3)) (kk : zq_W x w k n σ (pc + 3) V (.ref (w.2.1 6) :: st)) : zq_W x w k n σ pc V (.ref (w.2.1 5) :: st) :=
  zr_get hG zi2 5 rfl rfl 0 (by decide) rfl ht rfl hd kk
theorem zf_Nets_second {σ : zG} (hG : zq_G x w own cc nL rm) (ht : Cond.fieldLink own index "GridRouter$Nets" "second" "[I" ∈ zq_T) (hd : decode cc pc = .ok (.getfield index, 3)) (kk : zq_W x w k n σ (pc + 3) V (.ref (w.2.1 7) :: st)) : zq_W x w k n σ pc V (.ref (w.2.1 5) :: st) :=
  zr_get hG zi2 5 rfl rfl 1 (by decide) rfl ht rfl hd kk
theorem zf_Nets_pinOwner {σ : zG} (hG : zq_G x w own cc nL rm) (ht : Cond.fieldLink own index "GridRouter$Nets" "pinOwner" "[I" ∈ zq_T) (hd : decode cc pc = .ok (.getfield index, 3)) (kk : zq_W x w k n σ (pc + 3) V (.ref (w.2.1 8) :: st)) : zq_W x w k n σ pc V (.ref (w.2.1 5) :: st) :=
  zr_get hG zi2 5 rfl rfl 2 (by decide) rfl ht rfl hd kk
theorem zf_Nets_count (hG : zq_G x w own cc nL rm) (ht : Cond.fieldLink own index "GridRouter$Nets" "count" "I" ∈ zq_T) (hd : decode cc pc = .ok (.getfield index, 3)) (kk : zq_W x w k n (z, g, o) (pc + 3) V (.int (z.1 4) :: st)) : zq_W x w k n (z, g, o) pc V (.ref (w.2.1 5) :: st) :=
  zr_get hG zi2 5 rfl rfl 3 (by decide) rfl ht rfl hd kk
theorem zp_Nets_count (hG : zq_G x w own cc nL rm) (hW : zq_Wr x w) (ht : Cond.fieldLink own index "GridRouter$Nets" "count" "I" ∈ zq_T) (hd : decode cc pc = .ok (.putfield index, 3)) (kk : zq_W x w k n (zs_s z 4 v, g, o) (pc + 3) V st) : zq_W x w k n (z, g, o) pc V (.int v :: .ref (w.2.1 5) :: st) :=
  zr_put hG (hW _) zi2 zt2 zk2 zn2 5 rfl rfl 3 (by decide) rfl ht rfl (ty := .int) (by decide +kernel) rfl rfl (Nat.le_of_ble_eq_true rfl) (zq_w w (zs_s z 4 v, g, o)) rfl hd kk
theorem zf_Nets_grid {σ : zG} (hG : zq_G x w own cc nL rm) (ht : Cond.fieldLink own index "GridRouter$Nets" "grid" "LGridRouter$Grid;" ∈ zq_T) (hd : decode cc pc = .ok (.getfield index, 3)) (kk : zq_W x w k n σ (pc + 3) V (.ref (w.2.1 1) :: st)) : zq_W x w k n σ pc V (.ref (w.2.1 5) :: st) :=
  zr_get hG zi2 5 rfl rfl 4 (by decide) rfl ht rfl hd kk
theorem zf_Layout_owner {σ : zG} (hG : zq_G x w own cc nL rm) (ht : Cond.fieldLink own index "GridRouter$Layout" "owner" "[I" ∈ zq_T) (hd : decode cc pc = .ok (.getfield index, 3)) (kk : zq_W x w k n σ (pc + 3) V (.ref (w.2.1 10) :: st)) : zq_W x w k n σ pc V (.ref (w.2.1 9) :: st) :=
  zr_get hG zi3 9 rfl rfl 0 (by decide) rfl ht rfl hd kk
theorem zf_Layout_vias {σ : zG} (hG : zq_G x w own cc nL rm) (ht : Cond.fieldLink own index "GridRouter$Layout" "vias" "[Z" ∈ zq_T) (hd : decode cc pc = .ok (.getfield index, 3)) (kk : zq_W x w k n σ (pc + 3) V (.ref (w.2.1 11) :: st)) : zq_W x w k n σ pc V (.ref (w.2.1 9) :: st) :=
  zr_get hG zi3 9 rfl rfl 1 (by decide) rfl ht rfl hd kk
theorem zf_Layout_grid {σ : zG} (hG : zq_G x w own cc nL rm) (ht : Cond.fieldLink own index "GridRouter$Layout" "grid" "LGridRouter$Grid;" ∈ zq_T) (hd : decode cc pc = .ok (.getfield index, 3)) (kk : zq_W x w k n σ (pc + 3) V (.ref (w.2.1 1) :: st)) : zq_W x w k n σ pc V (.ref (w.2.1 9) :: st) :=
  zr_get hG zi3 9 rfl rfl 2 (by decide) rfl ht rfl hd kk
theorem zf_Layout_nets {σ : zG} (hG : zq_G x w own cc nL rm) (ht : Cond.fieldLink own index "GridRouter$Layout" "nets" "LGridRouter$Nets;" ∈ zq_T) (hd : decode cc pc = .ok (.getfield index, 3)) (kk : zq_W x w k n σ (pc + 3) V (.ref (w.2.1 5) :: st)) : zq_W x w k n σ pc V (.ref (w.2.1 9) :: st) :=
  zr_get hG zi3 9 rfl rfl 3 (by decide) rfl ht rfl hd kk
theorem zf_Rules_blocked {σ : zG} (hG : zq_G x w own cc nL rm) (ht : Cond.fieldLink own index "GridRouter$Rules" "blocked" "[Z" ∈ zq_T) (hd : decode cc pc = .ok (.getfield index, 3)) (kk : zq_W x w k n σ (pc + 3) V (.ref (w.2.1 13) :: st)) : zq_W x w k n σ pc V (.ref (w.2.1 12) :: st) :=
  zr_get hG zi4 12 rfl rfl 0 (by decide) rfl ht rfl hd kk
theorem zf_Rules_spaced (hG : zq_G x w own cc nL rm) (ht : Cond.fieldLink own index "GridRouter$Rules" "spaced" "Z" ∈ zq_T) (hd : decode cc pc = .ok (.getfield index, 3)) (kk : zq_W x w k n (z, g, o) (pc + 3) V (.int (z.1 5) :: st)) : zq_W x w k n (z, g, o) pc V (.ref (w.2.1 12) :: st) :=
  zr_get hG zi4 12 rfl rfl 1 (by decide) rfl ht rfl hd kk
theorem zf_Rules_grid {σ : zG} (hG : zq_G x w own cc nL rm) (ht : Cond.fieldLink own index "GridRouter$Rules" "grid" "LGridRouter$Grid;" ∈ zq_T) (hd : decode cc pc = .ok (.getfield index, 3)) (kk : zq_W x w k n σ (pc + 3) V (.ref (w.2.1 1) :: st)) : zq_W x w k n σ pc V (.ref (w.2.1 12) :: st) :=
  zr_get hG zi4 12 rfl rfl 2 (by decide) rfl ht rfl hd kk
theorem zf_Rules_nets {σ : zG} (hG : zq_G x w own cc nL rm) (ht : Cond.fieldLink own index "GridRouter$Rules" "nets" "LGridRouter$Nets;" ∈ zq_T) (hd : decode cc pc = .ok (.getfield index, 3)) (kk : zq_W x w k n σ (pc + 3) V (.ref (w.2.1 5) :: st)) : zq_W x w k n σ pc V (.ref (w.2.1 12) :: st) :=
  zr_get hG zi4 12 rfl rfl 3 (by decide) rfl ht rfl hd kk
theorem zf_Rules_layout {σ : zG} (hG : zq_G x w own cc nL rm) (ht : Cond.fieldLink own index "GridRouter$Rules" "layout" "LGridRouter$Layout;" ∈ zq_T) (hd : decode cc pc = .ok (.getfield index, 3)) (kk : zq_W x w k n σ (pc + 3) V (.ref (w.2.1 9) :: st)) : zq_W x w k n σ pc V (.ref (w.2.1 12) :: st) :=
  zr_get hG zi4 12 rfl rfl 4 (by decide) rfl ht rfl hd kk
theorem zf_Checker_grid {σ : zG} (hG : zq_G x w own cc nL rm) (ht : Cond.fieldLink own index "GridRouter$Checker" "grid" "LGridRouter$Grid;" ∈ zq_T) (hd : decode cc pc = .ok (.getfield index, 3)) (kk : zq_W x w k n σ (pc + 3) V (.ref (w.2.1 1) :: st)) : zq_W x w k n σ pc V (.ref (w.2.1 14) :: st) :=
  zr_get hG zi5 14 rfl rfl 0 (by decide) rfl ht rfl hd kk
theorem zf_Checker_nets {σ : zG} (hG : zq_G x w own cc nL rm) (ht : Cond.fieldLink own index "GridRouter$Checker" "nets" "LGridRouter$Nets;" ∈ zq_T) (hd : decode cc pc = .ok (.getfield index, 3)) (kk : zq_W x w k n σ (pc + 3) V (.ref (w.2.1 5) :: st)) : zq_W x w k n σ pc V (.ref (w.2.1 14) :: st) :=
  zr_get hG zi5 14 rfl rfl 1 (by decide) rfl ht rfl hd kk
theorem zf_Checker_layout {σ : zG} (hG : zq_G x w own cc nL rm) (ht : Cond.fieldLink own index "GridRouter$Checker" "layout" "LGridRouter$Layout;" ∈ zq_T) (hd : decode cc pc = .ok (.getfield index, 3)) (kk : zq_W x w k n σ (pc + 3) V (.ref (w.2.1 9) :: st)) : zq_W x w k n σ pc V (.ref (w.2.1 14) :: st) :=
  zr_get hG zi5 14 rfl rfl 2 (by decide) rfl ht rfl hd kk
theorem zf_Checker_rules {σ : zG} (hG : zq_G x w own cc nL rm) (ht : Cond.fieldLink own index "GridRouter$Checker" "rules" "LGridRouter$Rules;" ∈ zq_T) (hd : decode cc pc = .ok (.getfield index, 3)) (kk : zq_W x w k n σ (pc + 3) V (.ref (w.2.1 12) :: st)) : zq_W x w k n σ pc V (.ref (w.2.1 14) :: st) :=
  zr_get hG zi5 14 rfl rfl 3 (by decide) rfl ht rfl hd kk
theorem zf_Checker_reached {σ : zG} (hG : zq_G x w own cc nL rm) (ht : Cond.fieldLink own index "GridRouter$Checker" "reached" "[I" ∈ zq_T) (hd : decode cc pc = .ok (.getfield index, 3)) (kk : zq_W x w k n σ (pc + 3) V (.ref (w.2.1 15) :: st)) : zq_W x w k n σ pc V (.ref (w.2.1 14) :: st) :=
  zr_get hG zi5 14 rfl rfl 4 (by decide) rfl ht rfl hd kk
theorem zf_Checker_seen {σ : zG} (hG : zq_G x w own cc nL rm) (ht : Cond.fieldLink own index "GridRouter$Checker" "seen" "[Z" ∈ zq_T) (hd : decode cc pc = .ok (.getfield index, 3)) (kk : zq_W x w k n σ (pc + 3) V (.ref (w.2.1 16) :: st)) : zq_W x w k n σ pc V (.ref (w.2.1 14) :: st) :=
  zr_get hG zi5 14 rfl rfl 5 (by decide) rfl ht rfl hd kk
theorem zf_Checker_found (hG : zq_G x w own cc nL rm) (ht : Cond.fieldLink own index "GridRouter$Checker" "found" "I" ∈ zq_T) (hd : decode cc pc = .ok (.getfield index, 3)) (kk : zq_W x w k n (z, g, o) (pc + 3) V (.int (z.1 6) :: st)) : zq_W x w k n (z, g, o) pc V (.ref (w.2.1 14) :: st) :=
  zr_get hG zi5 14 rfl rfl 6 (by decide) rfl ht rfl hd kk
theorem zp_Checker_found (hG : zq_G x w own cc nL rm) (hW : zq_Wr x w) (ht : Cond.fieldLink own index "GridRouter$Checker" "found" "I" ∈ zq_T) (hd : decode cc pc = .ok (.putfield index, 3)) (kk : zq_W x w k n (zs_s z 6 v, g, o) (pc + 3) V st) : zq_W x w k n (z, g, o) pc V (.int v :: .ref (w.2.1 14) :: st) :=
  zr_put hG (hW _) zi5 zt5 zk5 zn5 14 rfl rfl 6 (by decide) rfl ht rfl (ty := .int) (by decide +kernel) rfl rfl (Nat.le_of_ble_eq_true rfl) (zq_w w (zs_s z 6 v, g, o)) rfl hd kk
theorem zf_Router_nets {σ : zG} (hG : zq_G x w own cc nL rm) (ht : Cond.fieldLink own index "GridRouter$Router" "nets" "LGridRouter$Nets;" ∈ zq_T) (hd : decode cc pc = .ok (.getfield index, 3)) (kk : zq_W x w k n σ (pc + 3) V (.ref (w.2.1 5) :: st)) : zq_W x w k n σ pc V (.ref (w.2.1 17) :: st) :=
  zr_get hG zi6 17 rfl rfl 0 (by decide) rfl ht rfl hd kk
theorem zf_Router_layout {σ : zG} (hG : zq_G x w own cc nL rm) (ht : Cond.fieldLink own index "GridRouter$Router" "layout" "LGridRouter$Layout;" ∈ zq_T) (hd : decode cc pc = .ok (.getfield index, 3)) (kk : zq_W x w k n σ (pc + 3) V (.ref (w.2.1 9) :: st)) : zq_W x w k n σ pc V (.ref (w.2.1 17) :: st) :=
  zr_get hG zi6 17 rfl rfl 1 (by decide) rfl ht rfl hd kk
theorem zf_Router_grid {σ : zG} (hG : zq_G x w own cc nL rm) (ht : Cond.fieldLink own index "GridRouter$Router" "grid" "LGridRouter$Grid;" ∈ zq_T) (hd : decode cc pc = .ok (.getfield index, 3)) (kk : zq_W x w k n σ (pc + 3) V (.ref (w.2.1 1) :: st)) : zq_W x w k n σ pc V (.ref (w.2.1 17) :: st) :=
  zr_get hG zi6 17 rfl rfl 2 (by decide) rfl ht rfl hd kk
theorem zf_Router_rules {σ : zG} (hG : zq_G x w own cc nL rm) (ht : Cond.fieldLink own index "GridRouter$Router" "rules" "LGridRouter$Rules;" ∈ zq_T) (hd : decode cc pc = .ok (.getfield index, 3)) (kk : zq_W x w k n σ (pc + 3) V (.ref (w.2.1 12) :: st)) : zq_W x w k n σ pc V (.ref (w.2.1 17) :: st) :=
  zr_get hG zi6 17 rfl rfl 3 (by decide) rfl ht rfl hd kk
theorem zf_Router_checker {σ : zG} (hG : zq_G x w own cc nL rm) (ht : Cond.fieldLink own index "GridRouter$Router" "checker" "LGridRouter$Checker;" ∈ zq_T) (hd : decode cc pc = .ok (.getfield index, 3)) (kk : zq_W x w k n σ (pc + 3) V (.ref (w.2.1 14) :: st)) : zq_W x w k n σ pc V (.ref (w.2.1 17) :: st) :=
  zr_get hG zi6 17 rfl rfl 4 (by decide) rfl ht rfl hd kk
theorem zf_Router_finder {σ : zG} (hG : zq_G x w own cc nL rm) (ht : Cond.fieldLink own index "GridRouter$Router" "finder" "LGridRouter$WayFinder;" ∈ zq_T) (hd : decode cc pc = .ok (.getfield index, 3)) (kk : zq_W x w k n σ (pc + 3) V (.ref (w.2.1 21) :: st)) : zq_W x w k n σ pc V (.ref (w.2.1 17) :: st) :=
  zr_get hG zi6 17 rfl rfl 5 (by decide) rfl ht rfl hd kk
theorem zf_Router_line {σ : zG} (hG : zq_G x w own cc nL rm) (ht : Cond.fieldLink own index "GridRouter$Router" "line" "LGridRouter$Line;" ∈ zq_T) (hd : decode cc pc = .ok (.getfield index, 3)) (kk : zq_W x w k n σ (pc + 3) V (.ref (w.2.1 18) :: st)) : zq_W x w k n σ pc V (.ref (w.2.1 17) :: st) :=
  zr_get hG zi6 17 rfl rfl 6 (by decide) rfl ht rfl hd kk
theorem zf_Router_pushedOut {σ : zG} (hG : zq_G x w own cc nL rm) (ht : Cond.fieldLink own index "GridRouter$Router" "pushedOut" "[Z" ∈ zq_T) (hd : decode cc pc = .ok (.getfield index, 3)) (kk : zq_W x w k n σ (pc + 3) V (.ref (w.2.1 20) :: st)) : zq_W x w k n σ pc V (.ref (w.2.1 17) :: st) :=
  zr_get hG zi6 17 rfl rfl 7 (by decide) rfl ht rfl hd kk
theorem zf_Line_members {σ : zG} (hG : zq_G x w own cc nL rm) (ht : Cond.fieldLink own index "GridRouter$Line" "members" "[I" ∈ zq_T) (hd : decode cc pc = .ok (.getfield index, 3)) (kk : zq_W x w k n σ (pc + 3) V (.ref (w.2.1 19) :: st)) : zq_W x w k n σ pc V (.ref (w.2.1 18) :: st) :=
  zr_get hG zi7 18 rfl rfl 0 (by decide) rfl ht rfl hd kk
theorem zf_Line_size (hG : zq_G x w own cc nL rm) (ht : Cond.fieldLink own index "GridRouter$Line" "size" "I" ∈ zq_T) (hd : decode cc pc = .ok (.getfield index, 3)) (kk : zq_W x w k n (z, g, o) (pc + 3) V (.int (z.1 11) :: st)) : zq_W x w k n (z, g, o) pc V (.ref (w.2.1 18) :: st) :=
  zr_get hG zi7 18 rfl rfl 1 (by decide) rfl ht rfl hd kk
theorem zp_Line_size (hG : zq_G x w own cc nL rm) (hW : zq_Wr x w) (ht : Cond.fieldLink own index "GridRouter$Line" "size" "I" ∈ zq_T) (hd : decode cc pc = .ok (.putfield index, 3)) (kk : zq_W x w k n (zs_s z 11 v, g, o) (pc + 3) V st) : zq_W x w k n (z, g, o) pc V (.int v :: .ref (w.2.1 18) :: st) :=
  zr_put hG (hW _) zi7 zt7 zk7 zn7 18 rfl rfl 1 (by decide) rfl ht rfl (ty := .int) (by decide +kernel) rfl rfl (Nat.le_of_ble_eq_true rfl) (zq_w w (zs_s z 11 v, g, o)) rfl hd kk
theorem zf_WayFinder_way {σ : zG} (hG : zq_G x w own cc nL rm) (ht : Cond.fieldLink own index "GridRouter$WayFinder" "way" "[I" ∈ zq_T) (hd : decode cc pc = .ok (.getfield index, 3)) (kk : zq_W x w k n σ (pc + 3) V (.ref (w.2.1 22) :: st)) : zq_W x w k n σ pc V (.ref (w.2.1 21) :: st) :=
  zr_get hG zi8 21 rfl rfl 0 (by decide) rfl ht rfl hd kk
theorem zf_WayFinder_length (hG : zq_G x w own cc nL rm) (ht : Cond.fieldLink own index "GridRouter$WayFinder" "length" "I" ∈ zq_T) (hd : decode cc pc = .ok (.getfield index, 3)) (kk : zq_W x w k n (z, g, o) (pc + 3) V (.int (z.1 7) :: st)) : zq_W x w k n (z, g, o) pc V (.ref (w.2.1 21) :: st) :=
  zr_get hG zi8 21 rfl rfl 1 (by decide) rfl ht rfl hd kk
theorem zp_WayFinder_length (hG : zq_G x w own cc nL rm) (hW : zq_Wr x w) (ht : Cond.fieldLink own index "GridRouter$WayFinder" "length" "I" ∈ zq_T) (hd : decode cc pc = .ok (.putfield index, 3)) (kk : zq_W x w k n (zs_s z 7 v, g, o) (pc + 3) V st) : zq_W x w k n (z, g, o) pc V (.int v :: .ref (w.2.1 21) :: st) :=
  zr_put hG (hW _) zi8 zt8 zk8 zn8 21 rfl rfl 1 (by decide) rfl ht rfl (ty := .int) (by decide +kernel) rfl rfl (Nat.le_of_ble_eq_true rfl) (zq_w w (zs_s z 7 v, g, o)) rfl hd kk
theorem zf_WayFinder_grid {σ : zG} (hG : zq_G x w own cc nL rm) (ht : Cond.fieldLink own index "GridRouter$WayFinder" "grid" "LGridRouter$Grid;" ∈ zq_T) (hd : decode cc pc = .ok (.getfield index, 3)) (kk : zq_W x w k n σ (pc + 3) V (.ref (w.2.1 1) :: st)) : zq_W x w k n σ pc V (.ref (w.2.1 21) :: st) :=
  zr_get hG zi8 21 rfl rfl 2 (by decide) rfl ht rfl hd kk
theorem zf_WayFinder_nets {σ : zG} (hG : zq_G x w own cc nL rm) (ht : Cond.fieldLink own index "GridRouter$WayFinder" "nets" "LGridRouter$Nets;" ∈ zq_T) (hd : decode cc pc = .ok (.getfield index, 3)) (kk : zq_W x w k n σ (pc + 3) V (.ref (w.2.1 5) :: st)) : zq_W x w k n σ pc V (.ref (w.2.1 21) :: st) :=
  zr_get hG zi8 21 rfl rfl 3 (by decide) rfl ht rfl hd kk
theorem zf_WayFinder_rules {σ : zG} (hG : zq_G x w own cc nL rm) (ht : Cond.fieldLink own index "GridRouter$WayFinder" "rules" "LGridRouter$Rules;" ∈ zq_T) (hd : decode cc pc = .ok (.getfield index, 3)) (kk : zq_W x w k n σ (pc + 3) V (.ref (w.2.1 12) :: st)) : zq_W x w k n σ pc V (.ref (w.2.1 21) :: st) :=
  zr_get hG zi8 21 rfl rfl 4 (by decide) rfl ht rfl hd kk
theorem zf_WayFinder_viaCost (hG : zq_G x w own cc nL rm) (ht : Cond.fieldLink own index "GridRouter$WayFinder" "viaCost" "I" ∈ zq_T) (hd : decode cc pc = .ok (.getfield index, 3)) (kk : zq_W x w k n (z, g, o) (pc + 3) V (.int (z.1 8) :: st)) : zq_W x w k n (z, g, o) pc V (.ref (w.2.1 21) :: st) :=
  zr_get hG zi8 21 rfl rfl 5 (by decide) rfl ht rfl hd kk
theorem zf_WayFinder_toll {σ : zG} (hG : zq_G x w own cc nL rm) (ht : Cond.fieldLink own index "GridRouter$WayFinder" "toll" "[I" ∈ zq_T) (hd : decode cc pc = .ok (.getfield index, 3)) (kk : zq_W x w k n σ (pc + 3) V (.ref (w.2.1 23) :: st)) : zq_W x w k n σ pc V (.ref (w.2.1 21) :: st) :=
  zr_get hG zi8 21 rfl rfl 6 (by decide) rfl ht rfl hd kk
theorem zf_WayFinder_least {σ : zG} (hG : zq_G x w own cc nL rm) (ht : Cond.fieldLink own index "GridRouter$WayFinder" "least" "[I" ∈ zq_T) (hd : decode cc pc = .ok (.getfield index, 3)) (kk : zq_W x w k n σ (pc + 3) V (.ref (w.2.1 24) :: st)) : zq_W x w k n σ pc V (.ref (w.2.1 21) :: st) :=
  zr_get hG zi8 21 rfl rfl 7 (by decide) rfl ht rfl hd kk
theorem zf_WayFinder_queue {σ : zG} (hG : zq_G x w own cc nL rm) (ht : Cond.fieldLink own index "GridRouter$WayFinder" "queue" "[I" ∈ zq_T) (hd : decode cc pc = .ok (.getfield index, 3)) (kk : zq_W x w k n σ (pc + 3) V (.ref (w.2.1 25) :: st)) : zq_W x w k n σ pc V (.ref (w.2.1 21) :: st) :=
  zr_get hG zi8 21 rfl rfl 8 (by decide) rfl ht rfl hd kk
theorem zf_WayFinder_waits {σ : zG} (hG : zq_G x w own cc nL rm) (ht : Cond.fieldLink own index "GridRouter$WayFinder" "waits" "[Z" ∈ zq_T) (hd : decode cc pc = .ok (.getfield index, 3)) (kk : zq_W x w k n σ (pc + 3) V (.ref (w.2.1 26) :: st)) : zq_W x w k n σ pc V (.ref (w.2.1 21) :: st) :=
  zr_get hG zi8 21 rfl rfl 9 (by decide) rfl ht rfl hd kk
theorem zf_WayFinder_head (hG : zq_G x w own cc nL rm) (ht : Cond.fieldLink own index "GridRouter$WayFinder" "head" "I" ∈ zq_T) (hd : decode cc pc = .ok (.getfield index, 3)) (kk : zq_W x w k n (z, g, o) (pc + 3) V (.int (z.1 9) :: st)) : zq_W x w k n (z, g, o) pc V (.ref (w.2.1 21) :: st) :=
  zr_get hG zi8 21 rfl rfl 10 (by decide) rfl ht rfl hd kk
theorem zp_WayFinder_head (hG : zq_G x w own cc nL rm) (hW : zq_Wr x w) (ht : Cond.fieldLink own index "GridRouter$WayFinder" "head" "I" ∈ zq_T) (hd : decode cc pc = .ok (.putfield index, 3)) (kk : zq_W x w k n (zs_s z 9 v, g, o) (pc + 3) V st) : zq_W x w k n (z, g, o) pc V (.int v :: .ref (w.2.1 21) :: st) :=
  zr_put hG (hW _) zi8 zt8 zk8 zn8 21 rfl rfl 10 (by decide) rfl ht rfl (ty := .int) (by decide +kernel) rfl rfl (Nat.le_of_ble_eq_true rfl) (zq_w w (zs_s z 9 v, g, o)) rfl hd kk
theorem zf_WayFinder_waiting (hG : zq_G x w own cc nL rm) (ht : Cond.fieldLink own index "GridRouter$WayFinder" "waiting" "I" ∈ zq_T) (hd : decode cc pc = .ok (.getfield index, 3)) (kk : zq_W x w k n (z, g, o) (pc + 3) V (.int (z.1 10) :: st)) : zq_W x w k n (z, g, o) pc V (.ref (w.2.1 21) :: st) :=
  zr_get hG zi8 21 rfl rfl 11 (by decide) rfl ht rfl hd kk
theorem zp_WayFinder_waiting (hG : zq_G x w own cc nL rm) (hW : zq_Wr x w) (ht : Cond.fieldLink own index "GridRouter$WayFinder" "waiting" "I" ∈ zq_T) (hd : decode cc pc = .ok (.putfield index, 3)) (kk : zq_W x w k n (zs_s z 10 v, g, o) (pc + 3) V st) : zq_W x w k n (z, g, o) pc V (.int v :: .ref (w.2.1 21) :: st) :=
  zr_put hG (hW _) zi8 zt8 zk8 zn8 21 rfl rfl 11 (by decide) rfl ht rfl (ty := .int) (by decide +kernel) rfl rfl (Nat.le_of_ble_eq_true rfl) (zq_w w (zs_s z 10 v, g, o)) rfl hd kk
theorem zf_Shapes_grid {σ : zG} (hG : zq_G x w own cc nL rm) (ht : Cond.fieldLink own index "GridRouter$Shapes" "grid" "LGridRouter$Grid;" ∈ zq_T) (hd : decode cc pc = .ok (.getfield index, 3)) (kk : zq_W x w k n σ (pc + 3) V (.ref (w.2.1 1) :: st)) : zq_W x w k n σ pc V (.ref (w.2.1 27) :: st) :=
  zr_get hG zi9 27 rfl rfl 0 (by decide) rfl ht rfl hd kk
theorem zf_Shapes_layout {σ : zG} (hG : zq_G x w own cc nL rm) (ht : Cond.fieldLink own index "GridRouter$Shapes" "layout" "LGridRouter$Layout;" ∈ zq_T) (hd : decode cc pc = .ok (.getfield index, 3)) (kk : zq_W x w k n σ (pc + 3) V (.ref (w.2.1 9) :: st)) : zq_W x w k n σ pc V (.ref (w.2.1 27) :: st) :=
  zr_get hG zi9 27 rfl rfl 1 (by decide) rfl ht rfl hd kk
theorem zf_Mo_width (hG : zq_G x w own cc nL rm) (ht : Cond.fieldLink own index "GridRouterModel" "width" "I" ∈ zq_T) (hd : decode cc pc = .ok (.getfield index, 3)) (kk : zq_W x w k n (g, z, o) (pc + 3) V (.int (z.1 0) :: st)) : zq_W x w k n (g, z, o) pc V (.ref (w.2.1 28) :: st) :=
  zr_get hG zi10 28 rfl rfl 0 (by decide) rfl ht rfl hd kk
theorem zf_Mo_height (hG : zq_G x w own cc nL rm) (ht : Cond.fieldLink own index "GridRouterModel" "height" "I" ∈ zq_T) (hd : decode cc pc = .ok (.getfield index, 3)) (kk : zq_W x w k n (g, z, o) (pc + 3) V (.int (z.1 1) :: st)) : zq_W x w k n (g, z, o) pc V (.ref (w.2.1 28) :: st) :=
  zr_get hG zi10 28 rfl rfl 1 (by decide) rfl ht rfl hd kk
theorem zf_Mo_viaCost (hG : zq_G x w own cc nL rm) (ht : Cond.fieldLink own index "GridRouterModel" "viaCost" "I" ∈ zq_T) (hd : decode cc pc = .ok (.getfield index, 3)) (kk : zq_W x w k n (g, z, o) (pc + 3) V (.int (z.1 2) :: st)) : zq_W x w k n (g, z, o) pc V (.ref (w.2.1 28) :: st) :=
  zr_get hG zi10 28 rfl rfl 2 (by decide) rfl ht rfl hd kk
theorem zf_Mo_wide (hG : zq_G x w own cc nL rm) (ht : Cond.fieldLink own index "GridRouterModel" "wide" "Z" ∈ zq_T) (hd : decode cc pc = .ok (.getfield index, 3)) (kk : zq_W x w k n (g, z, o) (pc + 3) V (.int (z.1 3) :: st)) : zq_W x w k n (g, z, o) pc V (.ref (w.2.1 28) :: st) :=
  zr_get hG zi10 28 rfl rfl 3 (by decide) rfl ht rfl hd kk
theorem zf_Mo_code (hG : zq_G x w own cc nL rm) (ht : Cond.fieldLink own index "GridRouterModel" "code" "I" ∈ zq_T) (hd : decode cc pc = .ok (.getfield index, 3)) (kk : zq_W x w k n (g, z, o) (pc + 3) V (.int (z.1 4) :: st)) : zq_W x w k n (g, z, o) pc V (.ref (w.2.1 28) :: st) :=
  zr_get hG zi10 28 rfl rfl 4 (by decide) rfl ht rfl hd kk
theorem zp_Mo_code (hG : zq_G x w own cc nL rm) (hW : zq_Wr x w) (ht : Cond.fieldLink own index "GridRouterModel" "code" "I" ∈ zq_T) (hd : decode cc pc = .ok (.putfield index, 3)) (kk : zq_W x w k n (g, zs_s z 4 v, o) (pc + 3) V st) : zq_W x w k n (g, z, o) pc V (.int v :: .ref (w.2.1 28) :: st) :=
  zr_put hG (hW _) zi10 zt10 zk10 zn10 28 rfl rfl 4 (by decide) rfl ht rfl (ty := .int) (by decide +kernel) rfl rfl (Nat.le_of_ble_eq_true rfl) (zq_w w (g, zs_s z 4 v, o)) rfl hd kk
theorem zf_Mo_blocked {σ : zG} (hG : zq_G x w own cc nL rm) (ht : Cond.fieldLink own index "GridRouterModel" "blocked" "[Z" ∈ zq_T) (hd : decode cc pc = .ok (.getfield index, 3)) (kk : zq_W x w k n σ (pc + 3) V (.ref (w.2.1 29) :: st)) : zq_W x w k n σ pc V (.ref (w.2.1 28) :: st) :=
  zr_get hG zi10 28 rfl rfl 5 (by decide) rfl ht rfl hd kk
theorem zf_Mo_pin {σ : zG} (hG : zq_G x w own cc nL rm) (ht : Cond.fieldLink own index "GridRouterModel" "pin" "[I" ∈ zq_T) (hd : decode cc pc = .ok (.getfield index, 3)) (kk : zq_W x w k n σ (pc + 3) V (.ref (w.2.1 30) :: st)) : zq_W x w k n σ pc V (.ref (w.2.1 28) :: st) :=
  zr_get hG zi10 28 rfl rfl 6 (by decide) rfl ht rfl hd kk
theorem zf_Mo_owner {σ : zG} (hG : zq_G x w own cc nL rm) (ht : Cond.fieldLink own index "GridRouterModel" "owner" "[I" ∈ zq_T) (hd : decode cc pc = .ok (.getfield index, 3)) (kk : zq_W x w k n σ (pc + 3) V (.ref (w.2.1 31) :: st)) : zq_W x w k n σ pc V (.ref (w.2.1 28) :: st) :=
  zr_get hG zi10 28 rfl rfl 7 (by decide) rfl ht rfl hd kk
theorem zf_Mo_vias {σ : zG} (hG : zq_G x w own cc nL rm) (ht : Cond.fieldLink own index "GridRouterModel" "vias" "[Z" ∈ zq_T) (hd : decode cc pc = .ok (.getfield index, 3)) (kk : zq_W x w k n σ (pc + 3) V (.ref (w.2.1 32) :: st)) : zq_W x w k n σ pc V (.ref (w.2.1 28) :: st) :=
  zr_get hG zi10 28 rfl rfl 8 (by decide) rfl ht rfl hd kk
theorem zf_Mo_cost {σ : zG} (hG : zq_G x w own cc nL rm) (ht : Cond.fieldLink own index "GridRouterModel" "cost" "[I" ∈ zq_T) (hd : decode cc pc = .ok (.getfield index, 3)) (kk : zq_W x w k n σ (pc + 3) V (.ref (w.2.1 33) :: st)) : zq_W x w k n σ pc V (.ref (w.2.1 28) :: st) :=
  zr_get hG zi10 28 rfl rfl 9 (by decide) rfl ht rfl hd kk
theorem zf_Mo_mark {σ : zG} (hG : zq_G x w own cc nL rm) (ht : Cond.fieldLink own index "GridRouterModel" "mark" "[Z" ∈ zq_T) (hd : decode cc pc = .ok (.getfield index, 3)) (kk : zq_W x w k n σ (pc + 3) V (.ref (w.2.1 34) :: st)) : zq_W x w k n σ pc V (.ref (w.2.1 28) :: st) :=
  zr_get hG zi10 28 rfl rfl 10 (by decide) rfl ht rfl hd kk
theorem zf_Mo_way {σ : zG} (hG : zq_G x w own cc nL rm) (ht : Cond.fieldLink own index "GridRouterModel" "way" "[I" ∈ zq_T) (hd : decode cc pc = .ok (.getfield index, 3)) (kk : zq_W x w k n σ (pc + 3) V (.ref (w.2.1 35) :: st)) : zq_W x w k n σ pc V (.ref (w.2.1 28) :: st) :=
  zr_get hG zi10 28 rfl rfl 11 (by decide) rfl ht rfl hd kk
theorem zf_Mo_climbs {σ : zG} (hG : zq_G x w own cc nL rm) (ht : Cond.fieldLink own index "GridRouterModel" "climbs" "[Z" ∈ zq_T) (hd : decode cc pc = .ok (.getfield index, 3)) (kk : zq_W x w k n σ (pc + 3) V (.ref (w.2.1 36) :: st)) : zq_W x w k n σ pc V (.ref (w.2.1 28) :: st) :=
  zr_get hG zi10 28 rfl rfl 12 (by decide) rfl ht rfl hd kk
theorem zf_Mo_nets (hG : zq_G x w own cc nL rm) (ht : Cond.fieldLink own index "GridRouterModel" "nets" "I" ∈ zq_T) (hd : decode cc pc = .ok (.getfield index, 3)) (kk : zq_W x w k n (g, z, o) (pc + 3) V (.int (z.1 5) :: st)) : zq_W x w k n (g, z, o) pc V (.ref (w.2.1 28) :: st) :=
  zr_get hG zi10 28 rfl rfl 13 (by decide) rfl ht rfl hd kk
theorem zp_Mo_nets (hG : zq_G x w own cc nL rm) (hW : zq_Wr x w) (ht : Cond.fieldLink own index "GridRouterModel" "nets" "I" ∈ zq_T) (hd : decode cc pc = .ok (.putfield index, 3)) (kk : zq_W x w k n (g, zs_s z 5 v, o) (pc + 3) V st) : zq_W x w k n (g, z, o) pc V (.int v :: .ref (w.2.1 28) :: st) :=
  zr_put hG (hW _) zi10 zt10 zk10 zn10 28 rfl rfl 13 (by decide) rfl ht rfl (ty := .int) (by decide +kernel) rfl rfl (Nat.le_of_ble_eq_true rfl) (zq_w w (g, zs_s z 5 v, o)) rfl hd kk
theorem zf_Mo_first {σ : zG} (hG : zq_G x w own cc nL rm) (ht : Cond.fieldLink own index "GridRouterModel" "first" "[I" ∈ zq_T) (hd : decode cc pc = .ok (.getfield index, 3)) (kk : zq_W x w k n σ (pc + 3) V (.ref (w.2.1 37) :: st)) : zq_W x w k n σ pc V (.ref (w.2.1 28) :: st) :=
  zr_get hG zi10 28 rfl rfl 14 (by decide) rfl ht rfl hd kk
theorem zf_Mo_second {σ : zG} (hG : zq_G x w own cc nL rm) (ht : Cond.fieldLink own index "GridRouterModel" "second" "[I" ∈ zq_T) (hd : decode cc pc = .ok (.getfield index, 3)) (kk : zq_W x w k n σ (pc + 3) V (.ref (w.2.1 38) :: st)) : zq_W x w k n σ pc V (.ref (w.2.1 28) :: st) :=
  zr_get hG zi10 28 rfl rfl 15 (by decide) rfl ht rfl hd kk
theorem zf_Mo_standing (hG : zq_G x w own cc nL rm) (ht : Cond.fieldLink own index "GridRouterModel" "standing" "I" ∈ zq_T) (hd : decode cc pc = .ok (.getfield index, 3)) (kk : zq_W x w k n (g, z, o) (pc + 3) V (.int (z.1 6) :: st)) : zq_W x w k n (g, z, o) pc V (.ref (w.2.1 28) :: st) :=
  zr_get hG zi10 28 rfl rfl 16 (by decide) rfl ht rfl hd kk
theorem zp_Mo_standing (hG : zq_G x w own cc nL rm) (hW : zq_Wr x w) (ht : Cond.fieldLink own index "GridRouterModel" "standing" "I" ∈ zq_T) (hd : decode cc pc = .ok (.putfield index, 3)) (kk : zq_W x w k n (g, zs_s z 6 v, o) (pc + 3) V st) : zq_W x w k n (g, z, o) pc V (.int v :: .ref (w.2.1 28) :: st) :=
  zr_put hG (hW _) zi10 zt10 zk10 zn10 28 rfl rfl 16 (by decide) rfl ht rfl (ty := .int) (by decide +kernel) rfl rfl (Nat.le_of_ble_eq_true rfl) (zq_w w (g, zs_s z 6 v, o)) rfl hd kk
theorem zf_Mo_line {σ : zG} (hG : zq_G x w own cc nL rm) (ht : Cond.fieldLink own index "GridRouterModel" "line" "[I" ∈ zq_T) (hd : decode cc pc = .ok (.getfield index, 3)) (kk : zq_W x w k n σ (pc + 3) V (.ref (w.2.1 39) :: st)) : zq_W x w k n σ pc V (.ref (w.2.1 28) :: st) :=
  zr_get hG zi10 28 rfl rfl 17 (by decide) rfl ht rfl hd kk
theorem zf_Mo_out (hG : zq_G x w own cc nL rm) (ht : Cond.fieldLink own index "GridRouterModel" "out" "I" ∈ zq_T) (hd : decode cc pc = .ok (.getfield index, 3)) (kk : zq_W x w k n (g, z, o) (pc + 3) V (.int (z.1 7) :: st)) : zq_W x w k n (g, z, o) pc V (.ref (w.2.1 28) :: st) :=
  zr_get hG zi10 28 rfl rfl 18 (by decide) rfl ht rfl hd kk
theorem zp_Mo_out (hG : zq_G x w own cc nL rm) (hW : zq_Wr x w) (ht : Cond.fieldLink own index "GridRouterModel" "out" "I" ∈ zq_T) (hd : decode cc pc = .ok (.putfield index, 3)) (kk : zq_W x w k n (g, zs_s z 7 v, o) (pc + 3) V st) : zq_W x w k n (g, z, o) pc V (.int v :: .ref (w.2.1 28) :: st) :=
  zr_put hG (hW _) zi10 zt10 zk10 zn10 28 rfl rfl 18 (by decide) rfl ht rfl (ty := .int) (by decide +kernel) rfl rfl (Nat.le_of_ble_eq_true rfl) (zq_w w (g, zs_s z 7 v, o)) rfl hd kk
theorem zl_2 (hG : zq_G x w own cc nL rm) (hi : vp_in i (w.2.2.1 0)) (hd : decode cc pc = .ok (.iaload, 1)) (kk : zq_W x w k n (z, g, o) (pc + 1) V (.int (z.2 0 i.toNatClampNeg) :: st)) : zq_W x w k n (z, g, o) pc V (.int i :: .ref (w.2.1 2) :: st) :=
  zr_iald hG 2 0 rfl rfl hi hd kk
theorem zu_2 (hG : zq_G x w own cc nL rm) (hW : zq_Wr x w) (hi : vp_in i (w.2.2.1 0)) (hd : decode cc pc = .ok (.iastore, 1)) (kk : zq_W x w k n (zs_a z 0 i v, g, o) (pc + 1) V st) : zq_W x w k n (z, g, o) pc V (.int v :: .int i :: .ref (w.2.1 2) :: st) :=
  zr_iast hG (hW _) 2 0 rfl rfl hi (zq_w w (zs_a z 0 i v, g, o)) rfl hd kk
theorem zl_3 (hG : zq_G x w own cc nL rm) (hi : vp_in i (w.2.2.1 1)) (hd : decode cc pc = .ok (.iaload, 1)) (kk : zq_W x w k n (z, g, o) (pc + 1) V (.int (z.2 1 i.toNatClampNeg) :: st)) : zq_W x w k n (z, g, o) pc V (.int i :: .ref (w.2.1 3) :: st) :=
  zr_iald hG 3 0 rfl rfl hi hd kk
theorem zu_3 (hG : zq_G x w own cc nL rm) (hW : zq_Wr x w) (hi : vp_in i (w.2.2.1 1)) (hd : decode cc pc = .ok (.iastore, 1)) (kk : zq_W x w k n (zs_a z 1 i v, g, o) (pc + 1) V st) : zq_W x w k n (z, g, o) pc V (.int v :: .int i :: .ref (w.2.1 3) :: st) :=
  zr_iast hG (hW _) 3 0 rfl rfl hi (zq_w w (zs_a z 1 i v, g, o)) rfl hd kk
theorem zl_4 (hG : zq_G x w own cc nL rm) (hi : vp_in i (w.2.2.1 2)) (hd : decode cc pc = .ok (.iaload, 1)) (kk : zq_W x w k n (z, g, o) (pc + 1) V (.int (z.2 2 i.toNatClampNeg) :: st)) : zq_W x w k n (z, g, o) pc V (.int i :: .ref (w.2.1 4) :: st) :=
  zr_iald hG 4 0 rfl rfl hi hd kk
theorem zu_4 (hG : zq_G x w own cc nL rm) (hW : zq_Wr x w) (hi : vp_in i (w.2.2.1 2)) (hd : decode cc pc = .ok (.iastore, 1)) (kk : zq_W x w k n (zs_a z 2 i v, g, o) (pc + 1) V st) : zq_W x w k n (z, g, o) pc V (.int v :: .int i :: .ref (w.2.1 4) :: st) :=
  zr_iast hG (hW _) 4 0 rfl rfl hi (zq_w w (zs_a z 2 i v, g, o)) rfl hd kk
theorem zl_6 (hG : zq_G x w own cc nL rm) (hi : vp_in i (w.2.2.1 3)) (hd : decode cc pc = .ok (.iaload, 1)) (kk : zq_W x w k n (z, g, o) (pc + 1) V (.int (z.2 3 i.toNatClampNeg) :: st)) : zq_W x w k n (z, g, o) pc V (.int i :: .ref (w.2.1 6) :: st) :=
  zr_iald hG 6 0 rfl rfl hi hd kk
theorem zu_6 (hG : zq_G x w own cc nL rm) (hW : zq_Wr x w) (hi : vp_in i (w.2.2.1 3)) (hd : decode cc pc = .ok (.iastore, 1)) (kk : zq_W x w k n (zs_a z 3 i v, g, o) (pc + 1) V st) : zq_W x w k n (z, g, o) pc V (.int v :: .int i :: .ref (w.2.1 6) :: st) :=
  zr_iast hG (hW _) 6 0 rfl rfl hi (zq_w w (zs_a z 3 i v, g, o)) rfl hd kk
theorem zl_7 (hG : zq_G x w own cc nL rm) (hi : vp_in i (w.2.2.1 4)) (hd : decode cc pc = .ok (.iaload, 1)) (kk : zq_W x w k n (z, g, o) (pc + 1) V (.int (z.2 4 i.toNatClampNeg) :: st)) : zq_W x w k n (z, g, o) pc V (.int i :: .ref (w.2.1 7) :: st) :=
  zr_iald hG 7 0 rfl rfl hi hd kk
theorem zu_7 (hG : zq_G x w own cc nL rm) (hW : zq_Wr x w) (hi : vp_in i (w.2.2.1 4)) (hd : decode cc pc = .ok (.iastore, 1)) (kk : zq_W x w k n (zs_a z 4 i v, g, o) (pc + 1) V st) : zq_W x w k n (z, g, o) pc V (.int v :: .int i :: .ref (w.2.1 7) :: st) :=
  zr_iast hG (hW _) 7 0 rfl rfl hi (zq_w w (zs_a z 4 i v, g, o)) rfl hd kk
theorem zl_8 (hG : zq_G x w own cc nL rm) (hi : vp_in i (w.2.2.1 5)) (hd : decode cc pc = .ok (.iaload, 1)) (kk : zq_W x w k n (z, g, o) (pc + 1) V (.int (z.2 5 i.toNatClampNeg) :: st)) : zq_W x w k n (z, g, o) pc V (.int i :: .ref (w.2.1 8) :: st) :=
  zr_iald hG 8 0 rfl rfl hi hd kk
theorem zu_8 (hG : zq_G x w own cc nL rm) (hW : zq_Wr x w) (hi : vp_in i (w.2.2.1 5)) (hd : decode cc pc = .ok (.iastore, 1)) (kk : zq_W x w k n (zs_a z 5 i v, g, o) (pc + 1) V st) : zq_W x w k n (z, g, o) pc V (.int v :: .int i :: .ref (w.2.1 8) :: st) :=
  zr_iast hG (hW _) 8 0 rfl rfl hi (zq_w w (zs_a z 5 i v, g, o)) rfl hd kk
theorem zl_10 (hG : zq_G x w own cc nL rm) (hi : vp_in i (w.2.2.1 6)) (hd : decode cc pc = .ok (.iaload, 1)) (kk : zq_W x w k n (z, g, o) (pc + 1) V (.int (z.2 6 i.toNatClampNeg) :: st)) : zq_W x w k n (z, g, o) pc V (.int i :: .ref (w.2.1 10) :: st) :=
  zr_iald hG 10 0 rfl rfl hi hd kk
theorem zu_10 (hG : zq_G x w own cc nL rm) (hW : zq_Wr x w) (hi : vp_in i (w.2.2.1 6)) (hd : decode cc pc = .ok (.iastore, 1)) (kk : zq_W x w k n (zs_a z 6 i v, g, o) (pc + 1) V st) : zq_W x w k n (z, g, o) pc V (.int v :: .int i :: .ref (w.2.1 10) :: st) :=
  zr_iast hG (hW _) 10 0 rfl rfl hi (zq_w w (zs_a z 6 i v, g, o)) rfl hd kk
theorem zl_11 (hG : zq_G x w own cc nL rm) (hi : vp_in i (w.2.2.1 7)) (hd : decode cc pc = .ok (.baload, 1)) (kk : zq_W x w k n (z, g, o) (pc + 1) V (.int (z.2 7 i.toNatClampNeg) :: st)) : zq_W x w k n (z, g, o) pc V (.int i :: .ref (w.2.1 11) :: st) :=
  zr_zald hG 11 1 rfl rfl hi hd kk
theorem zu_11 (hG : zq_G x w own cc nL rm) (hW : zq_Wr x w) (hi : vp_in i (w.2.2.1 7)) (hd : decode cc pc = .ok (.bastore, 1)) (kk : zq_W x w k n (zs_a z 7 i (vp_nar .boolean v), g, o) (pc + 1) V st) : zq_W x w k n (z, g, o) pc V (.int v :: .int i :: .ref (w.2.1 11) :: st) :=
  zr_zast hG (hW _) 11 1 rfl rfl hi (zq_w w (zs_a z 7 i (vp_nar .boolean v), g, o)) rfl hd kk
theorem zl_13 (hG : zq_G x w own cc nL rm) (hi : vp_in i (w.2.2.1 8)) (hd : decode cc pc = .ok (.baload, 1)) (kk : zq_W x w k n (z, g, o) (pc + 1) V (.int (z.2 8 i.toNatClampNeg) :: st)) : zq_W x w k n (z, g, o) pc V (.int i :: .ref (w.2.1 13) :: st) :=
  zr_zald hG 13 1 rfl rfl hi hd kk
theorem zu_13 (hG : zq_G x w own cc nL rm) (hW : zq_Wr x w) (hi : vp_in i (w.2.2.1 8)) (hd : decode cc pc = .ok (.bastore, 1)) (kk : zq_W x w k n (zs_a z 8 i (vp_nar .boolean v), g, o) (pc + 1) V st) : zq_W x w k n (z, g, o) pc V (.int v :: .int i :: .ref (w.2.1 13) :: st) :=
  zr_zast hG (hW _) 13 1 rfl rfl hi (zq_w w (zs_a z 8 i (vp_nar .boolean v), g, o)) rfl hd kk
theorem zl_20 (hG : zq_G x w own cc nL rm) (hi : vp_in i (w.2.2.1 9)) (hd : decode cc pc = .ok (.baload, 1)) (kk : zq_W x w k n (z, g, o) (pc + 1) V (.int (z.2 9 i.toNatClampNeg) :: st)) : zq_W x w k n (z, g, o) pc V (.int i :: .ref (w.2.1 20) :: st) :=
  zr_zald hG 20 1 rfl rfl hi hd kk
theorem zu_20 (hG : zq_G x w own cc nL rm) (hW : zq_Wr x w) (hi : vp_in i (w.2.2.1 9)) (hd : decode cc pc = .ok (.bastore, 1)) (kk : zq_W x w k n (zs_a z 9 i (vp_nar .boolean v), g, o) (pc + 1) V st) : zq_W x w k n (z, g, o) pc V (.int v :: .int i :: .ref (w.2.1 20) :: st) :=
  zr_zast hG (hW _) 20 1 rfl rfl hi (zq_w w (zs_a z 9 i (vp_nar .boolean v), g, o)) rfl hd kk
theorem zl_15 (hG : zq_G x w own cc nL rm) (hi : vp_in i (w.2.2.1 10)) (hd : decode cc pc = .ok (.iaload, 1)) (kk : zq_W x w k n (z, g, o) (pc + 1) V (.int (z.2 10 i.toNatClampNeg) :: st)) : zq_W x w k n (z, g, o) pc V (.int i :: .ref (w.2.1 15) :: st) :=
  zr_iald hG 15 0 rfl rfl hi hd kk
theorem zu_15 (hG : zq_G x w own cc nL rm) (hW : zq_Wr x w) (hi : vp_in i (w.2.2.1 10)) (hd : decode cc pc = .ok (.iastore, 1)) (kk : zq_W x w k n (zs_a z 10 i v, g, o) (pc + 1) V st) : zq_W x w k n (z, g, o) pc V (.int v :: .int i :: .ref (w.2.1 15) :: st) :=
  zr_iast hG (hW _) 15 0 rfl rfl hi (zq_w w (zs_a z 10 i v, g, o)) rfl hd kk
theorem zl_16 (hG : zq_G x w own cc nL rm) (hi : vp_in i (w.2.2.1 11)) (hd : decode cc pc = .ok (.baload, 1)) (kk : zq_W x w k n (z, g, o) (pc + 1) V (.int (z.2 11 i.toNatClampNeg) :: st)) : zq_W x w k n (z, g, o) pc V (.int i :: .ref (w.2.1 16) :: st) :=
  zr_zald hG 16 1 rfl rfl hi hd kk
theorem zu_16 (hG : zq_G x w own cc nL rm) (hW : zq_Wr x w) (hi : vp_in i (w.2.2.1 11)) (hd : decode cc pc = .ok (.bastore, 1)) (kk : zq_W x w k n (zs_a z 11 i (vp_nar .boolean v), g, o) (pc + 1) V st) : zq_W x w k n (z, g, o) pc V (.int v :: .int i :: .ref (w.2.1 16) :: st) :=
  zr_zast hG (hW _) 16 1 rfl rfl hi (zq_w w (zs_a z 11 i (vp_nar .boolean v), g, o)) rfl hd kk
theorem zl_22 (hG : zq_G x w own cc nL rm) (hi : vp_in i (w.2.2.1 12)) (hd : decode cc pc = .ok (.iaload, 1)) (kk : zq_W x w k n (z, g, o) (pc + 1) V (.int (z.2 12 i.toNatClampNeg) :: st)) : zq_W x w k n (z, g, o) pc V (.int i :: .ref (w.2.1 22) :: st) :=
  zr_iald hG 22 0 rfl rfl hi hd kk
theorem zu_22 (hG : zq_G x w own cc nL rm) (hW : zq_Wr x w) (hi : vp_in i (w.2.2.1 12)) (hd : decode cc pc = .ok (.iastore, 1)) (kk : zq_W x w k n (zs_a z 12 i v, g, o) (pc + 1) V st) : zq_W x w k n (z, g, o) pc V (.int v :: .int i :: .ref (w.2.1 22) :: st) :=
  zr_iast hG (hW _) 22 0 rfl rfl hi (zq_w w (zs_a z 12 i v, g, o)) rfl hd kk
theorem zl_23 (hG : zq_G x w own cc nL rm) (hi : vp_in i (w.2.2.1 13)) (hd : decode cc pc = .ok (.iaload, 1)) (kk : zq_W x w k n (z, g, o) (pc + 1) V (.int (z.2 13 i.toNatClampNeg) :: st)) : zq_W x w k n (z, g, o) pc V (.int i :: .ref (w.2.1 23) :: st) :=
  zr_iald hG 23 0 rfl rfl hi hd kk
theorem zu_23 (hG : zq_G x w own cc nL rm) (hW : zq_Wr x w) (hi : vp_in i (w.2.2.1 13)) (hd : decode cc pc = .ok (.iastore, 1)) (kk : zq_W x w k n (zs_a z 13 i v, g, o) (pc + 1) V st) : zq_W x w k n (z, g, o) pc V (.int v :: .int i :: .ref (w.2.1 23) :: st) :=
  zr_iast hG (hW _) 23 0 rfl rfl hi (zq_w w (zs_a z 13 i v, g, o)) rfl hd kk
theorem zl_24 (hG : zq_G x w own cc nL rm) (hi : vp_in i (w.2.2.1 14)) (hd : decode cc pc = .ok (.iaload, 1)) (kk : zq_W x w k n (z, g, o) (pc + 1) V (.int (z.2 14 i.toNatClampNeg) :: st)) : zq_W x w k n (z, g, o) pc V (.int i :: .ref (w.2.1 24) :: st) :=
  zr_iald hG 24 0 rfl rfl hi hd kk
theorem zu_24 (hG : zq_G x w own cc nL rm) (hW : zq_Wr x w) (hi : vp_in i (w.2.2.1 14)) (hd : decode cc pc = .ok (.iastore, 1)) (kk : zq_W x w k n (zs_a z 14 i v, g, o) (pc + 1) V st) : zq_W x w k n (z, g, o) pc V (.int v :: .int i :: .ref (w.2.1 24) :: st) :=
  zr_iast hG (hW _) 24 0 rfl rfl hi (zq_w w (zs_a z 14 i v, g, o)) rfl hd kk
theorem zl_25 (hG : zq_G x w own cc nL rm) (hi : vp_in i (w.2.2.1 15)) (hd : decode cc pc = .ok (.iaload, 1)) (kk : zq_W x w k n (z, g, o) (pc + 1) V (.int (z.2 15 i.toNatClampNeg) :: st)) : zq_W x w k n (z, g, o) pc V (.int i :: .ref (w.2.1 25) :: st) :=
  zr_iald hG 25 0 rfl rfl hi hd kk
theorem zu_25 (hG : zq_G x w own cc nL rm) (hW : zq_Wr x w) (hi : vp_in i (w.2.2.1 15)) (hd : decode cc pc = .ok (.iastore, 1)) (kk : zq_W x w k n (zs_a z 15 i v, g, o) (pc + 1) V st) : zq_W x w k n (z, g, o) pc V (.int v :: .int i :: .ref (w.2.1 25) :: st) :=
  zr_iast hG (hW _) 25 0 rfl rfl hi (zq_w w (zs_a z 15 i v, g, o)) rfl hd kk
theorem zl_26 (hG : zq_G x w own cc nL rm) (hi : vp_in i (w.2.2.1 16)) (hd : decode cc pc = .ok (.baload, 1)) (kk : zq_W x w k n (z, g, o) (pc + 1) V (.int (z.2 16 i.toNatClampNeg) :: st)) : zq_W x w k n (z, g, o) pc V (.int i :: .ref (w.2.1 26) :: st) :=
  zr_zald hG 26 1 rfl rfl hi hd kk
theorem zu_26 (hG : zq_G x w own cc nL rm) (hW : zq_Wr x w) (hi : vp_in i (w.2.2.1 16)) (hd : decode cc pc = .ok (.bastore, 1)) (kk : zq_W x w k n (zs_a z 16 i (vp_nar .boolean v), g, o) (pc + 1) V st) : zq_W x w k n (z, g, o) pc V (.int v :: .int i :: .ref (w.2.1 26) :: st) :=
  zr_zast hG (hW _) 26 1 rfl rfl hi (zq_w w (zs_a z 16 i (vp_nar .boolean v), g, o)) rfl hd kk
theorem zl_19 (hG : zq_G x w own cc nL rm) (hi : vp_in i (w.2.2.1 17)) (hd : decode cc pc = .ok (.iaload, 1)) (kk : zq_W x w k n (z, g, o) (pc + 1) V (.int (z.2 17 i.toNatClampNeg) :: st)) : zq_W x w k n (z, g, o) pc V (.int i :: .ref (w.2.1 19) :: st) :=
  zr_iald hG 19 0 rfl rfl hi hd kk
theorem zu_19 (hG : zq_G x w own cc nL rm) (hW : zq_Wr x w) (hi : vp_in i (w.2.2.1 17)) (hd : decode cc pc = .ok (.iastore, 1)) (kk : zq_W x w k n (zs_a z 17 i v, g, o) (pc + 1) V st) : zq_W x w k n (z, g, o) pc V (.int v :: .int i :: .ref (w.2.1 19) :: st) :=
  zr_iast hG (hW _) 19 0 rfl rfl hi (zq_w w (zs_a z 17 i v, g, o)) rfl hd kk
theorem zl_29 (hG : zq_G x w own cc nL rm) (hi : vp_in i 162) (hd : decode cc pc = .ok (.baload, 1)) (kk : zq_W x w k n (g, z, o) (pc + 1) V (.int (z.2 0 i.toNatClampNeg) :: st)) : zq_W x w k n (g, z, o) pc V (.int i :: .ref (w.2.1 29) :: st) :=
  zr_zald hG 29 1 rfl rfl hi hd kk
theorem zu_29 (hG : zq_G x w own cc nL rm) (hW : zq_Wr x w) (hi : vp_in i 162) (hd : decode cc pc = .ok (.bastore, 1)) (kk : zq_W x w k n (g, zs_a z 0 i (vp_nar .boolean v), o) (pc + 1) V st) : zq_W x w k n (g, z, o) pc V (.int v :: .int i :: .ref (w.2.1 29) :: st) :=
  zr_zast hG (hW _) 29 1 rfl rfl hi (zq_w w (g, zs_a z 0 i (vp_nar .boolean v), o)) rfl hd kk
theorem zl_30 (hG : zq_G x w own cc nL rm) (hi : vp_in i 162) (hd : decode cc pc = .ok (.iaload, 1)) (kk : zq_W x w k n (g, z, o) (pc + 1) V (.int (z.2 1 i.toNatClampNeg) :: st)) : zq_W x w k n (g, z, o) pc V (.int i :: .ref (w.2.1 30) :: st) :=
  zr_iald hG 30 0 rfl rfl hi hd kk
theorem zu_30 (hG : zq_G x w own cc nL rm) (hW : zq_Wr x w) (hi : vp_in i 162) (hd : decode cc pc = .ok (.iastore, 1)) (kk : zq_W x w k n (g, zs_a z 1 i v, o) (pc + 1) V st) : zq_W x w k n (g, z, o) pc V (.int v :: .int i :: .ref (w.2.1 30) :: st) :=
  zr_iast hG (hW _) 30 0 rfl rfl hi (zq_w w (g, zs_a z 1 i v, o)) rfl hd kk
theorem zl_31 (hG : zq_G x w own cc nL rm) (hi : vp_in i 162) (hd : decode cc pc = .ok (.iaload, 1)) (kk : zq_W x w k n (g, z, o) (pc + 1) V (.int (z.2 2 i.toNatClampNeg) :: st)) : zq_W x w k n (g, z, o) pc V (.int i :: .ref (w.2.1 31) :: st) :=
  zr_iald hG 31 0 rfl rfl hi hd kk
theorem zu_31 (hG : zq_G x w own cc nL rm) (hW : zq_Wr x w) (hi : vp_in i 162) (hd : decode cc pc = .ok (.iastore, 1)) (kk : zq_W x w k n (g, zs_a z 2 i v, o) (pc + 1) V st) : zq_W x w k n (g, z, o) pc V (.int v :: .int i :: .ref (w.2.1 31) :: st) :=
  zr_iast hG (hW _) 31 0 rfl rfl hi (zq_w w (g, zs_a z 2 i v, o)) rfl hd kk
theorem zl_32 (hG : zq_G x w own cc nL rm) (hi : vp_in i 81) (hd : decode cc pc = .ok (.baload, 1)) (kk : zq_W x w k n (g, z, o) (pc + 1) V (.int (z.2 3 i.toNatClampNeg) :: st)) : zq_W x w k n (g, z, o) pc V (.int i :: .ref (w.2.1 32) :: st) :=
  zr_zald hG 32 1 rfl rfl hi hd kk
theorem zu_32 (hG : zq_G x w own cc nL rm) (hW : zq_Wr x w) (hi : vp_in i 81) (hd : decode cc pc = .ok (.bastore, 1)) (kk : zq_W x w k n (g, zs_a z 3 i (vp_nar .boolean v), o) (pc + 1) V st) : zq_W x w k n (g, z, o) pc V (.int v :: .int i :: .ref (w.2.1 32) :: st) :=
  zr_zast hG (hW _) 32 1 rfl rfl hi (zq_w w (g, zs_a z 3 i (vp_nar .boolean v), o)) rfl hd kk
theorem zl_33 (hG : zq_G x w own cc nL rm) (hi : vp_in i 162) (hd : decode cc pc = .ok (.iaload, 1)) (kk : zq_W x w k n (g, z, o) (pc + 1) V (.int (z.2 4 i.toNatClampNeg) :: st)) : zq_W x w k n (g, z, o) pc V (.int i :: .ref (w.2.1 33) :: st) :=
  zr_iald hG 33 0 rfl rfl hi hd kk
theorem zu_33 (hG : zq_G x w own cc nL rm) (hW : zq_Wr x w) (hi : vp_in i 162) (hd : decode cc pc = .ok (.iastore, 1)) (kk : zq_W x w k n (g, zs_a z 4 i v, o) (pc + 1) V st) : zq_W x w k n (g, z, o) pc V (.int v :: .int i :: .ref (w.2.1 33) :: st) :=
  zr_iast hG (hW _) 33 0 rfl rfl hi (zq_w w (g, zs_a z 4 i v, o)) rfl hd kk
theorem zl_34 (hG : zq_G x w own cc nL rm) (hi : vp_in i 162) (hd : decode cc pc = .ok (.baload, 1)) (kk : zq_W x w k n (g, z, o) (pc + 1) V (.int (z.2 5 i.toNatClampNeg) :: st)) : zq_W x w k n (g, z, o) pc V (.int i :: .ref (w.2.1 34) :: st) :=
  zr_zald hG 34 1 rfl rfl hi hd kk
theorem zu_34 (hG : zq_G x w own cc nL rm) (hW : zq_Wr x w) (hi : vp_in i 162) (hd : decode cc pc = .ok (.bastore, 1)) (kk : zq_W x w k n (g, zs_a z 5 i (vp_nar .boolean v), o) (pc + 1) V st) : zq_W x w k n (g, z, o) pc V (.int v :: .int i :: .ref (w.2.1 34) :: st) :=
  zr_zast hG (hW _) 34 1 rfl rfl hi (zq_w w (g, zs_a z 5 i (vp_nar .boolean v), o)) rfl hd kk
theorem zl_35 (hG : zq_G x w own cc nL rm) (hi : vp_in i 162) (hd : decode cc pc = .ok (.iaload, 1)) (kk : zq_W x w k n (g, z, o) (pc + 1) V (.int (z.2 6 i.toNatClampNeg) :: st)) : zq_W x w k n (g, z, o) pc V (.int i :: .ref (w.2.1 35) :: st) :=
  zr_iald hG 35 0 rfl rfl hi hd kk
theorem zu_35 (hG : zq_G x w own cc nL rm) (hW : zq_Wr x w) (hi : vp_in i 162) (hd : decode cc pc = .ok (.iastore, 1)) (kk : zq_W x w k n (g, zs_a z 6 i v, o) (pc + 1) V st) : zq_W x w k n (g, z, o) pc V (.int v :: .int i :: .ref (w.2.1 35) :: st) :=
  zr_iast hG (hW _) 35 0 rfl rfl hi (zq_w w (g, zs_a z 6 i v, o)) rfl hd kk
theorem zl_36 (hG : zq_G x w own cc nL rm) (hi : vp_in i 162) (hd : decode cc pc = .ok (.baload, 1)) (kk : zq_W x w k n (g, z, o) (pc + 1) V (.int (z.2 7 i.toNatClampNeg) :: st)) : zq_W x w k n (g, z, o) pc V (.int i :: .ref (w.2.1 36) :: st) :=
  zr_zald hG 36 1 rfl rfl hi hd kk
theorem zu_36 (hG : zq_G x w own cc nL rm) (hW : zq_Wr x w) (hi : vp_in i 162) (hd : decode cc pc = .ok (.bastore, 1)) (kk : zq_W x w k n (g, zs_a z 7 i (vp_nar .boolean v), o) (pc + 1) V st) : zq_W x w k n (g, z, o) pc V (.int v :: .int i :: .ref (w.2.1 36) :: st) :=
  zr_zast hG (hW _) 36 1 rfl rfl hi (zq_w w (g, zs_a z 7 i (vp_nar .boolean v), o)) rfl hd kk
theorem zl_37 (hG : zq_G x w own cc nL rm) (hi : vp_in i 6) (hd : decode cc pc = .ok (.iaload, 1)) (kk : zq_W x w k n (g, z, o) (pc + 1) V (.int (z.2 8 i.toNatClampNeg) :: st)) : zq_W x w k n (g, z, o) pc V (.int i :: .ref (w.2.1 37) :: st) :=
  zr_iald hG 37 0 rfl rfl hi hd kk
theorem zu_37 (hG : zq_G x w own cc nL rm) (hW : zq_Wr x w) (hi : vp_in i 6) (hd : decode cc pc = .ok (.iastore, 1)) (kk : zq_W x w k n (g, zs_a z 8 i v, o) (pc + 1) V st) : zq_W x w k n (g, z, o) pc V (.int v :: .int i :: .ref (w.2.1 37) :: st) :=
  zr_iast hG (hW _) 37 0 rfl rfl hi (zq_w w (g, zs_a z 8 i v, o)) rfl hd kk
theorem zl_38 (hG : zq_G x w own cc nL rm) (hi : vp_in i 6) (hd : decode cc pc = .ok (.iaload, 1)) (kk : zq_W x w k n (g, z, o) (pc + 1) V (.int (z.2 9 i.toNatClampNeg) :: st)) : zq_W x w k n (g, z, o) pc V (.int i :: .ref (w.2.1 38) :: st) :=
  zr_iald hG 38 0 rfl rfl hi hd kk
theorem zu_38 (hG : zq_G x w own cc nL rm) (hW : zq_Wr x w) (hi : vp_in i 6) (hd : decode cc pc = .ok (.iastore, 1)) (kk : zq_W x w k n (g, zs_a z 9 i v, o) (pc + 1) V st) : zq_W x w k n (g, z, o) pc V (.int v :: .int i :: .ref (w.2.1 38) :: st) :=
  zr_iast hG (hW _) 38 0 rfl rfl hi (zq_w w (g, zs_a z 9 i v, o)) rfl hd kk
theorem zl_39 (hG : zq_G x w own cc nL rm) (hi : vp_in i 6) (hd : decode cc pc = .ok (.iaload, 1)) (kk : zq_W x w k n (g, z, o) (pc + 1) V (.int (z.2 10 i.toNatClampNeg) :: st)) : zq_W x w k n (g, z, o) pc V (.int i :: .ref (w.2.1 39) :: st) :=
  zr_iald hG 39 0 rfl rfl hi hd kk
theorem zu_39 (hG : zq_G x w own cc nL rm) (hW : zq_Wr x w) (hi : vp_in i 6) (hd : decode cc pc = .ok (.iastore, 1)) (kk : zq_W x w k n (g, zs_a z 10 i v, o) (pc + 1) V st) : zq_W x w k n (g, z, o) pc V (.int v :: .int i :: .ref (w.2.1 39) :: st) :=
  zr_iast hG (hW _) 39 0 rfl rfl hi (zq_w w (g, zs_a z 10 i v, o)) rfl hd kk
theorem zv_19 {sp dp c : Int32} (hG : zq_G x w own cc nL rm) (hW : zq_Wr x w) (hl1 : Cond.methodLink own index arraycopyName ∈ zq_T) (hl2 : Cond.native arraycopyName ∈ zq_T) (hl3 : Cond.static arraycopyName ∈ zq_T) (hl4 : Cond.initialized "java/lang/System" ∈ zq_T) (hRm : 1 ≤ rm.frames ∧ (st.map fun v => v.category).sum + (nativeFrameWords "java/lang/System" "arraycopy" 5 + 11) ≤ rm.locals) (hV : V.length = nL) (h1 : ¬ sp < 0) (h2 : ¬ dp < 0) (h3 : ¬ c < 0) (h4 : sp.toNatClampNeg + c.toNatClampNeg ≤ w.2.2.1 17) (h5 : dp.toNatClampNeg + c.toNatClampNeg ≤ w.2.2.1 17) (hd : decode cc pc = .ok (.invokestatic index, 3)) (kk : zq_W x w k n (zs_r z 17 (va_cpy (z.2 17) (z.2 17) sp.toNatClampNeg dp.toNatClampNeg c.toNatClampNeg), g, o) (pc + 3) V st) : zq_W x w k n (z, g, o) pc V (.int c :: .int dp :: .ref (w.2.1 19) :: .int sp :: .ref (w.2.1 19) :: st) :=
  zr_acp hG hW hl1 hl2 hl3 hl4 hRm hV 19 rfl h1 h2 h3 h4 h5 (zs_r z 17 (va_cpy (z.2 17) (z.2 17) sp.toNatClampNeg dp.toNatClampNeg c.toNatClampNeg), g, o) rfl hd kk
end ZF
theorem zq_sw0_2 {a : Int32} (h0 : ¬ a = 0) (h1 : ¬ a = 1) (h2 : ¬ a = 2) : a.toInt < 0 ∨ 2 < a.toInt := by
  have e0 : ¬ a.toInt = 0 := lv_neT h0 (by decide)
  have e1 : ¬ a.toInt = 1 := lv_neT h1 (by decide)
  have e2 : ¬ a.toInt = 2 := lv_neT h2 (by decide)
  omega
theorem zq_sw0_3 {a : Int32} (h0 : ¬ a = 0) (h1 : ¬ a = 1) (h2 : ¬ a = 2) (h3 : ¬ a = 3) : a.toInt < 0 ∨ 3 < a.toInt := by
  have e0 : ¬ a.toInt = 0 := lv_neT h0 (by decide)
  have e1 : ¬ a.toInt = 1 := lv_neT h1 (by decide)
  have e2 : ¬ a.toInt = 2 := lv_neT h2 (by decide)
  have e3 : ¬ a.toInt = 3 := lv_neT h3 (by decide)
  omega
theorem zq_sw0_4 {a : Int32} (h0 : ¬ a = 0) (h1 : ¬ a = 1) (h2 : ¬ a = 2) (h3 : ¬ a = 3) (h4 : ¬ a = 4) : a.toInt < 0 ∨ 4 < a.toInt := by
  have e0 : ¬ a.toInt = 0 := lv_neT h0 (by decide)
  have e1 : ¬ a.toInt = 1 := lv_neT h1 (by decide)
  have e2 : ¬ a.toInt = 2 := lv_neT h2 (by decide)
  have e3 : ¬ a.toInt = 3 := lv_neT h3 (by decide)
  have e4 : ¬ a.toInt = 4 := lv_neT h4 (by decide)
  omega
theorem zq_sw0_12 {a : Int32} (h0 : ¬ a = 0) (h1 : ¬ a = 1) (h2 : ¬ a = 2) (h3 : ¬ a = 3) (h4 : ¬ a = 4) (h5 : ¬ a = 5) (h6 : ¬ a = 6) (h7 : ¬ a = 7) (h8 : ¬ a = 8) (h9 : ¬ a = 9) (h10 : ¬ a = 10) (h11 : ¬ a = 11) (h12 : ¬ a = 12) : a.toInt < 0 ∨ 12 < a.toInt := by
  have e0 : ¬ a.toInt = 0 := lv_neT h0 (by decide)
  have e1 : ¬ a.toInt = 1 := lv_neT h1 (by decide)
  have e2 : ¬ a.toInt = 2 := lv_neT h2 (by decide)
  have e3 : ¬ a.toInt = 3 := lv_neT h3 (by decide)
  have e4 : ¬ a.toInt = 4 := lv_neT h4 (by decide)
  have e5 : ¬ a.toInt = 5 := lv_neT h5 (by decide)
  have e6 : ¬ a.toInt = 6 := lv_neT h6 (by decide)
  have e7 : ¬ a.toInt = 7 := lv_neT h7 (by decide)
  have e8 : ¬ a.toInt = 8 := lv_neT h8 (by decide)
  have e9 : ¬ a.toInt = 9 := lv_neT h9 (by decide)
  have e10 : ¬ a.toInt = 10 := lv_neT h10 (by decide)
  have e11 : ¬ a.toInt = 11 := lv_neT h11 (by decide)
  have e12 : ¬ a.toInt = 12 := lv_neT h12 (by decide)
  omega
end
section
theorem zg_Gr_83 : zq_gV "GridRouter" 83 zy_Grid_cellAt zc_Grid_cellAt 4 (some .int) := ⟨tk_425, tk_426, tk_427, tk_2, tk_428⟩
theorem zg_Gr_72 : zq_gV "GridRouter" 72 zy_Grid_hasCell zc_Grid_hasCell 4 (some .boolean) := ⟨tk_349, tk_350, tk_351, tk_2, tk_352⟩
theorem zg_Gr_115 : zq_gV "GridRouter" 115 zy_Nets_add zc_Nets_add 4 (some .int) := ⟨tk_478, tk_479, tk_480, tk_3, tk_481⟩
theorem zg_Gr_104 : zq_gV "GridRouter" 104 zy_Rules_isBarred zc_Rules_isBarred 3 (some .boolean) := ⟨tk_453, tk_454, tk_455, tk_6, tk_456⟩
theorem zg_Gr_128 : zq_gV "GridRouter" 128 zy_Router_lay zc_Router_lay 3 (some .int) := ⟨tk_494, tk_495, tk_496, tk_8, tk_497⟩
theorem zg_Gr_122 : zq_gV "GridRouter" 122 zy_Nets_has zc_Nets_has 2 (some .boolean) := ⟨tk_489, tk_490, tk_491, tk_3, tk_492⟩
theorem zg_Gr_132 : zq_gV "GridRouter" 132 zy_Router_shove zc_Router_shove 3 (some .int) := ⟨tk_574, tk_575, tk_576, tk_8, tk_577⟩
theorem zg_Gr_148 : zq_gV "GridRouter" 148 zy_Checker_loose zc_Checker_loose 3 (some .int) := ⟨tk_662, tk_663, tk_664, tk_7, tk_665⟩
theorem zg_Gr_145 : zq_gV "GridRouter" 145 zy_Router_retryLoose zc_Router_retryLoose 4 none := ⟨tk_644, tk_645, tk_646, tk_8, tk_647⟩
theorem zg_Gr_141 : zq_gV "GridRouter" 141 zy_Router_serveLine zc_Router_serveLine 5 none := ⟨tk_623, tk_624, tk_625, tk_8, tk_626⟩
theorem zg_Gr_137 : zq_gV "GridRouter" 137 zy_Router_lineUp zc_Router_lineUp 3 none := ⟨tk_600, tk_601, tk_602, tk_8, tk_603⟩
theorem zg_Gr_152 : zq_gV "GridRouter" 152 zy_Layout_strip zc_Layout_strip 2 none := ⟨tk_674, tk_499, tk_500, tk_5, tk_501⟩
theorem zg_Gr_157 : zq_gV "GridRouter" 157 zy_Grid_hasPlace zc_Grid_hasPlace 3 (some .boolean) := ⟨tk_690, tk_354, tk_355, tk_2, tk_356⟩
theorem zg_Gr_167 : zq_gV "GridRouter" 167 zy_Checker_count zc_Checker_count 2 (some .int) := ⟨tk_714, tk_715, tk_716, tk_7, tk_717⟩
theorem zg_Gr_169 : zq_gV "GridRouter" 169 zy_Shapes_count zc_Shapes_count 3 (some .int) := ⟨tk_325, tk_326, tk_327, tk_11, tk_328⟩
theorem zg_Gr_178 : zq_gV "GridRouter" 178 zy_Shapes_tell zc_Shapes_tell 3 (some .int) := ⟨tk_748, tk_749, tk_750, tk_11, tk_751⟩
theorem zg_Gr_171 : zq_gV "GridRouter" 171 zy_Shapes_startOf zc_Shapes_startOf 4 (some .int) := ⟨tk_742, tk_743, tk_744, tk_11, tk_745⟩
theorem zg_Mo_61 : zq_gV "GridRouterModel" 61 zy_Mo_isPlace zc_Mo_isPlace 3 (some .boolean) := ⟨tk_833, tk_835, ts_26, tk_12, tk_836⟩
theorem zg_Mo_65 : zq_gV "GridRouterModel" 65 zy_Mo_at zc_Mo_at 4 (some .int) := ⟨tk_829, tk_831, ts_25, tk_12, tk_832⟩
theorem zg_Mo_69 : zq_gS "GridRouterModel" 69 zy_Mo_isOther zc_Mo_isOther 2 (some .boolean) := ⟨tk_845, tk_846, tk_12, tk_847⟩
theorem zg_Mo_72 : zq_gV "GridRouterModel" 72 zy_Mo_side zc_Mo_side 6 (some .int) := ⟨tk_848, tk_850, ts_28, tk_12, tk_851⟩
theorem zg_Mo_80 : zq_gV "GridRouterModel" 80 zy_Mo_isTaken zc_Mo_isTaken 6 (some .boolean) := ⟨tk_885, tk_887, ts_36, tk_12, tk_888⟩
theorem zg_Mo_76 : zq_gV "GridRouterModel" 76 zy_Mo_isBarred zc_Mo_isBarred 6 (some .boolean) := ⟨tk_841, tk_843, ts_27, tk_12, tk_844⟩
theorem zg_Mo_90 : zq_gV "GridRouterModel" 90 zy_Mo_placeOf zc_Mo_placeOf 2 (some .int) := ⟨tk_872, tk_874, ts_33, tk_12, tk_875⟩
theorem zg_Mo_86 : zq_gV "GridRouterModel" 86 zy_Mo_many zc_Mo_many 1 (some .int) := ⟨tk_868, tk_870, ts_32, tk_12, tk_871⟩
theorem zg_Mo_94 : zq_gV "GridRouterModel" 94 zy_Mo_toll zc_Mo_toll 4 (some .int) := ⟨tk_881, tk_883, ts_35, tk_12, tk_884⟩
theorem zg_Mo_98 : zq_gV "GridRouterModel" 98 zy_Mo_before zc_Mo_before 7 (some .int) := ⟨tk_893, tk_895, ts_38, tk_12, tk_896⟩
theorem zg_Mo_101 : zq_gV "GridRouterModel" 101 zy_Mo_pushOut zc_Mo_pushOut 5 none := ⟨tk_897, tk_899, ts_39, tk_12, tk_900⟩
theorem zg_Mo_105 : zq_gV "GridRouterModel" 105 zy_Mo_leave zc_Mo_leave 3 none := ⟨tk_901, tk_903, ts_40, tk_12, tk_904⟩
theorem zg_Mo_108 : zq_gV "GridRouterModel" 108 zy_Mo_clear zc_Mo_clear 3 none := ⟨tk_864, tk_866, ts_31, tk_12, tk_867⟩
theorem zg_Mo_119 : zq_gV "GridRouterModel" 119 zy_Mo_lay zc_Mo_lay 6 none := ⟨tk_889, tk_891, ts_37, tk_12, tk_892⟩
theorem zg_Mo_115 : zq_gV "GridRouterModel" 115 zy_Mo_weigh zc_Mo_weigh 9 none := ⟨tk_876, tk_878, ts_34, tk_12, tk_879⟩
theorem zg_Mo_126 : zq_gV "GridRouterModel" 126 zy_Mo_find zc_Mo_find 4 (some .int) := ⟨tk_860, tk_862, ts_30, tk_12, tk_863⟩
theorem zg_Mo_122 : zq_gV "GridRouterModel" 122 zy_Mo_isNet zc_Mo_isNet 2 (some .boolean) := ⟨tk_856, tk_858, ts_29, tk_12, tk_859⟩
theorem zg_Mo_130 : zq_gS "GridRouterModel" 130 zy_Mo_apart zc_Mo_apart 2 (some .int) := ⟨tk_925, tk_926, tk_12, tk_927⟩
theorem zg_Mo_136 : zq_gV "GridRouterModel" 136 zy_Mo_spread zc_Mo_spread 4 (some .int) := ⟨tk_921, tk_923, ts_42, tk_12, tk_924⟩
theorem zg_Mo_139 : zq_gV "GridRouterModel" 139 zy_Mo_standAll zc_Mo_standAll 5 none := ⟨tk_917, tk_919, ts_41, tk_12, tk_920⟩
theorem zg_Mo_143 : zq_gV "GridRouterModel" 143 zy_Mo_stands zc_Mo_stands 4 (some .boolean) := ⟨tk_928, tk_930, ts_43, tk_12, tk_931⟩
theorem zg_Mo_149 : zq_gV "GridRouterModel" 149 zy_Mo_countOpen zc_Mo_countOpen 3 (some .int) := ⟨tk_940, tk_942, ts_46, tk_12, tk_943⟩
theorem zg_Mo_146 : zq_gV "GridRouterModel" 146 zy_Mo_isJoined zc_Mo_isJoined 4 (some .boolean) := ⟨tk_932, tk_934, ts_44, tk_12, tk_935⟩
theorem zg_Mo_152 : zq_gV "GridRouterModel" 152 zy_Mo_touches zc_Mo_touches 5 (some .boolean) := ⟨tk_936, tk_938, ts_45, tk_12, tk_939⟩
theorem zg_Mo_155 : zq_gV "GridRouterModel" 155 zy_Mo_countNear zc_Mo_countNear 5 (some .int) := ⟨tk_964, tk_966, ts_47, tk_12, tk_967⟩
theorem zg_Mo_158 : zq_gV "GridRouterModel" 158 zy_Mo_begins zc_Mo_begins 2 (some .boolean) := ⟨tk_972, tk_974, ts_48, tk_12, tk_975⟩
theorem zg_Mo_161 : zq_gV "GridRouterModel" 161 zy_Mo_fail zc_Mo_fail 2 (some .int) := ⟨tk_980, tk_982, ts_49, tk_12, tk_983⟩
theorem zg_Checker_44 : zq_gV "GridRouter$Checker" 44 zy_Checker_misplaced zc_Checker_misplaced 5 (some .int) := ⟨tk_718, tk_720, ts_20, tk_7, tk_721⟩
theorem zg_Checker_48 : zq_gV "GridRouter$Checker" 48 zy_Checker_crowded zc_Checker_crowded 3 (some .int) := ⟨tk_722, tk_724, ts_21, tk_7, tk_725⟩
theorem zg_Checker_51 : zq_gV "GridRouter$Checker" 51 zy_Checker_badVias zc_Checker_badVias 4 (some .int) := ⟨tk_730, tk_732, ts_23, tk_7, tk_733⟩
theorem zg_Checker_54 : zq_gV "GridRouter$Checker" 54 zy_Checker_loose zc_Checker_loose 3 (some .int) := ⟨tk_734, tk_663, tk_664, tk_7, tk_665⟩
theorem zg_Checker_80 : zq_gV "GridRouter$Checker" 80 zy_Checker_clash zc_Checker_clash 3 (some .int) := ⟨tk_726, tk_728, ts_22, tk_7, tk_729⟩
theorem zg_Checker_76 : zq_gV "GridRouter$Checker" 76 zy_Grid_next zc_Grid_next 3 (some .int) := ⟨tk_660, tk_334, tk_335, tk_2, tk_336⟩
theorem zg_Checker_92 : zq_gV "GridRouter$Checker" 92 zy_Checker_isJoined zc_Checker_isJoined 3 (some .boolean) := ⟨tk_666, tk_649, tk_650, tk_7, tk_651⟩
theorem zg_Checker_99 : zq_gV "GridRouter$Checker" 99 zy_Checker_reach zc_Checker_reach 3 none := ⟨tk_652, tk_654, ts_18, tk_7, tk_655⟩
theorem zg_Checker_103 : zq_gV "GridRouter$Checker" 103 zy_Checker_reachFrom zc_Checker_reachFrom 4 none := ⟨tk_656, tk_658, ts_19, tk_7, tk_659⟩
theorem zg_Checker_109 : zq_gV "GridRouter$Checker" 109 zy_Grid_placeOf zc_Grid_placeOf 2 (some .int) := ⟨tk_661, tk_507, tk_508, tk_2, tk_509⟩
theorem zg_Grid_38 : zq_gV "GridRouter$Grid" 38 zy_Grid_hasPlace zc_Grid_hasPlace 3 (some .boolean) := ⟨tk_353, tk_354, tk_355, tk_2, tk_356⟩
theorem zg_Layout_46 : zq_gV "GridRouter$Layout" 46 zy_Layout_restorePins zc_Layout_restorePins 2 none := ⟨tk_510, tk_511, tk_512, tk_5, tk_513⟩
theorem zg_Layout_42 : zq_gV "GridRouter$Layout" 42 zy_Layout_clear zc_Layout_clear 3 none := ⟨tk_502, tk_503, tk_504, tk_5, tk_505⟩
theorem zg_Layout_49 : zq_gV "GridRouter$Layout" 49 zy_Grid_placeOf zc_Grid_placeOf 2 (some .int) := ⟨tk_506, tk_507, tk_508, tk_2, tk_509⟩
theorem zg_Line_25 : zq_gV "GridRouter$Line" 25 zy_Nets_span zc_Nets_span 4 (some .int) := ⟨tk_612, tk_613, tk_614, tk_3, tk_615⟩
theorem zg_Nets_40 : zq_gV "GridRouter$Nets" 40 zy_Grid_layerOf zc_Grid_layerOf 2 (some .int) := ⟨tk_616, tk_617, tk_618, tk_2, tk_619⟩
theorem zg_Router_61 : zq_gV "GridRouter$Router" 61 zy_Router_layWay zc_Router_layWay 4 none := ⟨tk_561, tk_563, ts_13, tk_8, tk_564⟩
theorem zg_Router_57 : zq_gV "GridRouter$Router" 57 zy_WayFinder_find zc_WayFinder_find 4 (some .int) := ⟨tk_514, tk_515, tk_516, tk_10, tk_517⟩
theorem zg_Router_51 : zq_gV "GridRouter$Router" 51 zy_Layout_strip zc_Layout_strip 2 none := ⟨tk_498, tk_499, tk_500, tk_5, tk_501⟩
theorem zg_Router_67 : zq_gV "GridRouter$Router" 67 zy_Router_stripPushedOut zc_Router_stripPushedOut 2 none := ⟨tk_586, tk_588, ts_16, tk_8, tk_589⟩
theorem zg_Router_64 : zq_gV "GridRouter$Router" 64 zy_Router_markPushedOut zc_Router_markPushedOut 5 none := ⟨tk_578, tk_580, ts_14, tk_8, tk_581⟩
theorem zg_Router_90 : zq_gV "GridRouter$Router" 90 zy_Grid_placeOf zc_Grid_placeOf 2 (some .int) := ⟨tk_566, tk_507, tk_508, tk_2, tk_509⟩
theorem zg_Router_83 : zq_gV "GridRouter$Router" 83 zy_Grid_next zc_Grid_next 3 (some .int) := ⟨tk_565, tk_334, tk_335, tk_2, tk_336⟩
theorem zg_Router_94 : zq_gV "GridRouter$Router" 94 zy_Router_markHolder zc_Router_markHolder 3 none := ⟨tk_582, tk_584, ts_15, tk_8, tk_585⟩
theorem zg_Router_109 : zq_gV "GridRouter$Router" 109 zy_Layout_clear zc_Layout_clear 3 none := ⟨tk_590, tk_503, tk_504, tk_5, tk_505⟩
theorem zg_Router_112 : zq_gV "GridRouter$Router" 112 zy_Layout_restorePins zc_Layout_restorePins 2 none := ⟨tk_591, tk_511, tk_512, tk_5, tk_513⟩
theorem zg_Router_118 : zq_gV "GridRouter$Router" 118 zy_Line_sortBySpan zc_Line_sortBySpan 5 none := ⟨tk_608, tk_609, tk_610, tk_9, tk_611⟩
theorem zg_Router_115 : zq_gV "GridRouter$Router" 115 zy_Line_join zc_Line_join 3 none := ⟨tk_604, tk_605, tk_606, tk_9, tk_607⟩
theorem zg_Router_136 : zq_gV "GridRouter$Router" 136 zy_Router_lineUpPushedOut zc_Router_lineUpPushedOut 2 none := ⟨tk_640, tk_642, ts_17, tk_8, tk_643⟩
theorem zg_Router_133 : zq_gV "GridRouter$Router" 133 zy_Router_shove zc_Router_shove 3 (some .int) := ⟨tk_639, tk_575, tk_576, tk_8, tk_577⟩
theorem zg_Router_130 : zq_gV "GridRouter$Router" 130 zy_Router_lay zc_Router_lay 3 (some .int) := ⟨tk_638, tk_495, tk_496, tk_8, tk_497⟩
theorem zg_Router_126 : zq_gV "GridRouter$Router" 126 zy_Line_leave zc_Line_leave 2 (some .int) := ⟨tk_631, tk_632, tk_633, tk_9, tk_634⟩
theorem zg_Router_122 : zq_gV "GridRouter$Router" 122 zy_Line_isEmpty zc_Line_isEmpty 1 (some .boolean) := ⟨tk_627, tk_628, tk_629, tk_9, tk_630⟩
theorem zg_Router_139 : zq_gV "GridRouter$Router" 139 zy_Checker_isJoined zc_Checker_isJoined 3 (some .boolean) := ⟨tk_648, tk_649, tk_650, tk_7, tk_651⟩
theorem zg_Rules_43 : zq_gV "GridRouter$Rules" 43 zy_Rules_isClose zc_Rules_isClose 8 (some .boolean) := ⟨tk_457, tk_459, ts_3, tk_6, tk_460⟩
theorem zg_Shapes_25 : zq_gV "GridRouter$Shapes" 25 zy_Shapes_isStart zc_Shapes_isStart 4 (some .boolean) := ⟨tk_329, tk_331, ts_1, tk_11, tk_332⟩
theorem zg_Shapes_29 : zq_gV "GridRouter$Shapes" 29 zy_Grid_layerOf zc_Grid_layerOf 2 (some .int) := ⟨tk_752, tk_617, tk_618, tk_2, tk_619⟩
theorem zg_Shapes_40 : zq_gV "GridRouter$Shapes" 40 zy_Shapes_lastX zc_Shapes_lastX 4 (some .int) := ⟨tk_753, tk_755, ts_24, tk_11, tk_756⟩
theorem zg_Shapes_48 : zq_gV "GridRouter$Shapes" 48 zy_Grid_next zc_Grid_next 3 (some .int) := ⟨tk_333, tk_334, tk_335, tk_2, tk_336⟩
theorem zg_WayFinder_78 : zq_gV "GridRouter$WayFinder" 78 zy_WayFinder_trace zc_WayFinder_trace 4 none := ⟨tk_553, tk_555, ts_11, tk_10, tk_556⟩
theorem zg_WayFinder_70 : zq_gV "GridRouter$WayFinder" 70 zy_WayFinder_spread zc_WayFinder_spread 4 none := ⟨tk_531, tk_533, ts_6, tk_10, tk_534⟩
theorem zg_WayFinder_62 : zq_gV "GridRouter$WayFinder" 62 zy_WayFinder_freeToll zc_WayFinder_freeToll 3 (some .int) := ⟨tk_527, tk_529, ts_5, tk_10, tk_530⟩
theorem zg_WayFinder_58 : zq_gV "GridRouter$WayFinder" 58 zy_WayFinder_pushToll zc_WayFinder_pushToll 3 (some .int) := ⟨tk_518, tk_520, ts_4, tk_10, tk_521⟩
theorem zg_WayFinder_91 : zq_gV "GridRouter$WayFinder" 91 zy_Rules_isTaken zc_Rules_isTaken 3 (some .boolean) := ⟨tk_523, tk_524, tk_525, tk_6, tk_526⟩
theorem zg_WayFinder_85 : zq_gV "GridRouter$WayFinder" 85 zy_Rules_isBarred zc_Rules_isBarred 3 (some .boolean) := ⟨tk_522, tk_454, tk_455, tk_6, tk_456⟩
theorem zg_WayFinder_94 : zq_gV "GridRouter$WayFinder" 94 zy_WayFinder_enqueue zc_WayFinder_enqueue 3 none := ⟨tk_536, tk_538, ts_7, tk_10, tk_539⟩
theorem zg_WayFinder_101 : zq_gV "GridRouter$WayFinder" 101 zy_WayFinder_spreadFrom zc_WayFinder_spreadFrom 5 none := ⟨tk_544, tk_546, ts_9, tk_10, tk_547⟩
theorem zg_WayFinder_97 : zq_gV "GridRouter$WayFinder" 97 zy_WayFinder_dequeue zc_WayFinder_dequeue 2 (some .int) := ⟨tk_540, tk_542, ts_8, tk_10, tk_543⟩
theorem zg_WayFinder_107 : zq_gV "GridRouter$WayFinder" 107 zy_WayFinder_stepCost zc_WayFinder_stepCost 2 (some .int) := ⟨tk_549, tk_551, ts_10, tk_10, tk_552⟩
theorem zg_WayFinder_104 : zq_gV "GridRouter$WayFinder" 104 zy_Grid_next zc_Grid_next 3 (some .int) := ⟨tk_548, tk_334, tk_335, tk_2, tk_336⟩
theorem zg_WayFinder_111 : zq_gV "GridRouter$WayFinder" 111 zy_WayFinder_predecessor zc_WayFinder_predecessor 4 (some .int) := ⟨tk_557, tk_559, ts_12, tk_10, tk_560⟩
end
